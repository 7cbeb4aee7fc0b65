theorem dX5_init_0 : decode cX5_init 0 = .ok (.aload_n 0, 1) := by decide +kernel
theorem dX5_init_1 : decode cX5_init 1 = .ok (.invokespecial 3, 3) := by decide +kernel
theorem dX5_init_4 : decode cX5_init 4 = .ok (.aload_n 0, 1) := by decide +kernel
theorem dX5_init_5 : decode cX5_init 5 = .ok (.new 9, 3) := by decide +kernel
theorem dX5_init_8 : decode cX5_init 8 = .ok (.dup, 1) := by decide +kernel
theorem dX5_init_9 : decode cX5_init 9 = .ok (.iconst 4, 1) := by decide +kernel
theorem dX5_init_10 : decode cX5_init 10 = .ok (.invokespecial 11, 3) := by decide +kernel
theorem dX5_init_13 : decode cX5_init 13 = .ok (.putfield 14, 3) := by decide +kernel
theorem dX5_init_16 : decode cX5_init 16 = .ok (.aload_n 0, 1) := by decide +kernel
theorem dX5_init_17 : decode cX5_init 17 = .ok (.new 9, 3) := by decide +kernel
theorem dX5_init_20 : decode cX5_init 20 = .ok (.dup, 1) := by decide +kernel
theorem dX5_init_21 : decode cX5_init 21 = .ok (.bipush 6, 2) := by decide +kernel
theorem dX5_init_23 : decode cX5_init 23 = .ok (.invokespecial 11, 3) := by decide +kernel
theorem dX5_init_26 : decode cX5_init 26 = .ok (.putfield 20, 3) := by decide +kernel
theorem dX5_init_29 : decode cX5_init 29 = .ok (.aload_n 0, 1) := by decide +kernel
theorem dX5_init_30 : decode cX5_init 30 = .ok (.new 9, 3) := by decide +kernel
theorem dX5_init_33 : decode cX5_init 33 = .ok (.dup, 1) := by decide +kernel
theorem dX5_init_34 : decode cX5_init 34 = .ok (.bipush 6, 2) := by decide +kernel
theorem dX5_init_36 : decode cX5_init 36 = .ok (.invokespecial 11, 3) := by decide +kernel
theorem dX5_init_39 : decode cX5_init 39 = .ok (.putfield 23, 3) := by decide +kernel
theorem dX5_init_42 : decode cX5_init 42 = .ok (.aload_n 0, 1) := by decide +kernel
theorem dX5_init_43 : decode cX5_init 43 = .ok (.new 9, 3) := by decide +kernel
theorem dX5_init_46 : decode cX5_init 46 = .ok (.dup, 1) := by decide +kernel
theorem dX5_init_47 : decode cX5_init 47 = .ok (.bipush 8, 2) := by decide +kernel
theorem dX5_init_49 : decode cX5_init 49 = .ok (.invokespecial 11, 3) := by decide +kernel
theorem dX5_init_52 : decode cX5_init 52 = .ok (.putfield 26, 3) := by decide +kernel
theorem dX5_init_55 : decode cX5_init 55 = .ok (.aload_n 0, 1) := by decide +kernel
theorem dX5_init_56 : decode cX5_init 56 = .ok (.new 9, 3) := by decide +kernel
theorem dX5_init_59 : decode cX5_init 59 = .ok (.dup, 1) := by decide +kernel
theorem dX5_init_60 : decode cX5_init 60 = .ok (.bipush 8, 2) := by decide +kernel
theorem dX5_init_62 : decode cX5_init 62 = .ok (.invokespecial 11, 3) := by decide +kernel
theorem dX5_init_65 : decode cX5_init 65 = .ok (.putfield 29, 3) := by decide +kernel
theorem dX5_init_68 : decode cX5_init 68 = .ok (.aload_n 0, 1) := by decide +kernel
theorem dX5_init_69 : decode cX5_init 69 = .ok (.new 9, 3) := by decide +kernel
theorem dX5_init_72 : decode cX5_init 72 = .ok (.dup, 1) := by decide +kernel
theorem dX5_init_73 : decode cX5_init 73 = .ok (.bipush 8, 2) := by decide +kernel
theorem dX5_init_75 : decode cX5_init 75 = .ok (.invokespecial 11, 3) := by decide +kernel
theorem dX5_init_78 : decode cX5_init 78 = .ok (.putfield 32, 3) := by decide +kernel
theorem dX5_init_81 : decode cX5_init 81 = .ok (.aload_n 0, 1) := by decide +kernel
theorem dX5_init_82 : decode cX5_init 82 = .ok (.new 9, 3) := by decide +kernel
theorem dX5_init_85 : decode cX5_init 85 = .ok (.dup, 1) := by decide +kernel
theorem dX5_init_86 : decode cX5_init 86 = .ok (.bipush 8, 2) := by decide +kernel
theorem dX5_init_88 : decode cX5_init 88 = .ok (.invokespecial 11, 3) := by decide +kernel
theorem dX5_init_91 : decode cX5_init 91 = .ok (.putfield 35, 3) := by decide +kernel
theorem dX5_init_94 : decode cX5_init 94 = .ok (.return_, 1) := by decide +kernel
theorem dX5_load_0 : decode cX5_load 0 = .ok (.aload_n 0, 1) := by decide +kernel
theorem dX5_load_1 : decode cX5_load 1 = .ok (.getfield 14, 3) := by decide +kernel
theorem dX5_load_4 : decode cX5_load 4 = .ok (.invokevirtual 38, 3) := by decide +kernel
theorem dX5_load_7 : decode cX5_load 7 = .ok (.aload_n 0, 1) := by decide +kernel
theorem dX5_load_8 : decode cX5_load 8 = .ok (.getfield 20, 3) := by decide +kernel
theorem dX5_load_11 : decode cX5_load 11 = .ok (.invokevirtual 38, 3) := by decide +kernel
theorem dX5_load_14 : decode cX5_load 14 = .ok (.aload_n 0, 1) := by decide +kernel
theorem dX5_load_15 : decode cX5_load 15 = .ok (.getfield 23, 3) := by decide +kernel
theorem dX5_load_18 : decode cX5_load 18 = .ok (.invokevirtual 38, 3) := by decide +kernel
theorem dX5_load_21 : decode cX5_load 21 = .ok (.iconst 0, 1) := by decide +kernel
theorem dX5_load_22 : decode cX5_load 22 = .ok (.istore_n 3, 1) := by decide +kernel
theorem dX5_load_23 : decode cX5_load 23 = .ok (.iload_n 3, 1) := by decide +kernel
theorem dX5_load_24 : decode cX5_load 24 = .ok (.aload_n 1, 1) := by decide +kernel
theorem dX5_load_25 : decode cX5_load 25 = .ok (.invokevirtual 41, 3) := by decide +kernel
theorem dX5_load_28 : decode cX5_load 28 = .ok (.if_icmp .ge 72, 3) := by decide +kernel
theorem dX5_load_31 : decode cX5_load 31 = .ok (.aload_n 0, 1) := by decide +kernel
theorem dX5_load_32 : decode cX5_load 32 = .ok (.getfield 14, 3) := by decide +kernel
theorem dX5_load_35 : decode cX5_load 35 = .ok (.aload_n 1, 1) := by decide +kernel
theorem dX5_load_36 : decode cX5_load 36 = .ok (.iload_n 3, 1) := by decide +kernel
theorem dX5_load_37 : decode cX5_load 37 = .ok (.invokevirtual 47, 3) := by decide +kernel
theorem dX5_load_40 : decode cX5_load 40 = .ok (.invokevirtual 51, 3) := by decide +kernel
theorem dX5_load_43 : decode cX5_load 43 = .ok (.iconst 0, 1) := by decide +kernel
theorem dX5_load_44 : decode cX5_load 44 = .ok (.istore 4, 2) := by decide +kernel
theorem dX5_load_46 : decode cX5_load 46 = .ok (.iload 4, 2) := by decide +kernel
theorem dX5_load_48 : decode cX5_load 48 = .ok (.iload_n 3, 1) := by decide +kernel
theorem dX5_load_49 : decode cX5_load 49 = .ok (.if_icmp .ge 45, 3) := by decide +kernel
theorem dX5_load_52 : decode cX5_load 52 = .ok (.aload_n 2, 1) := by decide +kernel
theorem dX5_load_53 : decode cX5_load 53 = .ok (.iload 4, 2) := by decide +kernel
theorem dX5_load_55 : decode cX5_load 55 = .ok (.aload_n 2, 1) := by decide +kernel
theorem dX5_load_56 : decode cX5_load 56 = .ok (.iload_n 3, 1) := by decide +kernel
theorem dX5_load_57 : decode cX5_load 57 = .ok (.invokevirtual 54, 3) := by decide +kernel
theorem dX5_load_60 : decode cX5_load 60 = .ok (.aload_n 2, 1) := by decide +kernel
theorem dX5_load_61 : decode cX5_load 61 = .ok (.iload_n 3, 1) := by decide +kernel
theorem dX5_load_62 : decode cX5_load 62 = .ok (.invokevirtual 47, 3) := by decide +kernel
theorem dX5_load_65 : decode cX5_load 65 = .ok (.invokevirtual 57, 3) := by decide +kernel
theorem dX5_load_68 : decode cX5_load 68 = .ok (.ifCond .eq 20, 3) := by decide +kernel
theorem dX5_load_71 : decode cX5_load 71 = .ok (.aload_n 0, 1) := by decide +kernel
theorem dX5_load_72 : decode cX5_load 72 = .ok (.getfield 20, 3) := by decide +kernel
theorem dX5_load_75 : decode cX5_load 75 = .ok (.iload 4, 2) := by decide +kernel
theorem dX5_load_77 : decode cX5_load 77 = .ok (.invokevirtual 51, 3) := by decide +kernel
theorem dX5_load_80 : decode cX5_load 80 = .ok (.aload_n 0, 1) := by decide +kernel
theorem dX5_load_81 : decode cX5_load 81 = .ok (.getfield 23, 3) := by decide +kernel
theorem dX5_load_84 : decode cX5_load 84 = .ok (.iload_n 3, 1) := by decide +kernel
theorem dX5_load_85 : decode cX5_load 85 = .ok (.invokevirtual 51, 3) := by decide +kernel
theorem dX5_load_88 : decode cX5_load 88 = .ok (.iinc 4 1, 3) := by decide +kernel
theorem dX5_load_91 : decode cX5_load 91 = .ok (.goto (-45), 3) := by decide +kernel
theorem dX5_load_94 : decode cX5_load 94 = .ok (.iinc 3 1, 3) := by decide +kernel
theorem dX5_load_97 : decode cX5_load 97 = .ok (.goto (-74), 3) := by decide +kernel
theorem dX5_load_100 : decode cX5_load 100 = .ok (.return_, 1) := by decide +kernel
theorem dX5_loadWishes_0 : decode cX5_loadWishes 0 = .ok (.aload_n 0, 1) := by decide +kernel
theorem dX5_loadWishes_1 : decode cX5_loadWishes 1 = .ok (.getfield 26, 3) := by decide +kernel
theorem dX5_loadWishes_4 : decode cX5_loadWishes 4 = .ok (.invokevirtual 38, 3) := by decide +kernel
theorem dX5_loadWishes_7 : decode cX5_loadWishes 7 = .ok (.aload_n 0, 1) := by decide +kernel
theorem dX5_loadWishes_8 : decode cX5_loadWishes 8 = .ok (.getfield 29, 3) := by decide +kernel
theorem dX5_loadWishes_11 : decode cX5_loadWishes 11 = .ok (.invokevirtual 38, 3) := by decide +kernel
theorem dX5_loadWishes_14 : decode cX5_loadWishes 14 = .ok (.aload_n 0, 1) := by decide +kernel
theorem dX5_loadWishes_15 : decode cX5_loadWishes 15 = .ok (.getfield 32, 3) := by decide +kernel
theorem dX5_loadWishes_18 : decode cX5_loadWishes 18 = .ok (.invokevirtual 38, 3) := by decide +kernel
theorem dX5_loadWishes_21 : decode cX5_loadWishes 21 = .ok (.aload_n 0, 1) := by decide +kernel
theorem dX5_loadWishes_22 : decode cX5_loadWishes 22 = .ok (.getfield 35, 3) := by decide +kernel
theorem dX5_loadWishes_25 : decode cX5_loadWishes 25 = .ok (.invokevirtual 38, 3) := by decide +kernel
theorem dX5_loadWishes_28 : decode cX5_loadWishes 28 = .ok (.iconst 0, 1) := by decide +kernel
theorem dX5_loadWishes_29 : decode cX5_loadWishes 29 = .ok (.istore_n 3, 1) := by decide +kernel
theorem dX5_loadWishes_30 : decode cX5_loadWishes 30 = .ok (.iload_n 3, 1) := by decide +kernel
theorem dX5_loadWishes_31 : decode cX5_loadWishes 31 = .ok (.aload_n 1, 1) := by decide +kernel
theorem dX5_loadWishes_32 : decode cX5_loadWishes 32 = .ok (.invokevirtual 61, 3) := by decide +kernel
theorem dX5_loadWishes_35 : decode cX5_loadWishes 35 = .ok (.if_icmp .ge 90, 3) := by decide +kernel
theorem dX5_loadWishes_38 : decode cX5_loadWishes 38 = .ok (.aload_n 1, 1) := by decide +kernel
theorem dX5_loadWishes_39 : decode cX5_loadWishes 39 = .ok (.iload_n 3, 1) := by decide +kernel
theorem dX5_loadWishes_40 : decode cX5_loadWishes 40 = .ok (.invokevirtual 66, 3) := by decide +kernel
theorem dX5_loadWishes_43 : decode cX5_loadWishes 43 = .ok (.ifCond .eq 76, 3) := by decide +kernel
theorem dX5_loadWishes_46 : decode cX5_loadWishes 46 = .ok (.aload_n 1, 1) := by decide +kernel
theorem dX5_loadWishes_47 : decode cX5_loadWishes 47 = .ok (.iload_n 3, 1) := by decide +kernel
theorem dX5_loadWishes_48 : decode cX5_loadWishes 48 = .ok (.invokevirtual 70, 3) := by decide +kernel
theorem dX5_loadWishes_51 : decode cX5_loadWishes 51 = .ok (.iload_n 2, 1) := by decide +kernel
theorem dX5_loadWishes_52 : decode cX5_loadWishes 52 = .ok (.if_icmp .ne 67, 3) := by decide +kernel
theorem dX5_loadWishes_55 : decode cX5_loadWishes 55 = .ok (.aload_n 0, 1) := by decide +kernel
theorem dX5_loadWishes_56 : decode cX5_loadWishes 56 = .ok (.getfield 26, 3) := by decide +kernel
theorem dX5_loadWishes_59 : decode cX5_loadWishes 59 = .ok (.aload_n 1, 1) := by decide +kernel
theorem dX5_loadWishes_60 : decode cX5_loadWishes 60 = .ok (.iload_n 3, 1) := by decide +kernel
theorem dX5_loadWishes_61 : decode cX5_loadWishes 61 = .ok (.invokevirtual 74, 3) := by decide +kernel
theorem dX5_loadWishes_64 : decode cX5_loadWishes 64 = .ok (.aload_n 1, 1) := by decide +kernel
theorem dX5_loadWishes_65 : decode cX5_loadWishes 65 = .ok (.iload_n 3, 1) := by decide +kernel
theorem dX5_loadWishes_66 : decode cX5_loadWishes 66 = .ok (.invokevirtual 77, 3) := by decide +kernel
theorem dX5_loadWishes_69 : decode cX5_loadWishes 69 = .ok (.invokestatic 80, 3) := by decide +kernel
theorem dX5_loadWishes_72 : decode cX5_loadWishes 72 = .ok (.invokevirtual 51, 3) := by decide +kernel
theorem dX5_loadWishes_75 : decode cX5_loadWishes 75 = .ok (.aload_n 0, 1) := by decide +kernel
theorem dX5_loadWishes_76 : decode cX5_loadWishes 76 = .ok (.getfield 29, 3) := by decide +kernel
theorem dX5_loadWishes_79 : decode cX5_loadWishes 79 = .ok (.aload_n 1, 1) := by decide +kernel
theorem dX5_loadWishes_80 : decode cX5_loadWishes 80 = .ok (.iload_n 3, 1) := by decide +kernel
theorem dX5_loadWishes_81 : decode cX5_loadWishes 81 = .ok (.invokevirtual 74, 3) := by decide +kernel
theorem dX5_loadWishes_84 : decode cX5_loadWishes 84 = .ok (.aload_n 1, 1) := by decide +kernel
theorem dX5_loadWishes_85 : decode cX5_loadWishes 85 = .ok (.iload_n 3, 1) := by decide +kernel
theorem dX5_loadWishes_86 : decode cX5_loadWishes 86 = .ok (.invokevirtual 77, 3) := by decide +kernel
theorem dX5_loadWishes_89 : decode cX5_loadWishes 89 = .ok (.invokestatic 86, 3) := by decide +kernel
theorem dX5_loadWishes_92 : decode cX5_loadWishes 92 = .ok (.invokevirtual 51, 3) := by decide +kernel
theorem dX5_loadWishes_95 : decode cX5_loadWishes 95 = .ok (.aload_n 0, 1) := by decide +kernel
theorem dX5_loadWishes_96 : decode cX5_loadWishes 96 = .ok (.getfield 32, 3) := by decide +kernel
theorem dX5_loadWishes_99 : decode cX5_loadWishes 99 = .ok (.aload_n 1, 1) := by decide +kernel
theorem dX5_loadWishes_100 : decode cX5_loadWishes 100 = .ok (.iload_n 3, 1) := by decide +kernel
theorem dX5_loadWishes_101 : decode cX5_loadWishes 101 = .ok (.invokevirtual 89, 3) := by decide +kernel
theorem dX5_loadWishes_104 : decode cX5_loadWishes 104 = .ok (.invokevirtual 51, 3) := by decide +kernel
theorem dX5_loadWishes_107 : decode cX5_loadWishes 107 = .ok (.aload_n 0, 1) := by decide +kernel
theorem dX5_loadWishes_108 : decode cX5_loadWishes 108 = .ok (.getfield 35, 3) := by decide +kernel
theorem dX5_loadWishes_111 : decode cX5_loadWishes 111 = .ok (.aload_n 1, 1) := by decide +kernel
theorem dX5_loadWishes_112 : decode cX5_loadWishes 112 = .ok (.iload_n 3, 1) := by decide +kernel
theorem dX5_loadWishes_113 : decode cX5_loadWishes 113 = .ok (.invokevirtual 92, 3) := by decide +kernel
theorem dX5_loadWishes_116 : decode cX5_loadWishes 116 = .ok (.invokevirtual 51, 3) := by decide +kernel
theorem dX5_loadWishes_119 : decode cX5_loadWishes 119 = .ok (.iinc 3 1, 3) := by decide +kernel
theorem dX5_loadWishes_122 : decode cX5_loadWishes 122 = .ok (.goto (-92), 3) := by decide +kernel
theorem dX5_loadWishes_125 : decode cX5_loadWishes 125 = .ok (.return_, 1) := by decide +kernel
theorem dX5_keepsApart_0 : decode cX5_keepsApart 0 = .ok (.iconst 0, 1) := by decide +kernel
theorem dX5_keepsApart_1 : decode cX5_keepsApart 1 = .ok (.istore 4, 2) := by decide +kernel
theorem dX5_keepsApart_3 : decode cX5_keepsApart 3 = .ok (.iload 4, 2) := by decide +kernel
theorem dX5_keepsApart_5 : decode cX5_keepsApart 5 = .ok (.aload_n 0, 1) := by decide +kernel
theorem dX5_keepsApart_6 : decode cX5_keepsApart 6 = .ok (.getfield 20, 3) := by decide +kernel
theorem dX5_keepsApart_9 : decode cX5_keepsApart 9 = .ok (.invokevirtual 95, 3) := by decide +kernel
theorem dX5_keepsApart_12 : decode cX5_keepsApart 12 = .ok (.if_icmp .ge 95, 3) := by decide +kernel
theorem dX5_keepsApart_15 : decode cX5_keepsApart 15 = .ok (.aload_n 0, 1) := by decide +kernel
theorem dX5_keepsApart_16 : decode cX5_keepsApart 16 = .ok (.getfield 20, 3) := by decide +kernel
theorem dX5_keepsApart_19 : decode cX5_keepsApart 19 = .ok (.iload 4, 2) := by decide +kernel
theorem dX5_keepsApart_21 : decode cX5_keepsApart 21 = .ok (.invokevirtual 98, 3) := by decide +kernel
theorem dX5_keepsApart_24 : decode cX5_keepsApart 24 = .ok (.istore 5, 2) := by decide +kernel
theorem dX5_keepsApart_26 : decode cX5_keepsApart 26 = .ok (.aload_n 0, 1) := by decide +kernel
theorem dX5_keepsApart_27 : decode cX5_keepsApart 27 = .ok (.getfield 23, 3) := by decide +kernel
theorem dX5_keepsApart_30 : decode cX5_keepsApart 30 = .ok (.iload 4, 2) := by decide +kernel
theorem dX5_keepsApart_32 : decode cX5_keepsApart 32 = .ok (.invokevirtual 98, 3) := by decide +kernel
theorem dX5_keepsApart_35 : decode cX5_keepsApart 35 = .ok (.istore 6, 2) := by decide +kernel
theorem dX5_keepsApart_37 : decode cX5_keepsApart 37 = .ok (.iload 6, 2) := by decide +kernel
theorem dX5_keepsApart_39 : decode cX5_keepsApart 39 = .ok (.iload_n 2, 1) := by decide +kernel
theorem dX5_keepsApart_40 : decode cX5_keepsApart 40 = .ok (.if_icmp .lt 61, 3) := by decide +kernel
theorem dX5_keepsApart_43 : decode cX5_keepsApart 43 = .ok (.iload 6, 2) := by decide +kernel
theorem dX5_keepsApart_45 : decode cX5_keepsApart 45 = .ok (.iload_n 3, 1) := by decide +kernel
theorem dX5_keepsApart_46 : decode cX5_keepsApart 46 = .ok (.if_icmp .gt 55, 3) := by decide +kernel
theorem dX5_keepsApart_49 : decode cX5_keepsApart 49 = .ok (.aload_n 1, 1) := by decide +kernel
theorem dX5_keepsApart_50 : decode cX5_keepsApart 50 = .ok (.iload 5, 2) := by decide +kernel
theorem dX5_keepsApart_52 : decode cX5_keepsApart 52 = .ok (.invokevirtual 98, 3) := by decide +kernel
theorem dX5_keepsApart_55 : decode cX5_keepsApart 55 = .ok (.aload_n 1, 1) := by decide +kernel
theorem dX5_keepsApart_56 : decode cX5_keepsApart 56 = .ok (.iload 6, 2) := by decide +kernel
theorem dX5_keepsApart_58 : decode cX5_keepsApart 58 = .ok (.invokevirtual 98, 3) := by decide +kernel
theorem dX5_keepsApart_61 : decode cX5_keepsApart 61 = .ok (.aload_n 0, 1) := by decide +kernel
theorem dX5_keepsApart_62 : decode cX5_keepsApart 62 = .ok (.getfield 14, 3) := by decide +kernel
theorem dX5_keepsApart_65 : decode cX5_keepsApart 65 = .ok (.iload 6, 2) := by decide +kernel
theorem dX5_keepsApart_67 : decode cX5_keepsApart 67 = .ok (.invokevirtual 98, 3) := by decide +kernel
theorem dX5_keepsApart_70 : decode cX5_keepsApart 70 = .ok (.iadd, 1) := by decide +kernel
theorem dX5_keepsApart_71 : decode cX5_keepsApart 71 = .ok (.if_icmp .ge 30, 3) := by decide +kernel
theorem dX5_keepsApart_74 : decode cX5_keepsApart 74 = .ok (.aload_n 1, 1) := by decide +kernel
theorem dX5_keepsApart_75 : decode cX5_keepsApart 75 = .ok (.iload 6, 2) := by decide +kernel
theorem dX5_keepsApart_77 : decode cX5_keepsApart 77 = .ok (.invokevirtual 98, 3) := by decide +kernel
theorem dX5_keepsApart_80 : decode cX5_keepsApart 80 = .ok (.aload_n 1, 1) := by decide +kernel
theorem dX5_keepsApart_81 : decode cX5_keepsApart 81 = .ok (.iload 5, 2) := by decide +kernel
theorem dX5_keepsApart_83 : decode cX5_keepsApart 83 = .ok (.invokevirtual 98, 3) := by decide +kernel
theorem dX5_keepsApart_86 : decode cX5_keepsApart 86 = .ok (.aload_n 0, 1) := by decide +kernel
theorem dX5_keepsApart_87 : decode cX5_keepsApart 87 = .ok (.getfield 14, 3) := by decide +kernel
theorem dX5_keepsApart_90 : decode cX5_keepsApart 90 = .ok (.iload 5, 2) := by decide +kernel
theorem dX5_keepsApart_92 : decode cX5_keepsApart 92 = .ok (.invokevirtual 98, 3) := by decide +kernel
theorem dX5_keepsApart_95 : decode cX5_keepsApart 95 = .ok (.iadd, 1) := by decide +kernel
theorem dX5_keepsApart_96 : decode cX5_keepsApart 96 = .ok (.if_icmp .ge 5, 3) := by decide +kernel
theorem dX5_keepsApart_99 : decode cX5_keepsApart 99 = .ok (.iconst 0, 1) := by decide +kernel
theorem dX5_keepsApart_100 : decode cX5_keepsApart 100 = .ok (.ireturn, 1) := by decide +kernel
theorem dX5_keepsApart_101 : decode cX5_keepsApart 101 = .ok (.iinc 4 1, 3) := by decide +kernel
theorem dX5_keepsApart_104 : decode cX5_keepsApart 104 = .ok (.goto (-101), 3) := by decide +kernel
theorem dX5_keepsApart_107 : decode cX5_keepsApart 107 = .ok (.iconst 1, 1) := by decide +kernel
theorem dX5_keepsApart_108 : decode cX5_keepsApart 108 = .ok (.ireturn, 1) := by decide +kernel
theorem dX5_strengthOf_0 : decode cX5_strengthOf 0 = .ok (.iconst 0, 1) := by decide +kernel
theorem dX5_strengthOf_1 : decode cX5_strengthOf 1 = .ok (.istore 4, 2) := by decide +kernel
theorem dX5_strengthOf_3 : decode cX5_strengthOf 3 = .ok (.iconst 0, 1) := by decide +kernel
theorem dX5_strengthOf_4 : decode cX5_strengthOf 4 = .ok (.istore 5, 2) := by decide +kernel
theorem dX5_strengthOf_6 : decode cX5_strengthOf 6 = .ok (.iload 5, 2) := by decide +kernel
theorem dX5_strengthOf_8 : decode cX5_strengthOf 8 = .ok (.aload_n 0, 1) := by decide +kernel
theorem dX5_strengthOf_9 : decode cX5_strengthOf 9 = .ok (.getfield 26, 3) := by decide +kernel
theorem dX5_strengthOf_12 : decode cX5_strengthOf 12 = .ok (.invokevirtual 95, 3) := by decide +kernel
theorem dX5_strengthOf_15 : decode cX5_strengthOf 15 = .ok (.if_icmp .ge 113, 3) := by decide +kernel
theorem dX5_strengthOf_18 : decode cX5_strengthOf 18 = .ok (.aload_n 0, 1) := by decide +kernel
theorem dX5_strengthOf_19 : decode cX5_strengthOf 19 = .ok (.getfield 26, 3) := by decide +kernel
theorem dX5_strengthOf_22 : decode cX5_strengthOf 22 = .ok (.iload 5, 2) := by decide +kernel
theorem dX5_strengthOf_24 : decode cX5_strengthOf 24 = .ok (.invokevirtual 98, 3) := by decide +kernel
theorem dX5_strengthOf_27 : decode cX5_strengthOf 27 = .ok (.istore 6, 2) := by decide +kernel
theorem dX5_strengthOf_29 : decode cX5_strengthOf 29 = .ok (.aload_n 0, 1) := by decide +kernel
theorem dX5_strengthOf_30 : decode cX5_strengthOf 30 = .ok (.getfield 29, 3) := by decide +kernel
theorem dX5_strengthOf_33 : decode cX5_strengthOf 33 = .ok (.iload 5, 2) := by decide +kernel
theorem dX5_strengthOf_35 : decode cX5_strengthOf 35 = .ok (.invokevirtual 98, 3) := by decide +kernel
theorem dX5_strengthOf_38 : decode cX5_strengthOf 38 = .ok (.istore 7, 2) := by decide +kernel
theorem dX5_strengthOf_40 : decode cX5_strengthOf 40 = .ok (.aload_n 0, 1) := by decide +kernel
theorem dX5_strengthOf_41 : decode cX5_strengthOf 41 = .ok (.getfield 32, 3) := by decide +kernel
theorem dX5_strengthOf_44 : decode cX5_strengthOf 44 = .ok (.iload 5, 2) := by decide +kernel
theorem dX5_strengthOf_46 : decode cX5_strengthOf 46 = .ok (.invokevirtual 98, 3) := by decide +kernel
theorem dX5_strengthOf_49 : decode cX5_strengthOf 49 = .ok (.istore 8, 2) := by decide +kernel
theorem dX5_strengthOf_51 : decode cX5_strengthOf 51 = .ok (.iload 7, 2) := by decide +kernel
theorem dX5_strengthOf_53 : decode cX5_strengthOf 53 = .ok (.iload_n 2, 1) := by decide +kernel
theorem dX5_strengthOf_54 : decode cX5_strengthOf 54 = .ok (.if_icmp .lt 68, 3) := by decide +kernel
theorem dX5_strengthOf_57 : decode cX5_strengthOf 57 = .ok (.iload 7, 2) := by decide +kernel
theorem dX5_strengthOf_59 : decode cX5_strengthOf 59 = .ok (.iload_n 3, 1) := by decide +kernel
theorem dX5_strengthOf_60 : decode cX5_strengthOf 60 = .ok (.if_icmp .gt 62, 3) := by decide +kernel
theorem dX5_strengthOf_63 : decode cX5_strengthOf 63 = .ok (.iconst 2, 1) := by decide +kernel
theorem dX5_strengthOf_64 : decode cX5_strengthOf 64 = .ok (.aload_n 1, 1) := by decide +kernel
theorem dX5_strengthOf_65 : decode cX5_strengthOf 65 = .ok (.iload 6, 2) := by decide +kernel
theorem dX5_strengthOf_67 : decode cX5_strengthOf 67 = .ok (.invokevirtual 98, 3) := by decide +kernel
theorem dX5_strengthOf_70 : decode cX5_strengthOf 70 = .ok (.imul, 1) := by decide +kernel
theorem dX5_strengthOf_71 : decode cX5_strengthOf 71 = .ok (.iload 8, 2) := by decide +kernel
theorem dX5_strengthOf_73 : decode cX5_strengthOf 73 = .ok (.aload_n 0, 1) := by decide +kernel
theorem dX5_strengthOf_74 : decode cX5_strengthOf 74 = .ok (.getfield 14, 3) := by decide +kernel
theorem dX5_strengthOf_77 : decode cX5_strengthOf 77 = .ok (.iload 6, 2) := by decide +kernel
theorem dX5_strengthOf_79 : decode cX5_strengthOf 79 = .ok (.invokevirtual 98, 3) := by decide +kernel
theorem dX5_strengthOf_82 : decode cX5_strengthOf 82 = .ok (.imul, 1) := by decide +kernel
theorem dX5_strengthOf_83 : decode cX5_strengthOf 83 = .ok (.iadd, 1) := by decide +kernel
theorem dX5_strengthOf_84 : decode cX5_strengthOf 84 = .ok (.iconst 2, 1) := by decide +kernel
theorem dX5_strengthOf_85 : decode cX5_strengthOf 85 = .ok (.aload_n 1, 1) := by decide +kernel
theorem dX5_strengthOf_86 : decode cX5_strengthOf 86 = .ok (.iload 7, 2) := by decide +kernel
theorem dX5_strengthOf_88 : decode cX5_strengthOf 88 = .ok (.invokevirtual 98, 3) := by decide +kernel
theorem dX5_strengthOf_91 : decode cX5_strengthOf 91 = .ok (.imul, 1) := by decide +kernel
theorem dX5_strengthOf_92 : decode cX5_strengthOf 92 = .ok (.iload 8, 2) := by decide +kernel
theorem dX5_strengthOf_94 : decode cX5_strengthOf 94 = .ok (.aload_n 0, 1) := by decide +kernel
theorem dX5_strengthOf_95 : decode cX5_strengthOf 95 = .ok (.getfield 14, 3) := by decide +kernel
theorem dX5_strengthOf_98 : decode cX5_strengthOf 98 = .ok (.iload 7, 2) := by decide +kernel
theorem dX5_strengthOf_100 : decode cX5_strengthOf 100 = .ok (.invokevirtual 98, 3) := by decide +kernel
theorem dX5_strengthOf_103 : decode cX5_strengthOf 103 = .ok (.imul, 1) := by decide +kernel
theorem dX5_strengthOf_104 : decode cX5_strengthOf 104 = .ok (.iadd, 1) := by decide +kernel
theorem dX5_strengthOf_105 : decode cX5_strengthOf 105 = .ok (.if_icmp .ne 17, 3) := by decide +kernel
theorem dX5_strengthOf_108 : decode cX5_strengthOf 108 = .ok (.iload 4, 2) := by decide +kernel
theorem dX5_strengthOf_110 : decode cX5_strengthOf 110 = .ok (.aload_n 0, 1) := by decide +kernel
theorem dX5_strengthOf_111 : decode cX5_strengthOf 111 = .ok (.getfield 35, 3) := by decide +kernel
theorem dX5_strengthOf_114 : decode cX5_strengthOf 114 = .ok (.iload 5, 2) := by decide +kernel
theorem dX5_strengthOf_116 : decode cX5_strengthOf 116 = .ok (.invokevirtual 98, 3) := by decide +kernel
theorem dX5_strengthOf_119 : decode cX5_strengthOf 119 = .ok (.iadd, 1) := by decide +kernel
theorem dX5_strengthOf_120 : decode cX5_strengthOf 120 = .ok (.istore 4, 2) := by decide +kernel
theorem dX5_strengthOf_122 : decode cX5_strengthOf 122 = .ok (.iinc 5 1, 3) := by decide +kernel
theorem dX5_strengthOf_125 : decode cX5_strengthOf 125 = .ok (.goto (-119), 3) := by decide +kernel
theorem dX5_strengthOf_128 : decode cX5_strengthOf 128 = .ok (.iload 4, 2) := by decide +kernel
theorem dX5_strengthOf_130 : decode cX5_strengthOf 130 = .ok (.ireturn, 1) := by decide +kernel
theorem dX5_strengthAtMost_0 : decode cX5_strengthAtMost 0 = .ok (.iconst 0, 1) := by decide +kernel
theorem dX5_strengthAtMost_1 : decode cX5_strengthAtMost 1 = .ok (.istore_n 2, 1) := by decide +kernel
theorem dX5_strengthAtMost_2 : decode cX5_strengthAtMost 2 = .ok (.iconst 0, 1) := by decide +kernel
theorem dX5_strengthAtMost_3 : decode cX5_strengthAtMost 3 = .ok (.istore_n 3, 1) := by decide +kernel
theorem dX5_strengthAtMost_4 : decode cX5_strengthAtMost 4 = .ok (.iload_n 3, 1) := by decide +kernel
theorem dX5_strengthAtMost_5 : decode cX5_strengthAtMost 5 = .ok (.aload_n 0, 1) := by decide +kernel
theorem dX5_strengthAtMost_6 : decode cX5_strengthAtMost 6 = .ok (.getfield 26, 3) := by decide +kernel
theorem dX5_strengthAtMost_9 : decode cX5_strengthAtMost 9 = .ok (.invokevirtual 95, 3) := by decide +kernel
theorem dX5_strengthAtMost_12 : decode cX5_strengthAtMost 12 = .ok (.if_icmp .ge 32, 3) := by decide +kernel
theorem dX5_strengthAtMost_15 : decode cX5_strengthAtMost 15 = .ok (.aload_n 0, 1) := by decide +kernel
theorem dX5_strengthAtMost_16 : decode cX5_strengthAtMost 16 = .ok (.getfield 29, 3) := by decide +kernel
theorem dX5_strengthAtMost_19 : decode cX5_strengthAtMost 19 = .ok (.iload_n 3, 1) := by decide +kernel
theorem dX5_strengthAtMost_20 : decode cX5_strengthAtMost 20 = .ok (.invokevirtual 98, 3) := by decide +kernel
theorem dX5_strengthAtMost_23 : decode cX5_strengthAtMost 23 = .ok (.iload_n 1, 1) := by decide +kernel
theorem dX5_strengthAtMost_24 : decode cX5_strengthAtMost 24 = .ok (.if_icmp .lt 14, 3) := by decide +kernel
theorem dX5_strengthAtMost_27 : decode cX5_strengthAtMost 27 = .ok (.iload_n 2, 1) := by decide +kernel
theorem dX5_strengthAtMost_28 : decode cX5_strengthAtMost 28 = .ok (.aload_n 0, 1) := by decide +kernel
theorem dX5_strengthAtMost_29 : decode cX5_strengthAtMost 29 = .ok (.getfield 35, 3) := by decide +kernel
theorem dX5_strengthAtMost_32 : decode cX5_strengthAtMost 32 = .ok (.iload_n 3, 1) := by decide +kernel
theorem dX5_strengthAtMost_33 : decode cX5_strengthAtMost 33 = .ok (.invokevirtual 98, 3) := by decide +kernel
theorem dX5_strengthAtMost_36 : decode cX5_strengthAtMost 36 = .ok (.iadd, 1) := by decide +kernel
theorem dX5_strengthAtMost_37 : decode cX5_strengthAtMost 37 = .ok (.istore_n 2, 1) := by decide +kernel
theorem dX5_strengthAtMost_38 : decode cX5_strengthAtMost 38 = .ok (.iinc 3 1, 3) := by decide +kernel
theorem dX5_strengthAtMost_41 : decode cX5_strengthAtMost 41 = .ok (.goto (-37), 3) := by decide +kernel
theorem dX5_strengthAtMost_44 : decode cX5_strengthAtMost 44 = .ok (.iload_n 2, 1) := by decide +kernel
theorem dX5_strengthAtMost_45 : decode cX5_strengthAtMost 45 = .ok (.ireturn, 1) := by decide +kernel
