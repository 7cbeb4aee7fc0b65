theorem dX1_init_0 : decode cX1_init 0 = .ok (.aload_n 0, 1) := by decide +kernel
theorem dX1_init_1 : decode cX1_init 1 = .ok (.invokespecial 3, 3) := by decide +kernel
theorem dX1_init_4 : decode cX1_init 4 = .ok (.aload_n 0, 1) := by decide +kernel
theorem dX1_init_5 : decode cX1_init 5 = .ok (.new 9, 3) := by decide +kernel
theorem dX1_init_8 : decode cX1_init 8 = .ok (.dup, 1) := by decide +kernel
theorem dX1_init_9 : decode cX1_init 9 = .ok (.bipush 40, 2) := by decide +kernel
theorem dX1_init_11 : decode cX1_init 11 = .ok (.invokespecial 11, 3) := by decide +kernel
theorem dX1_init_14 : decode cX1_init 14 = .ok (.putfield 14, 3) := by decide +kernel
theorem dX1_init_17 : decode cX1_init 17 = .ok (.aload_n 0, 1) := by decide +kernel
theorem dX1_init_18 : decode cX1_init 18 = .ok (.new 9, 3) := by decide +kernel
theorem dX1_init_21 : decode cX1_init 21 = .ok (.dup, 1) := by decide +kernel
theorem dX1_init_22 : decode cX1_init 22 = .ok (.iconst 4, 1) := by decide +kernel
theorem dX1_init_23 : decode cX1_init 23 = .ok (.invokespecial 11, 3) := by decide +kernel
theorem dX1_init_26 : decode cX1_init 26 = .ok (.putfield 20, 3) := by decide +kernel
theorem dX1_init_29 : decode cX1_init 29 = .ok (.aload_n 0, 1) := by decide +kernel
theorem dX1_init_30 : decode cX1_init 30 = .ok (.new 9, 3) := by decide +kernel
theorem dX1_init_33 : decode cX1_init 33 = .ok (.dup, 1) := by decide +kernel
theorem dX1_init_34 : decode cX1_init 34 = .ok (.bipush 10, 2) := by decide +kernel
theorem dX1_init_36 : decode cX1_init 36 = .ok (.invokespecial 11, 3) := by decide +kernel
theorem dX1_init_39 : decode cX1_init 39 = .ok (.putfield 23, 3) := by decide +kernel
theorem dX1_init_42 : decode cX1_init 42 = .ok (.return_, 1) := by decide +kernel
theorem dX1_load_0 : decode cX1_load 0 = .ok (.aload_n 0, 1) := by decide +kernel
theorem dX1_load_1 : decode cX1_load 1 = .ok (.getfield 20, 3) := by decide +kernel
theorem dX1_load_4 : decode cX1_load 4 = .ok (.invokevirtual 26, 3) := by decide +kernel
theorem dX1_load_7 : decode cX1_load 7 = .ok (.iconst 0, 1) := by decide +kernel
theorem dX1_load_8 : decode cX1_load 8 = .ok (.istore_n 3, 1) := by decide +kernel
theorem dX1_load_9 : decode cX1_load 9 = .ok (.iload_n 3, 1) := by decide +kernel
theorem dX1_load_10 : decode cX1_load 10 = .ok (.aload_n 1, 1) := by decide +kernel
theorem dX1_load_11 : decode cX1_load 11 = .ok (.invokevirtual 29, 3) := by decide +kernel
theorem dX1_load_14 : decode cX1_load 14 = .ok (.if_icmp .ge 125, 3) := by decide +kernel
theorem dX1_load_17 : decode cX1_load 17 = .ok (.aload_n 1, 1) := by decide +kernel
theorem dX1_load_18 : decode cX1_load 18 = .ok (.iload_n 3, 1) := by decide +kernel
theorem dX1_load_19 : decode cX1_load 19 = .ok (.aload_n 0, 1) := by decide +kernel
theorem dX1_load_20 : decode cX1_load 20 = .ok (.getfield 23, 3) := by decide +kernel
theorem dX1_load_23 : decode cX1_load 23 = .ok (.invokevirtual 35, 3) := by decide +kernel
theorem dX1_load_26 : decode cX1_load 26 = .ok (.iconst 0, 1) := by decide +kernel
theorem dX1_load_27 : decode cX1_load 27 = .ok (.istore 4, 2) := by decide +kernel
theorem dX1_load_29 : decode cX1_load 29 = .ok (.iconst 0, 1) := by decide +kernel
theorem dX1_load_30 : decode cX1_load 30 = .ok (.istore 5, 2) := by decide +kernel
theorem dX1_load_32 : decode cX1_load 32 = .ok (.iload 5, 2) := by decide +kernel
theorem dX1_load_34 : decode cX1_load 34 = .ok (.aload_n 0, 1) := by decide +kernel
theorem dX1_load_35 : decode cX1_load 35 = .ok (.getfield 23, 3) := by decide +kernel
theorem dX1_load_38 : decode cX1_load 38 = .ok (.invokevirtual 39, 3) := by decide +kernel
theorem dX1_load_41 : decode cX1_load 41 = .ok (.if_icmp .ge 83, 3) := by decide +kernel
theorem dX1_load_44 : decode cX1_load 44 = .ok (.aload_n 0, 1) := by decide +kernel
theorem dX1_load_45 : decode cX1_load 45 = .ok (.getfield 23, 3) := by decide +kernel
theorem dX1_load_48 : decode cX1_load 48 = .ok (.iload 5, 2) := by decide +kernel
theorem dX1_load_50 : decode cX1_load 50 = .ok (.invokevirtual 42, 3) := by decide +kernel
theorem dX1_load_53 : decode cX1_load 53 = .ok (.istore 6, 2) := by decide +kernel
theorem dX1_load_55 : decode cX1_load 55 = .ok (.aload_n 2, 1) := by decide +kernel
theorem dX1_load_56 : decode cX1_load 56 = .ok (.iload_n 3, 1) := by decide +kernel
theorem dX1_load_57 : decode cX1_load 57 = .ok (.invokevirtual 42, 3) := by decide +kernel
theorem dX1_load_60 : decode cX1_load 60 = .ok (.ifCond .eq 13, 3) := by decide +kernel
theorem dX1_load_63 : decode cX1_load 63 = .ok (.iload 6, 2) := by decide +kernel
theorem dX1_load_65 : decode cX1_load 65 = .ok (.aload_n 1, 1) := by decide +kernel
theorem dX1_load_66 : decode cX1_load 66 = .ok (.iload_n 3, 1) := by decide +kernel
theorem dX1_load_67 : decode cX1_load 67 = .ok (.invokevirtual 46, 3) := by decide +kernel
theorem dX1_load_70 : decode cX1_load 70 = .ok (.if_icmp .ne 7, 3) := by decide +kernel
theorem dX1_load_73 : decode cX1_load 73 = .ok (.iconst 1, 1) := by decide +kernel
theorem dX1_load_74 : decode cX1_load 74 = .ok (.goto 4, 3) := by decide +kernel
theorem dX1_load_77 : decode cX1_load 77 = .ok (.iconst 0, 1) := by decide +kernel
theorem dX1_load_78 : decode cX1_load 78 = .ok (.istore 7, 2) := by decide +kernel
theorem dX1_load_80 : decode cX1_load 80 = .ok (.iload 7, 2) := by decide +kernel
theorem dX1_load_82 : decode cX1_load 82 = .ok (.ifCond .eq 36, 3) := by decide +kernel
theorem dX1_load_85 : decode cX1_load 85 = .ok (.aload_n 1, 1) := by decide +kernel
theorem dX1_load_86 : decode cX1_load 86 = .ok (.iload 6, 2) := by decide +kernel
theorem dX1_load_88 : decode cX1_load 88 = .ok (.aload_n 1, 1) := by decide +kernel
theorem dX1_load_89 : decode cX1_load 89 = .ok (.iload_n 3, 1) := by decide +kernel
theorem dX1_load_90 : decode cX1_load 90 = .ok (.invokevirtual 49, 3) := by decide +kernel
theorem dX1_load_93 : decode cX1_load 93 = .ok (.invokevirtual 52, 3) := by decide +kernel
theorem dX1_load_96 : decode cX1_load 96 = .ok (.ifCond .eq 22, 3) := by decide +kernel
theorem dX1_load_99 : decode cX1_load 99 = .ok (.aload_n 0, 1) := by decide +kernel
theorem dX1_load_100 : decode cX1_load 100 = .ok (.getfield 14, 3) := by decide +kernel
theorem dX1_load_103 : decode cX1_load 103 = .ok (.iload_n 3, 1) := by decide +kernel
theorem dX1_load_104 : decode cX1_load 104 = .ok (.bipush 10, 2) := by decide +kernel
theorem dX1_load_106 : decode cX1_load 106 = .ok (.imul, 1) := by decide +kernel
theorem dX1_load_107 : decode cX1_load 107 = .ok (.iload 4, 2) := by decide +kernel
theorem dX1_load_109 : decode cX1_load 109 = .ok (.iadd, 1) := by decide +kernel
theorem dX1_load_110 : decode cX1_load 110 = .ok (.iload 6, 2) := by decide +kernel
theorem dX1_load_112 : decode cX1_load 112 = .ok (.invokevirtual 56, 3) := by decide +kernel
theorem dX1_load_115 : decode cX1_load 115 = .ok (.iinc 4 1, 3) := by decide +kernel
theorem dX1_load_118 : decode cX1_load 118 = .ok (.iinc 5 1, 3) := by decide +kernel
theorem dX1_load_121 : decode cX1_load 121 = .ok (.goto (-89), 3) := by decide +kernel
theorem dX1_load_124 : decode cX1_load 124 = .ok (.aload_n 0, 1) := by decide +kernel
theorem dX1_load_125 : decode cX1_load 125 = .ok (.getfield 20, 3) := by decide +kernel
theorem dX1_load_128 : decode cX1_load 128 = .ok (.iload 4, 2) := by decide +kernel
theorem dX1_load_130 : decode cX1_load 130 = .ok (.invokevirtual 60, 3) := by decide +kernel
theorem dX1_load_133 : decode cX1_load 133 = .ok (.iinc 3 1, 3) := by decide +kernel
theorem dX1_load_136 : decode cX1_load 136 = .ok (.goto (-127), 3) := by decide +kernel
theorem dX1_load_139 : decode cX1_load 139 = .ok (.return_, 1) := by decide +kernel
theorem dX1_count_0 : decode cX1_count 0 = .ok (.aload_n 0, 1) := by decide +kernel
theorem dX1_count_1 : decode cX1_count 1 = .ok (.getfield 20, 3) := by decide +kernel
theorem dX1_count_4 : decode cX1_count 4 = .ok (.iload_n 1, 1) := by decide +kernel
theorem dX1_count_5 : decode cX1_count 5 = .ok (.invokevirtual 42, 3) := by decide +kernel
theorem dX1_count_8 : decode cX1_count 8 = .ok (.ireturn, 1) := by decide +kernel
theorem dX1_start_0 : decode cX1_start 0 = .ok (.aload_n 0, 1) := by decide +kernel
theorem dX1_start_1 : decode cX1_start 1 = .ok (.getfield 14, 3) := by decide +kernel
theorem dX1_start_4 : decode cX1_start 4 = .ok (.iload_n 1, 1) := by decide +kernel
theorem dX1_start_5 : decode cX1_start 5 = .ok (.bipush 10, 2) := by decide +kernel
theorem dX1_start_7 : decode cX1_start 7 = .ok (.imul, 1) := by decide +kernel
theorem dX1_start_8 : decode cX1_start 8 = .ok (.iload_n 2, 1) := by decide +kernel
theorem dX1_start_9 : decode cX1_start 9 = .ok (.iadd, 1) := by decide +kernel
theorem dX1_start_10 : decode cX1_start 10 = .ok (.invokevirtual 42, 3) := by decide +kernel
theorem dX1_start_13 : decode cX1_start 13 = .ok (.ireturn, 1) := by decide +kernel
