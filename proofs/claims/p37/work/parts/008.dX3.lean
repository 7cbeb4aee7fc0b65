theorem dX3_init_0 : decode cX3_init 0 = .ok (.aload_n 0, 1) := by decide +kernel
theorem dX3_init_1 : decode cX3_init 1 = .ok (.invokespecial 3, 3) := by decide +kernel
theorem dX3_init_4 : decode cX3_init 4 = .ok (.aload_n 0, 1) := by decide +kernel
theorem dX3_init_5 : decode cX3_init 5 = .ok (.new 9, 3) := by decide +kernel
theorem dX3_init_8 : decode cX3_init 8 = .ok (.dup, 1) := by decide +kernel
theorem dX3_init_9 : decode cX3_init 9 = .ok (.iconst 4, 1) := by decide +kernel
theorem dX3_init_10 : decode cX3_init 10 = .ok (.invokespecial 11, 3) := by decide +kernel
theorem dX3_init_13 : decode cX3_init 13 = .ok (.putfield 14, 3) := by decide +kernel
theorem dX3_init_16 : decode cX3_init 16 = .ok (.aload_n 0, 1) := by decide +kernel
theorem dX3_init_17 : decode cX3_init 17 = .ok (.new 9, 3) := by decide +kernel
theorem dX3_init_20 : decode cX3_init 20 = .ok (.dup, 1) := by decide +kernel
theorem dX3_init_21 : decode cX3_init 21 = .ok (.iconst 4, 1) := by decide +kernel
theorem dX3_init_22 : decode cX3_init 22 = .ok (.invokespecial 11, 3) := by decide +kernel
theorem dX3_init_25 : decode cX3_init 25 = .ok (.putfield 20, 3) := by decide +kernel
theorem dX3_init_28 : decode cX3_init 28 = .ok (.return_, 1) := by decide +kernel
theorem dX3_unitsBetween_0 : decode cX3_unitsBetween 0 = .ok (.aload_n 0, 1) := by decide +kernel
theorem dX3_unitsBetween_1 : decode cX3_unitsBetween 1 = .ok (.iload_n 2, 1) := by decide +kernel
theorem dX3_unitsBetween_2 : decode cX3_unitsBetween 2 = .ok (.iload_n 3, 1) := by decide +kernel
theorem dX3_unitsBetween_3 : decode cX3_unitsBetween 3 = .ok (.invokevirtual 23, 3) := by decide +kernel
theorem dX3_unitsBetween_6 : decode cX3_unitsBetween 6 = .ok (.aload_n 1, 1) := by decide +kernel
theorem dX3_unitsBetween_7 : decode cX3_unitsBetween 7 = .ok (.iload_n 2, 1) := by decide +kernel
theorem dX3_unitsBetween_8 : decode cX3_unitsBetween 8 = .ok (.iload_n 3, 1) := by decide +kernel
theorem dX3_unitsBetween_9 : decode cX3_unitsBetween 9 = .ok (.invokevirtual 23, 3) := by decide +kernel
theorem dX3_unitsBetween_12 : decode cX3_unitsBetween 12 = .ok (.invokestatic 29, 3) := by decide +kernel
theorem dX3_unitsBetween_15 : decode cX3_unitsBetween 15 = .ok (.ireturn, 1) := by decide +kernel
theorem dX3_lowestOfGroup_0 : decode cX3_lowestOfGroup 0 = .ok (.aload_n 0, 1) := by decide +kernel
theorem dX3_lowestOfGroup_1 : decode cX3_lowestOfGroup 1 = .ok (.getfield 14, 3) := by decide +kernel
theorem dX3_lowestOfGroup_4 : decode cX3_lowestOfGroup 4 = .ok (.iload_n 1, 1) := by decide +kernel
theorem dX3_lowestOfGroup_5 : decode cX3_lowestOfGroup 5 = .ok (.invokevirtual 34, 3) := by decide +kernel
theorem dX3_lowestOfGroup_8 : decode cX3_lowestOfGroup 8 = .ok (.ireturn, 1) := by decide +kernel
theorem dX3_countByGoing_0 : decode cX3_countByGoing 0 = .ok (.aload_n 0, 1) := by decide +kernel
theorem dX3_countByGoing_1 : decode cX3_countByGoing 1 = .ok (.getfield 14, 3) := by decide +kernel
theorem dX3_countByGoing_4 : decode cX3_countByGoing 4 = .ok (.invokevirtual 38, 3) := by decide +kernel
theorem dX3_countByGoing_7 : decode cX3_countByGoing 7 = .ok (.iconst 0, 1) := by decide +kernel
theorem dX3_countByGoing_8 : decode cX3_countByGoing 8 = .ok (.istore 4, 2) := by decide +kernel
theorem dX3_countByGoing_10 : decode cX3_countByGoing 10 = .ok (.iload 4, 2) := by decide +kernel
theorem dX3_countByGoing_12 : decode cX3_countByGoing 12 = .ok (.aload_n 1, 1) := by decide +kernel
theorem dX3_countByGoing_13 : decode cX3_countByGoing 13 = .ok (.invokevirtual 41, 3) := by decide +kernel
theorem dX3_countByGoing_16 : decode cX3_countByGoing 16 = .ok (.if_icmp .ge 17, 3) := by decide +kernel
theorem dX3_countByGoing_19 : decode cX3_countByGoing 19 = .ok (.aload_n 0, 1) := by decide +kernel
theorem dX3_countByGoing_20 : decode cX3_countByGoing 20 = .ok (.getfield 14, 3) := by decide +kernel
theorem dX3_countByGoing_23 : decode cX3_countByGoing 23 = .ok (.iconst (-1), 1) := by decide +kernel
theorem dX3_countByGoing_24 : decode cX3_countByGoing 24 = .ok (.invokevirtual 45, 3) := by decide +kernel
theorem dX3_countByGoing_27 : decode cX3_countByGoing 27 = .ok (.iinc 4 1, 3) := by decide +kernel
theorem dX3_countByGoing_30 : decode cX3_countByGoing 30 = .ok (.goto (-20), 3) := by decide +kernel
theorem dX3_countByGoing_33 : decode cX3_countByGoing 33 = .ok (.iconst 0, 1) := by decide +kernel
theorem dX3_countByGoing_34 : decode cX3_countByGoing 34 = .ok (.istore 4, 2) := by decide +kernel
theorem dX3_countByGoing_36 : decode cX3_countByGoing 36 = .ok (.iconst 0, 1) := by decide +kernel
theorem dX3_countByGoing_37 : decode cX3_countByGoing 37 = .ok (.istore 5, 2) := by decide +kernel
theorem dX3_countByGoing_39 : decode cX3_countByGoing 39 = .ok (.iload 5, 2) := by decide +kernel
theorem dX3_countByGoing_41 : decode cX3_countByGoing 41 = .ok (.aload_n 1, 1) := by decide +kernel
theorem dX3_countByGoing_42 : decode cX3_countByGoing 42 = .ok (.invokevirtual 41, 3) := by decide +kernel
theorem dX3_countByGoing_45 : decode cX3_countByGoing 45 = .ok (.if_icmp .ge 34, 3) := by decide +kernel
theorem dX3_countByGoing_48 : decode cX3_countByGoing 48 = .ok (.aload_n 0, 1) := by decide +kernel
theorem dX3_countByGoing_49 : decode cX3_countByGoing 49 = .ok (.getfield 14, 3) := by decide +kernel
theorem dX3_countByGoing_52 : decode cX3_countByGoing 52 = .ok (.iload 5, 2) := by decide +kernel
theorem dX3_countByGoing_54 : decode cX3_countByGoing 54 = .ok (.invokevirtual 34, 3) := by decide +kernel
theorem dX3_countByGoing_57 : decode cX3_countByGoing 57 = .ok (.iconst (-1), 1) := by decide +kernel
theorem dX3_countByGoing_58 : decode cX3_countByGoing 58 = .ok (.if_icmp .ne 15, 3) := by decide +kernel
theorem dX3_countByGoing_61 : decode cX3_countByGoing 61 = .ok (.aload_n 0, 1) := by decide +kernel
theorem dX3_countByGoing_62 : decode cX3_countByGoing 62 = .ok (.iload 5, 2) := by decide +kernel
theorem dX3_countByGoing_64 : decode cX3_countByGoing 64 = .ok (.aload_n 1, 1) := by decide +kernel
theorem dX3_countByGoing_65 : decode cX3_countByGoing 65 = .ok (.aload_n 2, 1) := by decide +kernel
theorem dX3_countByGoing_66 : decode cX3_countByGoing 66 = .ok (.iload_n 3, 1) := by decide +kernel
theorem dX3_countByGoing_67 : decode cX3_countByGoing 67 = .ok (.invokevirtual 48, 3) := by decide +kernel
theorem dX3_countByGoing_70 : decode cX3_countByGoing 70 = .ok (.iinc 4 1, 3) := by decide +kernel
theorem dX3_countByGoing_73 : decode cX3_countByGoing 73 = .ok (.iinc 5 1, 3) := by decide +kernel
theorem dX3_countByGoing_76 : decode cX3_countByGoing 76 = .ok (.goto (-37), 3) := by decide +kernel
theorem dX3_countByGoing_79 : decode cX3_countByGoing 79 = .ok (.iload 4, 2) := by decide +kernel
theorem dX3_countByGoing_81 : decode cX3_countByGoing 81 = .ok (.ireturn, 1) := by decide +kernel
theorem dX3_goFrom_0 : decode cX3_goFrom 0 = .ok (.aload_n 0, 1) := by decide +kernel
theorem dX3_goFrom_1 : decode cX3_goFrom 1 = .ok (.getfield 20, 3) := by decide +kernel
theorem dX3_goFrom_4 : decode cX3_goFrom 4 = .ok (.invokevirtual 38, 3) := by decide +kernel
theorem dX3_goFrom_7 : decode cX3_goFrom 7 = .ok (.aload_n 0, 1) := by decide +kernel
theorem dX3_goFrom_8 : decode cX3_goFrom 8 = .ok (.getfield 20, 3) := by decide +kernel
theorem dX3_goFrom_11 : decode cX3_goFrom 11 = .ok (.iload_n 1, 1) := by decide +kernel
theorem dX3_goFrom_12 : decode cX3_goFrom 12 = .ok (.invokevirtual 45, 3) := by decide +kernel
theorem dX3_goFrom_15 : decode cX3_goFrom 15 = .ok (.aload_n 0, 1) := by decide +kernel
theorem dX3_goFrom_16 : decode cX3_goFrom 16 = .ok (.getfield 14, 3) := by decide +kernel
theorem dX3_goFrom_19 : decode cX3_goFrom 19 = .ok (.iload_n 1, 1) := by decide +kernel
theorem dX3_goFrom_20 : decode cX3_goFrom 20 = .ok (.iload_n 1, 1) := by decide +kernel
theorem dX3_goFrom_21 : decode cX3_goFrom 21 = .ok (.invokevirtual 52, 3) := by decide +kernel
theorem dX3_goFrom_24 : decode cX3_goFrom 24 = .ok (.iconst 0, 1) := by decide +kernel
theorem dX3_goFrom_25 : decode cX3_goFrom 25 = .ok (.istore 5, 2) := by decide +kernel
theorem dX3_goFrom_27 : decode cX3_goFrom 27 = .ok (.iload 5, 2) := by decide +kernel
theorem dX3_goFrom_29 : decode cX3_goFrom 29 = .ok (.aload_n 0, 1) := by decide +kernel
theorem dX3_goFrom_30 : decode cX3_goFrom 30 = .ok (.getfield 20, 3) := by decide +kernel
theorem dX3_goFrom_33 : decode cX3_goFrom 33 = .ok (.invokevirtual 56, 3) := by decide +kernel
theorem dX3_goFrom_36 : decode cX3_goFrom 36 = .ok (.if_icmp .ge 90, 3) := by decide +kernel
theorem dX3_goFrom_39 : decode cX3_goFrom 39 = .ok (.iload 5, 2) := by decide +kernel
theorem dX3_goFrom_41 : decode cX3_goFrom 41 = .ok (.iconst 4, 1) := by decide +kernel
theorem dX3_goFrom_42 : decode cX3_goFrom 42 = .ok (.if_icmp .ge 84, 3) := by decide +kernel
theorem dX3_goFrom_45 : decode cX3_goFrom 45 = .ok (.aload_n 0, 1) := by decide +kernel
theorem dX3_goFrom_46 : decode cX3_goFrom 46 = .ok (.getfield 20, 3) := by decide +kernel
theorem dX3_goFrom_49 : decode cX3_goFrom 49 = .ok (.iload 5, 2) := by decide +kernel
theorem dX3_goFrom_51 : decode cX3_goFrom 51 = .ok (.invokevirtual 34, 3) := by decide +kernel
theorem dX3_goFrom_54 : decode cX3_goFrom 54 = .ok (.istore 6, 2) := by decide +kernel
theorem dX3_goFrom_56 : decode cX3_goFrom 56 = .ok (.iconst 0, 1) := by decide +kernel
theorem dX3_goFrom_57 : decode cX3_goFrom 57 = .ok (.istore 7, 2) := by decide +kernel
theorem dX3_goFrom_59 : decode cX3_goFrom 59 = .ok (.iload 7, 2) := by decide +kernel
theorem dX3_goFrom_61 : decode cX3_goFrom 61 = .ok (.aload_n 2, 1) := by decide +kernel
theorem dX3_goFrom_62 : decode cX3_goFrom 62 = .ok (.invokevirtual 41, 3) := by decide +kernel
theorem dX3_goFrom_65 : decode cX3_goFrom 65 = .ok (.if_icmp .ge 55, 3) := by decide +kernel
theorem dX3_goFrom_68 : decode cX3_goFrom 68 = .ok (.aload_n 0, 1) := by decide +kernel
theorem dX3_goFrom_69 : decode cX3_goFrom 69 = .ok (.getfield 14, 3) := by decide +kernel
theorem dX3_goFrom_72 : decode cX3_goFrom 72 = .ok (.iload 7, 2) := by decide +kernel
theorem dX3_goFrom_74 : decode cX3_goFrom 74 = .ok (.invokevirtual 34, 3) := by decide +kernel
theorem dX3_goFrom_77 : decode cX3_goFrom 77 = .ok (.iconst (-1), 1) := by decide +kernel
theorem dX3_goFrom_78 : decode cX3_goFrom 78 = .ok (.if_icmp .ne 36, 3) := by decide +kernel
theorem dX3_goFrom_81 : decode cX3_goFrom 81 = .ok (.aload_n 2, 1) := by decide +kernel
theorem dX3_goFrom_82 : decode cX3_goFrom 82 = .ok (.aload_n 3, 1) := by decide +kernel
theorem dX3_goFrom_83 : decode cX3_goFrom 83 = .ok (.iload 6, 2) := by decide +kernel
theorem dX3_goFrom_85 : decode cX3_goFrom 85 = .ok (.iload 7, 2) := by decide +kernel
theorem dX3_goFrom_87 : decode cX3_goFrom 87 = .ok (.invokestatic 59, 3) := by decide +kernel
theorem dX3_goFrom_90 : decode cX3_goFrom 90 = .ok (.iload 4, 2) := by decide +kernel
theorem dX3_goFrom_92 : decode cX3_goFrom 92 = .ok (.if_icmp .gt 22, 3) := by decide +kernel
theorem dX3_goFrom_95 : decode cX3_goFrom 95 = .ok (.aload_n 0, 1) := by decide +kernel
theorem dX3_goFrom_96 : decode cX3_goFrom 96 = .ok (.getfield 14, 3) := by decide +kernel
theorem dX3_goFrom_99 : decode cX3_goFrom 99 = .ok (.iload 7, 2) := by decide +kernel
theorem dX3_goFrom_101 : decode cX3_goFrom 101 = .ok (.iload_n 1, 1) := by decide +kernel
theorem dX3_goFrom_102 : decode cX3_goFrom 102 = .ok (.invokevirtual 52, 3) := by decide +kernel
theorem dX3_goFrom_105 : decode cX3_goFrom 105 = .ok (.aload_n 0, 1) := by decide +kernel
theorem dX3_goFrom_106 : decode cX3_goFrom 106 = .ok (.getfield 20, 3) := by decide +kernel
theorem dX3_goFrom_109 : decode cX3_goFrom 109 = .ok (.iload 7, 2) := by decide +kernel
theorem dX3_goFrom_111 : decode cX3_goFrom 111 = .ok (.invokevirtual 45, 3) := by decide +kernel
theorem dX3_goFrom_114 : decode cX3_goFrom 114 = .ok (.iinc 7 1, 3) := by decide +kernel
theorem dX3_goFrom_117 : decode cX3_goFrom 117 = .ok (.goto (-58), 3) := by decide +kernel
theorem dX3_goFrom_120 : decode cX3_goFrom 120 = .ok (.iinc 5 1, 3) := by decide +kernel
theorem dX3_goFrom_123 : decode cX3_goFrom 123 = .ok (.goto (-96), 3) := by decide +kernel
theorem dX3_goFrom_126 : decode cX3_goFrom 126 = .ok (.return_, 1) := by decide +kernel
theorem dX3_countByJoining_0 : decode cX3_countByJoining 0 = .ok (.aload_n 0, 1) := by decide +kernel
theorem dX3_countByJoining_1 : decode cX3_countByJoining 1 = .ok (.getfield 14, 3) := by decide +kernel
theorem dX3_countByJoining_4 : decode cX3_countByJoining 4 = .ok (.invokevirtual 38, 3) := by decide +kernel
theorem dX3_countByJoining_7 : decode cX3_countByJoining 7 = .ok (.iconst 0, 1) := by decide +kernel
theorem dX3_countByJoining_8 : decode cX3_countByJoining 8 = .ok (.istore 4, 2) := by decide +kernel
theorem dX3_countByJoining_10 : decode cX3_countByJoining 10 = .ok (.iload 4, 2) := by decide +kernel
theorem dX3_countByJoining_12 : decode cX3_countByJoining 12 = .ok (.aload_n 1, 1) := by decide +kernel
theorem dX3_countByJoining_13 : decode cX3_countByJoining 13 = .ok (.invokevirtual 41, 3) := by decide +kernel
theorem dX3_countByJoining_16 : decode cX3_countByJoining 16 = .ok (.if_icmp .ge 18, 3) := by decide +kernel
theorem dX3_countByJoining_19 : decode cX3_countByJoining 19 = .ok (.aload_n 0, 1) := by decide +kernel
theorem dX3_countByJoining_20 : decode cX3_countByJoining 20 = .ok (.getfield 14, 3) := by decide +kernel
theorem dX3_countByJoining_23 : decode cX3_countByJoining 23 = .ok (.iload 4, 2) := by decide +kernel
theorem dX3_countByJoining_25 : decode cX3_countByJoining 25 = .ok (.invokevirtual 45, 3) := by decide +kernel
theorem dX3_countByJoining_28 : decode cX3_countByJoining 28 = .ok (.iinc 4 1, 3) := by decide +kernel
theorem dX3_countByJoining_31 : decode cX3_countByJoining 31 = .ok (.goto (-21), 3) := by decide +kernel
theorem dX3_countByJoining_34 : decode cX3_countByJoining 34 = .ok (.aload_n 1, 1) := by decide +kernel
theorem dX3_countByJoining_35 : decode cX3_countByJoining 35 = .ok (.invokevirtual 41, 3) := by decide +kernel
theorem dX3_countByJoining_38 : decode cX3_countByJoining 38 = .ok (.istore 4, 2) := by decide +kernel
theorem dX3_countByJoining_40 : decode cX3_countByJoining 40 = .ok (.iconst 0, 1) := by decide +kernel
theorem dX3_countByJoining_41 : decode cX3_countByJoining 41 = .ok (.istore 5, 2) := by decide +kernel
theorem dX3_countByJoining_43 : decode cX3_countByJoining 43 = .ok (.iload 5, 2) := by decide +kernel
theorem dX3_countByJoining_45 : decode cX3_countByJoining 45 = .ok (.aload_n 1, 1) := by decide +kernel
theorem dX3_countByJoining_46 : decode cX3_countByJoining 46 = .ok (.invokevirtual 41, 3) := by decide +kernel
theorem dX3_countByJoining_49 : decode cX3_countByJoining 49 = .ok (.if_icmp .ge 84, 3) := by decide +kernel
theorem dX3_countByJoining_52 : decode cX3_countByJoining 52 = .ok (.iconst 0, 1) := by decide +kernel
theorem dX3_countByJoining_53 : decode cX3_countByJoining 53 = .ok (.istore 6, 2) := by decide +kernel
theorem dX3_countByJoining_55 : decode cX3_countByJoining 55 = .ok (.iload 6, 2) := by decide +kernel
theorem dX3_countByJoining_57 : decode cX3_countByJoining 57 = .ok (.iload 5, 2) := by decide +kernel
theorem dX3_countByJoining_59 : decode cX3_countByJoining 59 = .ok (.if_icmp .ge 68, 3) := by decide +kernel
theorem dX3_countByJoining_62 : decode cX3_countByJoining 62 = .ok (.aload_n 0, 1) := by decide +kernel
theorem dX3_countByJoining_63 : decode cX3_countByJoining 63 = .ok (.getfield 14, 3) := by decide +kernel
theorem dX3_countByJoining_66 : decode cX3_countByJoining 66 = .ok (.iload 6, 2) := by decide +kernel
theorem dX3_countByJoining_68 : decode cX3_countByJoining 68 = .ok (.invokevirtual 34, 3) := by decide +kernel
theorem dX3_countByJoining_71 : decode cX3_countByJoining 71 = .ok (.aload_n 0, 1) := by decide +kernel
theorem dX3_countByJoining_72 : decode cX3_countByJoining 72 = .ok (.getfield 14, 3) := by decide +kernel
theorem dX3_countByJoining_75 : decode cX3_countByJoining 75 = .ok (.iload 5, 2) := by decide +kernel
theorem dX3_countByJoining_77 : decode cX3_countByJoining 77 = .ok (.invokevirtual 34, 3) := by decide +kernel
theorem dX3_countByJoining_80 : decode cX3_countByJoining 80 = .ok (.if_icmp .eq 41, 3) := by decide +kernel
theorem dX3_countByJoining_83 : decode cX3_countByJoining 83 = .ok (.aload_n 1, 1) := by decide +kernel
theorem dX3_countByJoining_84 : decode cX3_countByJoining 84 = .ok (.aload_n 2, 1) := by decide +kernel
theorem dX3_countByJoining_85 : decode cX3_countByJoining 85 = .ok (.iload 5, 2) := by decide +kernel
theorem dX3_countByJoining_87 : decode cX3_countByJoining 87 = .ok (.iload 6, 2) := by decide +kernel
theorem dX3_countByJoining_89 : decode cX3_countByJoining 89 = .ok (.invokestatic 59, 3) := by decide +kernel
theorem dX3_countByJoining_92 : decode cX3_countByJoining 92 = .ok (.iload_n 3, 1) := by decide +kernel
theorem dX3_countByJoining_93 : decode cX3_countByJoining 93 = .ok (.if_icmp .gt 28, 3) := by decide +kernel
theorem dX3_countByJoining_96 : decode cX3_countByJoining 96 = .ok (.aload_n 0, 1) := by decide +kernel
theorem dX3_countByJoining_97 : decode cX3_countByJoining 97 = .ok (.aload_n 0, 1) := by decide +kernel
theorem dX3_countByJoining_98 : decode cX3_countByJoining 98 = .ok (.getfield 14, 3) := by decide +kernel
theorem dX3_countByJoining_101 : decode cX3_countByJoining 101 = .ok (.iload 5, 2) := by decide +kernel
theorem dX3_countByJoining_103 : decode cX3_countByJoining 103 = .ok (.invokevirtual 34, 3) := by decide +kernel
theorem dX3_countByJoining_106 : decode cX3_countByJoining 106 = .ok (.aload_n 0, 1) := by decide +kernel
theorem dX3_countByJoining_107 : decode cX3_countByJoining 107 = .ok (.getfield 14, 3) := by decide +kernel
theorem dX3_countByJoining_110 : decode cX3_countByJoining 110 = .ok (.iload 6, 2) := by decide +kernel
theorem dX3_countByJoining_112 : decode cX3_countByJoining 112 = .ok (.invokevirtual 34, 3) := by decide +kernel
theorem dX3_countByJoining_115 : decode cX3_countByJoining 115 = .ok (.invokevirtual 63, 3) := by decide +kernel
theorem dX3_countByJoining_118 : decode cX3_countByJoining 118 = .ok (.iinc 4 (-1), 3) := by decide +kernel
theorem dX3_countByJoining_121 : decode cX3_countByJoining 121 = .ok (.iinc 6 1, 3) := by decide +kernel
theorem dX3_countByJoining_124 : decode cX3_countByJoining 124 = .ok (.goto (-69), 3) := by decide +kernel
theorem dX3_countByJoining_127 : decode cX3_countByJoining 127 = .ok (.iinc 5 1, 3) := by decide +kernel
theorem dX3_countByJoining_130 : decode cX3_countByJoining 130 = .ok (.goto (-87), 3) := by decide +kernel
theorem dX3_countByJoining_133 : decode cX3_countByJoining 133 = .ok (.iload 4, 2) := by decide +kernel
theorem dX3_countByJoining_135 : decode cX3_countByJoining 135 = .ok (.ireturn, 1) := by decide +kernel
theorem dX3_join_0 : decode cX3_join 0 = .ok (.iload_n 1, 1) := by decide +kernel
theorem dX3_join_1 : decode cX3_join 1 = .ok (.iload_n 2, 1) := by decide +kernel
theorem dX3_join_2 : decode cX3_join 2 = .ok (.invokestatic 66, 3) := by decide +kernel
theorem dX3_join_5 : decode cX3_join 5 = .ok (.istore_n 3, 1) := by decide +kernel
theorem dX3_join_6 : decode cX3_join 6 = .ok (.iconst 0, 1) := by decide +kernel
theorem dX3_join_7 : decode cX3_join 7 = .ok (.istore 4, 2) := by decide +kernel
theorem dX3_join_9 : decode cX3_join 9 = .ok (.iload 4, 2) := by decide +kernel
theorem dX3_join_11 : decode cX3_join 11 = .ok (.aload_n 0, 1) := by decide +kernel
theorem dX3_join_12 : decode cX3_join 12 = .ok (.getfield 14, 3) := by decide +kernel
theorem dX3_join_15 : decode cX3_join 15 = .ok (.invokevirtual 56, 3) := by decide +kernel
theorem dX3_join_18 : decode cX3_join 18 = .ok (.if_icmp .ge 45, 3) := by decide +kernel
theorem dX3_join_21 : decode cX3_join 21 = .ok (.aload_n 0, 1) := by decide +kernel
theorem dX3_join_22 : decode cX3_join 22 = .ok (.getfield 14, 3) := by decide +kernel
theorem dX3_join_25 : decode cX3_join 25 = .ok (.iload 4, 2) := by decide +kernel
theorem dX3_join_27 : decode cX3_join 27 = .ok (.invokevirtual 34, 3) := by decide +kernel
theorem dX3_join_30 : decode cX3_join 30 = .ok (.iload_n 1, 1) := by decide +kernel
theorem dX3_join_31 : decode cX3_join 31 = .ok (.if_icmp .eq 16, 3) := by decide +kernel
theorem dX3_join_34 : decode cX3_join 34 = .ok (.aload_n 0, 1) := by decide +kernel
theorem dX3_join_35 : decode cX3_join 35 = .ok (.getfield 14, 3) := by decide +kernel
theorem dX3_join_38 : decode cX3_join 38 = .ok (.iload 4, 2) := by decide +kernel
theorem dX3_join_40 : decode cX3_join 40 = .ok (.invokevirtual 34, 3) := by decide +kernel
theorem dX3_join_43 : decode cX3_join 43 = .ok (.iload_n 2, 1) := by decide +kernel
theorem dX3_join_44 : decode cX3_join 44 = .ok (.if_icmp .ne 13, 3) := by decide +kernel
theorem dX3_join_47 : decode cX3_join 47 = .ok (.aload_n 0, 1) := by decide +kernel
theorem dX3_join_48 : decode cX3_join 48 = .ok (.getfield 14, 3) := by decide +kernel
theorem dX3_join_51 : decode cX3_join 51 = .ok (.iload 4, 2) := by decide +kernel
theorem dX3_join_53 : decode cX3_join 53 = .ok (.iload_n 3, 1) := by decide +kernel
theorem dX3_join_54 : decode cX3_join 54 = .ok (.invokevirtual 52, 3) := by decide +kernel
theorem dX3_join_57 : decode cX3_join 57 = .ok (.iinc 4 1, 3) := by decide +kernel
theorem dX3_join_60 : decode cX3_join 60 = .ok (.goto (-51), 3) := by decide +kernel
theorem dX3_join_63 : decode cX3_join 63 = .ok (.return_, 1) := by decide +kernel
