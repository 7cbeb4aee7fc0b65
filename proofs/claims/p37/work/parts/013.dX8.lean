theorem dX8_init_0 : decode cX8_init 0 = .ok (.aload_n 0, 1) := by decide +kernel
theorem dX8_init_1 : decode cX8_init 1 = .ok (.invokespecial 3, 3) := by decide +kernel
theorem dX8_init_4 : decode cX8_init 4 = .ok (.aload_n 0, 1) := by decide +kernel
theorem dX8_init_5 : decode cX8_init 5 = .ok (.new 9, 3) := by decide +kernel
theorem dX8_init_8 : decode cX8_init 8 = .ok (.dup, 1) := by decide +kernel
theorem dX8_init_9 : decode cX8_init 9 = .ok (.sipush 200, 3) := by decide +kernel
theorem dX8_init_12 : decode cX8_init 12 = .ok (.invokespecial 11, 3) := by decide +kernel
theorem dX8_init_15 : decode cX8_init 15 = .ok (.putfield 14, 3) := by decide +kernel
theorem dX8_init_18 : decode cX8_init 18 = .ok (.aload_n 0, 1) := by decide +kernel
theorem dX8_init_19 : decode cX8_init 19 = .ok (.new 9, 3) := by decide +kernel
theorem dX8_init_22 : decode cX8_init 22 = .ok (.dup, 1) := by decide +kernel
theorem dX8_init_23 : decode cX8_init 23 = .ok (.bipush 120, 2) := by decide +kernel
theorem dX8_init_25 : decode cX8_init 25 = .ok (.invokespecial 11, 3) := by decide +kernel
theorem dX8_init_28 : decode cX8_init 28 = .ok (.putfield 18, 3) := by decide +kernel
theorem dX8_init_31 : decode cX8_init 31 = .ok (.aload_n 0, 1) := by decide +kernel
theorem dX8_init_32 : decode cX8_init 32 = .ok (.new 21, 3) := by decide +kernel
theorem dX8_init_35 : decode cX8_init 35 = .ok (.dup, 1) := by decide +kernel
theorem dX8_init_36 : decode cX8_init 36 = .ok (.iconst 4, 1) := by decide +kernel
theorem dX8_init_37 : decode cX8_init 37 = .ok (.invokespecial 23, 3) := by decide +kernel
theorem dX8_init_40 : decode cX8_init 40 = .ok (.putfield 24, 3) := by decide +kernel
theorem dX8_init_43 : decode cX8_init 43 = .ok (.aload_n 0, 1) := by decide +kernel
theorem dX8_init_44 : decode cX8_init 44 = .ok (.new 21, 3) := by decide +kernel
theorem dX8_init_47 : decode cX8_init 47 = .ok (.dup, 1) := by decide +kernel
theorem dX8_init_48 : decode cX8_init 48 = .ok (.iconst 4, 1) := by decide +kernel
theorem dX8_init_49 : decode cX8_init 49 = .ok (.invokespecial 23, 3) := by decide +kernel
theorem dX8_init_52 : decode cX8_init 52 = .ok (.putfield 28, 3) := by decide +kernel
theorem dX8_init_55 : decode cX8_init 55 = .ok (.aload_n 0, 1) := by decide +kernel
theorem dX8_init_56 : decode cX8_init 56 = .ok (.new 31, 3) := by decide +kernel
theorem dX8_init_59 : decode cX8_init 59 = .ok (.dup, 1) := by decide +kernel
theorem dX8_init_60 : decode cX8_init 60 = .ok (.invokespecial 33, 3) := by decide +kernel
theorem dX8_init_63 : decode cX8_init 63 = .ok (.putfield 34, 3) := by decide +kernel
theorem dX8_init_66 : decode cX8_init 66 = .ok (.aload_n 0, 1) := by decide +kernel
theorem dX8_init_67 : decode cX8_init 67 = .ok (.new 38, 3) := by decide +kernel
theorem dX8_init_70 : decode cX8_init 70 = .ok (.dup, 1) := by decide +kernel
theorem dX8_init_71 : decode cX8_init 71 = .ok (.invokespecial 40, 3) := by decide +kernel
theorem dX8_init_74 : decode cX8_init 74 = .ok (.putfield 41, 3) := by decide +kernel
theorem dX8_init_77 : decode cX8_init 77 = .ok (.aload_n 0, 1) := by decide +kernel
theorem dX8_init_78 : decode cX8_init 78 = .ok (.new 45, 3) := by decide +kernel
theorem dX8_init_81 : decode cX8_init 81 = .ok (.dup, 1) := by decide +kernel
theorem dX8_init_82 : decode cX8_init 82 = .ok (.invokespecial 47, 3) := by decide +kernel
theorem dX8_init_85 : decode cX8_init 85 = .ok (.putfield 48, 3) := by decide +kernel
theorem dX8_init_88 : decode cX8_init 88 = .ok (.aload_n 0, 1) := by decide +kernel
theorem dX8_init_89 : decode cX8_init 89 = .ok (.new 52, 3) := by decide +kernel
theorem dX8_init_92 : decode cX8_init 92 = .ok (.dup, 1) := by decide +kernel
theorem dX8_init_93 : decode cX8_init 93 = .ok (.invokespecial 54, 3) := by decide +kernel
theorem dX8_init_96 : decode cX8_init 96 = .ok (.putfield 55, 3) := by decide +kernel
theorem dX8_init_99 : decode cX8_init 99 = .ok (.aload_n 0, 1) := by decide +kernel
theorem dX8_init_100 : decode cX8_init 100 = .ok (.new 21, 3) := by decide +kernel
theorem dX8_init_103 : decode cX8_init 103 = .ok (.dup, 1) := by decide +kernel
theorem dX8_init_104 : decode cX8_init 104 = .ok (.bipush 10, 2) := by decide +kernel
theorem dX8_init_106 : decode cX8_init 106 = .ok (.invokespecial 23, 3) := by decide +kernel
theorem dX8_init_109 : decode cX8_init 109 = .ok (.putfield 59, 3) := by decide +kernel
theorem dX8_init_112 : decode cX8_init 112 = .ok (.aload_n 0, 1) := by decide +kernel
theorem dX8_init_113 : decode cX8_init 113 = .ok (.new 21, 3) := by decide +kernel
theorem dX8_init_116 : decode cX8_init 116 = .ok (.dup, 1) := by decide +kernel
theorem dX8_init_117 : decode cX8_init 117 = .ok (.bipush 6, 2) := by decide +kernel
theorem dX8_init_119 : decode cX8_init 119 = .ok (.invokespecial 23, 3) := by decide +kernel
theorem dX8_init_122 : decode cX8_init 122 = .ok (.putfield 62, 3) := by decide +kernel
theorem dX8_init_125 : decode cX8_init 125 = .ok (.aload_n 0, 1) := by decide +kernel
theorem dX8_init_126 : decode cX8_init 126 = .ok (.lconst 0, 1) := by decide +kernel
theorem dX8_init_127 : decode cX8_init 127 = .ok (.putfield 65, 3) := by decide +kernel
theorem dX8_init_130 : decode cX8_init 130 = .ok (.return_, 1) := by decide +kernel
theorem dX8_addShape_0 : decode cX8_addShape 0 = .ok (.iload_n 3, 1) := by decide +kernel
theorem dX8_addShape_1 : decode cX8_addShape 1 = .ok (.iconst 2, 1) := by decide +kernel
theorem dX8_addShape_2 : decode cX8_addShape 2 = .ok (.if_icmp .lt 23, 3) := by decide +kernel
theorem dX8_addShape_5 : decode cX8_addShape 5 = .ok (.iload_n 3, 1) := by decide +kernel
theorem dX8_addShape_6 : decode cX8_addShape 6 = .ok (.sipush 200, 3) := by decide +kernel
theorem dX8_addShape_9 : decode cX8_addShape 9 = .ok (.if_icmp .gt 16, 3) := by decide +kernel
theorem dX8_addShape_12 : decode cX8_addShape 12 = .ok (.iload 4, 2) := by decide +kernel
theorem dX8_addShape_14 : decode cX8_addShape 14 = .ok (.iconst 1, 1) := by decide +kernel
theorem dX8_addShape_15 : decode cX8_addShape 15 = .ok (.if_icmp .lt 10, 3) := by decide +kernel
theorem dX8_addShape_18 : decode cX8_addShape 18 = .ok (.iload 4, 2) := by decide +kernel
theorem dX8_addShape_20 : decode cX8_addShape 20 = .ok (.bipush 120, 2) := by decide +kernel
theorem dX8_addShape_22 : decode cX8_addShape 22 = .ok (.if_icmp .le 13, 3) := by decide +kernel
theorem dX8_addShape_25 : decode cX8_addShape 25 = .ok (.new 69, 3) := by decide +kernel
theorem dX8_addShape_28 : decode cX8_addShape 28 = .ok (.dup, 1) := by decide +kernel
theorem dX8_addShape_29 : decode cX8_addShape 29 = .ok (.ldc 71, 2) := by decide +kernel
theorem dX8_addShape_31 : decode cX8_addShape 31 = .ok (.invokespecial 73, 3) := by decide +kernel
theorem dX8_addShape_34 : decode cX8_addShape 34 = .ok (.athrow, 1) := by decide +kernel
theorem dX8_addShape_35 : decode cX8_addShape 35 = .ok (.aload_n 0, 1) := by decide +kernel
theorem dX8_addShape_36 : decode cX8_addShape 36 = .ok (.getfield 14, 3) := by decide +kernel
theorem dX8_addShape_39 : decode cX8_addShape 39 = .ok (.iload_n 1, 1) := by decide +kernel
theorem dX8_addShape_40 : decode cX8_addShape 40 = .ok (.iload_n 3, 1) := by decide +kernel
theorem dX8_addShape_41 : decode cX8_addShape 41 = .ok (.invokevirtual 76, 3) := by decide +kernel
theorem dX8_addShape_44 : decode cX8_addShape 44 = .ok (.ifCond .eq 16, 3) := by decide +kernel
theorem dX8_addShape_47 : decode cX8_addShape 47 = .ok (.aload_n 0, 1) := by decide +kernel
theorem dX8_addShape_48 : decode cX8_addShape 48 = .ok (.getfield 18, 3) := by decide +kernel
theorem dX8_addShape_51 : decode cX8_addShape 51 = .ok (.iload_n 2, 1) := by decide +kernel
theorem dX8_addShape_52 : decode cX8_addShape 52 = .ok (.iload 4, 2) := by decide +kernel
theorem dX8_addShape_54 : decode cX8_addShape 54 = .ok (.invokevirtual 76, 3) := by decide +kernel
theorem dX8_addShape_57 : decode cX8_addShape 57 = .ok (.ifCond .ne 13, 3) := by decide +kernel
theorem dX8_addShape_60 : decode cX8_addShape 60 = .ok (.new 69, 3) := by decide +kernel
theorem dX8_addShape_63 : decode cX8_addShape 63 = .ok (.dup, 1) := by decide +kernel
theorem dX8_addShape_64 : decode cX8_addShape 64 = .ok (.ldc 80, 2) := by decide +kernel
theorem dX8_addShape_66 : decode cX8_addShape 66 = .ok (.invokespecial 73, 3) := by decide +kernel
theorem dX8_addShape_69 : decode cX8_addShape 69 = .ok (.athrow, 1) := by decide +kernel
theorem dX8_addShape_70 : decode cX8_addShape 70 = .ok (.aload_n 0, 1) := by decide +kernel
theorem dX8_addShape_71 : decode cX8_addShape 71 = .ok (.invokevirtual 82, 3) := by decide +kernel
theorem dX8_addShape_74 : decode cX8_addShape 74 = .ok (.iconst 4, 1) := by decide +kernel
theorem dX8_addShape_75 : decode cX8_addShape 75 = .ok (.if_icmp .lt 13, 3) := by decide +kernel
theorem dX8_addShape_78 : decode cX8_addShape 78 = .ok (.new 86, 3) := by decide +kernel
theorem dX8_addShape_81 : decode cX8_addShape 81 = .ok (.dup, 1) := by decide +kernel
theorem dX8_addShape_82 : decode cX8_addShape 82 = .ok (.ldc 88, 2) := by decide +kernel
theorem dX8_addShape_84 : decode cX8_addShape 84 = .ok (.invokespecial 90, 3) := by decide +kernel
theorem dX8_addShape_87 : decode cX8_addShape 87 = .ok (.athrow, 1) := by decide +kernel
theorem dX8_addShape_88 : decode cX8_addShape 88 = .ok (.aload_n 0, 1) := by decide +kernel
theorem dX8_addShape_89 : decode cX8_addShape 89 = .ok (.iconst (-1), 1) := by decide +kernel
theorem dX8_addShape_90 : decode cX8_addShape 90 = .ok (.iload_n 1, 1) := by decide +kernel
theorem dX8_addShape_91 : decode cX8_addShape 91 = .ok (.iload_n 2, 1) := by decide +kernel
theorem dX8_addShape_92 : decode cX8_addShape 92 = .ok (.iload_n 3, 1) := by decide +kernel
theorem dX8_addShape_93 : decode cX8_addShape 93 = .ok (.iload 4, 2) := by decide +kernel
theorem dX8_addShape_95 : decode cX8_addShape 95 = .ok (.invokevirtual 91, 3) := by decide +kernel
theorem dX8_addShape_98 : decode cX8_addShape 98 = .ok (.iconst (-1), 1) := by decide +kernel
theorem dX8_addShape_99 : decode cX8_addShape 99 = .ok (.if_icmp .eq 13, 3) := by decide +kernel
theorem dX8_addShape_102 : decode cX8_addShape 102 = .ok (.new 95, 3) := by decide +kernel
theorem dX8_addShape_105 : decode cX8_addShape 105 = .ok (.dup, 1) := by decide +kernel
theorem dX8_addShape_106 : decode cX8_addShape 106 = .ok (.ldc 97, 2) := by decide +kernel
theorem dX8_addShape_108 : decode cX8_addShape 108 = .ok (.invokespecial 99, 3) := by decide +kernel
theorem dX8_addShape_111 : decode cX8_addShape 111 = .ok (.athrow, 1) := by decide +kernel
theorem dX8_addShape_112 : decode cX8_addShape 112 = .ok (.aload_n 0, 1) := by decide +kernel
theorem dX8_addShape_113 : decode cX8_addShape 113 = .ok (.getfield 14, 3) := by decide +kernel
theorem dX8_addShape_116 : decode cX8_addShape 116 = .ok (.iload_n 1, 1) := by decide +kernel
theorem dX8_addShape_117 : decode cX8_addShape 117 = .ok (.iload_n 3, 1) := by decide +kernel
theorem dX8_addShape_118 : decode cX8_addShape 118 = .ok (.invokevirtual 100, 3) := by decide +kernel
theorem dX8_addShape_121 : decode cX8_addShape 121 = .ok (.aload_n 0, 1) := by decide +kernel
theorem dX8_addShape_122 : decode cX8_addShape 122 = .ok (.getfield 18, 3) := by decide +kernel
theorem dX8_addShape_125 : decode cX8_addShape 125 = .ok (.iload_n 2, 1) := by decide +kernel
theorem dX8_addShape_126 : decode cX8_addShape 126 = .ok (.iload 4, 2) := by decide +kernel
theorem dX8_addShape_128 : decode cX8_addShape 128 = .ok (.invokevirtual 100, 3) := by decide +kernel
theorem dX8_addShape_131 : decode cX8_addShape 131 = .ok (.aload_n 0, 1) := by decide +kernel
theorem dX8_addShape_132 : decode cX8_addShape 132 = .ok (.getfield 24, 3) := by decide +kernel
theorem dX8_addShape_135 : decode cX8_addShape 135 = .ok (.iconst 0, 1) := by decide +kernel
theorem dX8_addShape_136 : decode cX8_addShape 136 = .ok (.invokevirtual 104, 3) := by decide +kernel
theorem dX8_addShape_139 : decode cX8_addShape 139 = .ok (.aload_n 0, 1) := by decide +kernel
theorem dX8_addShape_140 : decode cX8_addShape 140 = .ok (.getfield 28, 3) := by decide +kernel
theorem dX8_addShape_143 : decode cX8_addShape 143 = .ok (.iconst 0, 1) := by decide +kernel
theorem dX8_addShape_144 : decode cX8_addShape 144 = .ok (.invokevirtual 104, 3) := by decide +kernel
theorem dX8_addShape_147 : decode cX8_addShape 147 = .ok (.aload_n 0, 1) := by decide +kernel
theorem dX8_addShape_148 : decode cX8_addShape 148 = .ok (.invokevirtual 82, 3) := by decide +kernel
theorem dX8_addShape_151 : decode cX8_addShape 151 = .ok (.iconst 1, 1) := by decide +kernel
theorem dX8_addShape_152 : decode cX8_addShape 152 = .ok (.isub, 1) := by decide +kernel
theorem dX8_addShape_153 : decode cX8_addShape 153 = .ok (.ireturn, 1) := by decide +kernel
theorem dX8_setLocked_0 : decode cX8_setLocked 0 = .ok (.aload_n 0, 1) := by decide +kernel
theorem dX8_setLocked_1 : decode cX8_setLocked 1 = .ok (.iload_n 1, 1) := by decide +kernel
theorem dX8_setLocked_2 : decode cX8_setLocked 2 = .ok (.invokevirtual 106, 3) := by decide +kernel
theorem dX8_setLocked_5 : decode cX8_setLocked 5 = .ok (.aload_n 0, 1) := by decide +kernel
theorem dX8_setLocked_6 : decode cX8_setLocked 6 = .ok (.iload_n 1, 1) := by decide +kernel
theorem dX8_setLocked_7 : decode cX8_setLocked 7 = .ok (.invokevirtual 109, 3) := by decide +kernel
theorem dX8_setLocked_10 : decode cX8_setLocked 10 = .ok (.istore_n 3, 1) := by decide +kernel
theorem dX8_setLocked_11 : decode cX8_setLocked 11 = .ok (.aload_n 0, 1) := by decide +kernel
theorem dX8_setLocked_12 : decode cX8_setLocked 12 = .ok (.getfield 24, 3) := by decide +kernel
theorem dX8_setLocked_15 : decode cX8_setLocked 15 = .ok (.iload_n 1, 1) := by decide +kernel
theorem dX8_setLocked_16 : decode cX8_setLocked 16 = .ok (.iload_n 2, 1) := by decide +kernel
theorem dX8_setLocked_17 : decode cX8_setLocked 17 = .ok (.ifCond .eq 7, 3) := by decide +kernel
theorem dX8_setLocked_20 : decode cX8_setLocked 20 = .ok (.iconst 1, 1) := by decide +kernel
theorem dX8_setLocked_21 : decode cX8_setLocked 21 = .ok (.goto 4, 3) := by decide +kernel
theorem dX8_setLocked_24 : decode cX8_setLocked 24 = .ok (.iconst 0, 1) := by decide +kernel
theorem dX8_setLocked_25 : decode cX8_setLocked 25 = .ok (.invokevirtual 113, 3) := by decide +kernel
theorem dX8_setLocked_28 : decode cX8_setLocked 28 = .ok (.iload_n 3, 1) := by decide +kernel
theorem dX8_setLocked_29 : decode cX8_setLocked 29 = .ok (.ireturn, 1) := by decide +kernel
theorem dX8_startOf_0 : decode cX8_startOf 0 = .ok (.aload_n 0, 1) := by decide +kernel
theorem dX8_startOf_1 : decode cX8_startOf 1 = .ok (.iload_n 1, 1) := by decide +kernel
theorem dX8_startOf_2 : decode cX8_startOf 2 = .ok (.invokevirtual 106, 3) := by decide +kernel
theorem dX8_startOf_5 : decode cX8_startOf 5 = .ok (.aload_n 0, 1) := by decide +kernel
theorem dX8_startOf_6 : decode cX8_startOf 6 = .ok (.iload_n 2, 1) := by decide +kernel
theorem dX8_startOf_7 : decode cX8_startOf 7 = .ok (.invokevirtual 116, 3) := by decide +kernel
theorem dX8_startOf_10 : decode cX8_startOf 10 = .ok (.iload_n 1, 1) := by decide +kernel
theorem dX8_startOf_11 : decode cX8_startOf 11 = .ok (.invokevirtual 120, 3) := by decide +kernel
theorem dX8_startOf_14 : decode cX8_startOf 14 = .ok (.ireturn, 1) := by decide +kernel
theorem dX8_sizeOf_0 : decode cX8_sizeOf 0 = .ok (.aload_n 0, 1) := by decide +kernel
theorem dX8_sizeOf_1 : decode cX8_sizeOf 1 = .ok (.iload_n 1, 1) := by decide +kernel
theorem dX8_sizeOf_2 : decode cX8_sizeOf 2 = .ok (.invokevirtual 106, 3) := by decide +kernel
theorem dX8_sizeOf_5 : decode cX8_sizeOf 5 = .ok (.aload_n 0, 1) := by decide +kernel
theorem dX8_sizeOf_6 : decode cX8_sizeOf 6 = .ok (.iload_n 2, 1) := by decide +kernel
theorem dX8_sizeOf_7 : decode cX8_sizeOf 7 = .ok (.invokevirtual 116, 3) := by decide +kernel
theorem dX8_sizeOf_10 : decode cX8_sizeOf 10 = .ok (.iload_n 1, 1) := by decide +kernel
theorem dX8_sizeOf_11 : decode cX8_sizeOf 11 = .ok (.invokevirtual 124, 3) := by decide +kernel
theorem dX8_sizeOf_14 : decode cX8_sizeOf 14 = .ok (.ireturn, 1) := by decide +kernel
theorem dX8_moveTo_0 : decode cX8_moveTo 0 = .ok (.aload_n 0, 1) := by decide +kernel
theorem dX8_moveTo_1 : decode cX8_moveTo 1 = .ok (.iload_n 1, 1) := by decide +kernel
theorem dX8_moveTo_2 : decode cX8_moveTo 2 = .ok (.invokevirtual 106, 3) := by decide +kernel
theorem dX8_moveTo_5 : decode cX8_moveTo 5 = .ok (.aload_n 0, 1) := by decide +kernel
theorem dX8_moveTo_6 : decode cX8_moveTo 6 = .ok (.iload_n 1, 1) := by decide +kernel
theorem dX8_moveTo_7 : decode cX8_moveTo 7 = .ok (.iload_n 2, 1) := by decide +kernel
theorem dX8_moveTo_8 : decode cX8_moveTo 8 = .ok (.iload_n 3, 1) := by decide +kernel
theorem dX8_moveTo_9 : decode cX8_moveTo 9 = .ok (.invokevirtual 127, 3) := by decide +kernel
theorem dX8_moveTo_12 : decode cX8_moveTo 12 = .ok (.istore 4, 2) := by decide +kernel
theorem dX8_moveTo_14 : decode cX8_moveTo 14 = .ok (.iload 4, 2) := by decide +kernel
theorem dX8_moveTo_16 : decode cX8_moveTo 16 = .ok (.bipush 108, 2) := by decide +kernel
theorem dX8_moveTo_18 : decode cX8_moveTo 18 = .ok (.if_icmp .ne 13, 3) := by decide +kernel
theorem dX8_moveTo_21 : decode cX8_moveTo 21 = .ok (.new 86, 3) := by decide +kernel
theorem dX8_moveTo_24 : decode cX8_moveTo 24 = .ok (.dup, 1) := by decide +kernel
theorem dX8_moveTo_25 : decode cX8_moveTo 25 = .ok (.ldc 131, 2) := by decide +kernel
theorem dX8_moveTo_27 : decode cX8_moveTo 27 = .ok (.invokespecial 90, 3) := by decide +kernel
theorem dX8_moveTo_30 : decode cX8_moveTo 30 = .ok (.athrow, 1) := by decide +kernel
theorem dX8_moveTo_31 : decode cX8_moveTo 31 = .ok (.iload 4, 2) := by decide +kernel
theorem dX8_moveTo_33 : decode cX8_moveTo 33 = .ok (.bipush 115, 2) := by decide +kernel
theorem dX8_moveTo_35 : decode cX8_moveTo 35 = .ok (.if_icmp .ne 13, 3) := by decide +kernel
theorem dX8_moveTo_38 : decode cX8_moveTo 38 = .ok (.new 69, 3) := by decide +kernel
theorem dX8_moveTo_41 : decode cX8_moveTo 41 = .ok (.dup, 1) := by decide +kernel
theorem dX8_moveTo_42 : decode cX8_moveTo 42 = .ok (.ldc 133, 2) := by decide +kernel
theorem dX8_moveTo_44 : decode cX8_moveTo 44 = .ok (.invokespecial 73, 3) := by decide +kernel
theorem dX8_moveTo_47 : decode cX8_moveTo 47 = .ok (.athrow, 1) := by decide +kernel
theorem dX8_moveTo_48 : decode cX8_moveTo 48 = .ok (.iload 4, 2) := by decide +kernel
theorem dX8_moveTo_50 : decode cX8_moveTo 50 = .ok (.bipush 111, 2) := by decide +kernel
theorem dX8_moveTo_52 : decode cX8_moveTo 52 = .ok (.if_icmp .ne 13, 3) := by decide +kernel
theorem dX8_moveTo_55 : decode cX8_moveTo 55 = .ok (.new 95, 3) := by decide +kernel
theorem dX8_moveTo_58 : decode cX8_moveTo 58 = .ok (.dup, 1) := by decide +kernel
theorem dX8_moveTo_59 : decode cX8_moveTo 59 = .ok (.ldc 135, 2) := by decide +kernel
theorem dX8_moveTo_61 : decode cX8_moveTo 61 = .ok (.invokespecial 99, 3) := by decide +kernel
theorem dX8_moveTo_64 : decode cX8_moveTo 64 = .ok (.athrow, 1) := by decide +kernel
theorem dX8_moveTo_65 : decode cX8_moveTo 65 = .ok (.iload_n 2, 1) := by decide +kernel
theorem dX8_moveTo_66 : decode cX8_moveTo 66 = .ok (.aload_n 0, 1) := by decide +kernel
theorem dX8_moveTo_67 : decode cX8_moveTo 67 = .ok (.getfield 14, 3) := by decide +kernel
theorem dX8_moveTo_70 : decode cX8_moveTo 70 = .ok (.iload_n 1, 1) := by decide +kernel
theorem dX8_moveTo_71 : decode cX8_moveTo 71 = .ok (.invokevirtual 120, 3) := by decide +kernel
theorem dX8_moveTo_74 : decode cX8_moveTo 74 = .ok (.isub, 1) := by decide +kernel
theorem dX8_moveTo_75 : decode cX8_moveTo 75 = .ok (.invokestatic 137, 3) := by decide +kernel
theorem dX8_moveTo_78 : decode cX8_moveTo 78 = .ok (.iload_n 3, 1) := by decide +kernel
theorem dX8_moveTo_79 : decode cX8_moveTo 79 = .ok (.aload_n 0, 1) := by decide +kernel
theorem dX8_moveTo_80 : decode cX8_moveTo 80 = .ok (.getfield 18, 3) := by decide +kernel
theorem dX8_moveTo_83 : decode cX8_moveTo 83 = .ok (.iload_n 1, 1) := by decide +kernel
theorem dX8_moveTo_84 : decode cX8_moveTo 84 = .ok (.invokevirtual 120, 3) := by decide +kernel
theorem dX8_moveTo_87 : decode cX8_moveTo 87 = .ok (.isub, 1) := by decide +kernel
theorem dX8_moveTo_88 : decode cX8_moveTo 88 = .ok (.invokestatic 137, 3) := by decide +kernel
theorem dX8_moveTo_91 : decode cX8_moveTo 91 = .ok (.iadd, 1) := by decide +kernel
theorem dX8_moveTo_92 : decode cX8_moveTo 92 = .ok (.istore 5, 2) := by decide +kernel
theorem dX8_moveTo_94 : decode cX8_moveTo 94 = .ok (.aload_n 0, 1) := by decide +kernel
theorem dX8_moveTo_95 : decode cX8_moveTo 95 = .ok (.getfield 14, 3) := by decide +kernel
theorem dX8_moveTo_98 : decode cX8_moveTo 98 = .ok (.iload_n 1, 1) := by decide +kernel
theorem dX8_moveTo_99 : decode cX8_moveTo 99 = .ok (.iload_n 2, 1) := by decide +kernel
theorem dX8_moveTo_100 : decode cX8_moveTo 100 = .ok (.invokevirtual 142, 3) := by decide +kernel
theorem dX8_moveTo_103 : decode cX8_moveTo 103 = .ok (.aload_n 0, 1) := by decide +kernel
theorem dX8_moveTo_104 : decode cX8_moveTo 104 = .ok (.getfield 18, 3) := by decide +kernel
theorem dX8_moveTo_107 : decode cX8_moveTo 107 = .ok (.iload_n 1, 1) := by decide +kernel
theorem dX8_moveTo_108 : decode cX8_moveTo 108 = .ok (.iload_n 3, 1) := by decide +kernel
theorem dX8_moveTo_109 : decode cX8_moveTo 109 = .ok (.invokevirtual 142, 3) := by decide +kernel
theorem dX8_moveTo_112 : decode cX8_moveTo 112 = .ok (.aload_n 0, 1) := by decide +kernel
theorem dX8_moveTo_113 : decode cX8_moveTo 113 = .ok (.dup, 1) := by decide +kernel
theorem dX8_moveTo_114 : decode cX8_moveTo 114 = .ok (.getfield 65, 3) := by decide +kernel
theorem dX8_moveTo_117 : decode cX8_moveTo 117 = .ok (.iload 5, 2) := by decide +kernel
theorem dX8_moveTo_119 : decode cX8_moveTo 119 = .ok (.i2l, 1) := by decide +kernel
theorem dX8_moveTo_120 : decode cX8_moveTo 120 = .ok (.ladd, 1) := by decide +kernel
theorem dX8_moveTo_121 : decode cX8_moveTo 121 = .ok (.putfield 65, 3) := by decide +kernel
theorem dX8_moveTo_124 : decode cX8_moveTo 124 = .ok (.iload 5, 2) := by decide +kernel
theorem dX8_moveTo_126 : decode cX8_moveTo 126 = .ok (.ireturn, 1) := by decide +kernel
theorem dX8_moveReason_0 : decode cX8_moveReason 0 = .ok (.aload_n 0, 1) := by decide +kernel
theorem dX8_moveReason_1 : decode cX8_moveReason 1 = .ok (.iload_n 1, 1) := by decide +kernel
theorem dX8_moveReason_2 : decode cX8_moveReason 2 = .ok (.invokevirtual 106, 3) := by decide +kernel
theorem dX8_moveReason_5 : decode cX8_moveReason 5 = .ok (.aload_n 0, 1) := by decide +kernel
theorem dX8_moveReason_6 : decode cX8_moveReason 6 = .ok (.iload_n 1, 1) := by decide +kernel
theorem dX8_moveReason_7 : decode cX8_moveReason 7 = .ok (.iload_n 2, 1) := by decide +kernel
theorem dX8_moveReason_8 : decode cX8_moveReason 8 = .ok (.iload_n 3, 1) := by decide +kernel
theorem dX8_moveReason_9 : decode cX8_moveReason 9 = .ok (.invokevirtual 127, 3) := by decide +kernel
theorem dX8_moveReason_12 : decode cX8_moveReason 12 = .ok (.ireturn, 1) := by decide +kernel
theorem dX8_setText_0 : decode cX8_setText 0 = .ok (.aload_n 0, 1) := by decide +kernel
theorem dX8_setText_1 : decode cX8_setText 1 = .ok (.iload_n 1, 1) := by decide +kernel
theorem dX8_setText_2 : decode cX8_setText 2 = .ok (.invokevirtual 106, 3) := by decide +kernel
theorem dX8_setText_5 : decode cX8_setText 5 = .ok (.iload_n 2, 1) := by decide +kernel
theorem dX8_setText_6 : decode cX8_setText 6 = .ok (.ifCond .lt 10, 3) := by decide +kernel
theorem dX8_setText_9 : decode cX8_setText 9 = .ok (.iload_n 2, 1) := by decide +kernel
theorem dX8_setText_10 : decode cX8_setText 10 = .ok (.sipush 400, 3) := by decide +kernel
theorem dX8_setText_13 : decode cX8_setText 13 = .ok (.if_icmp .le 13, 3) := by decide +kernel
theorem dX8_setText_16 : decode cX8_setText 16 = .ok (.new 69, 3) := by decide +kernel
theorem dX8_setText_19 : decode cX8_setText 19 = .ok (.dup, 1) := by decide +kernel
theorem dX8_setText_20 : decode cX8_setText 20 = .ok (.ldc 145, 2) := by decide +kernel
theorem dX8_setText_22 : decode cX8_setText 22 = .ok (.invokespecial 73, 3) := by decide +kernel
theorem dX8_setText_25 : decode cX8_setText 25 = .ok (.athrow, 1) := by decide +kernel
theorem dX8_setText_26 : decode cX8_setText 26 = .ok (.aload_n 0, 1) := by decide +kernel
theorem dX8_setText_27 : decode cX8_setText 27 = .ok (.getfield 28, 3) := by decide +kernel
theorem dX8_setText_30 : decode cX8_setText 30 = .ok (.iload_n 1, 1) := by decide +kernel
theorem dX8_setText_31 : decode cX8_setText 31 = .ok (.iload_n 2, 1) := by decide +kernel
theorem dX8_setText_32 : decode cX8_setText 32 = .ok (.invokevirtual 113, 3) := by decide +kernel
theorem dX8_setText_35 : decode cX8_setText 35 = .ok (.aload_n 0, 1) := by decide +kernel
theorem dX8_setText_36 : decode cX8_setText 36 = .ok (.iload_n 1, 1) := by decide +kernel
theorem dX8_setText_37 : decode cX8_setText 37 = .ok (.invokevirtual 147, 3) := by decide +kernel
theorem dX8_setText_40 : decode cX8_setText 40 = .ok (.ireturn, 1) := by decide +kernel
theorem dX8_fits_0 : decode cX8_fits 0 = .ok (.aload_n 0, 1) := by decide +kernel
theorem dX8_fits_1 : decode cX8_fits 1 = .ok (.iload_n 1, 1) := by decide +kernel
theorem dX8_fits_2 : decode cX8_fits 2 = .ok (.invokevirtual 106, 3) := by decide +kernel
theorem dX8_fits_5 : decode cX8_fits 5 = .ok (.aload_n 0, 1) := by decide +kernel
theorem dX8_fits_6 : decode cX8_fits 6 = .ok (.iload_n 1, 1) := by decide +kernel
theorem dX8_fits_7 : decode cX8_fits 7 = .ok (.invokevirtual 150, 3) := by decide +kernel
theorem dX8_fits_10 : decode cX8_fits 10 = .ok (.ireturn, 1) := by decide +kernel
theorem dX8_grow_0 : decode cX8_grow 0 = .ok (.aload_n 0, 1) := by decide +kernel
theorem dX8_grow_1 : decode cX8_grow 1 = .ok (.iload_n 1, 1) := by decide +kernel
theorem dX8_grow_2 : decode cX8_grow 2 = .ok (.invokevirtual 106, 3) := by decide +kernel
theorem dX8_grow_5 : decode cX8_grow 5 = .ok (.aload_n 0, 1) := by decide +kernel
theorem dX8_grow_6 : decode cX8_grow 6 = .ok (.iload_n 1, 1) := by decide +kernel
theorem dX8_grow_7 : decode cX8_grow 7 = .ok (.invokevirtual 153, 3) := by decide +kernel
theorem dX8_grow_10 : decode cX8_grow 10 = .ok (.istore_n 2, 1) := by decide +kernel
theorem dX8_grow_11 : decode cX8_grow 11 = .ok (.iload_n 2, 1) := by decide +kernel
theorem dX8_grow_12 : decode cX8_grow 12 = .ok (.bipush 102, 2) := by decide +kernel
theorem dX8_grow_14 : decode cX8_grow 14 = .ok (.if_icmp .ne 13, 3) := by decide +kernel
theorem dX8_grow_17 : decode cX8_grow 17 = .ok (.new 157, 3) := by decide +kernel
theorem dX8_grow_20 : decode cX8_grow 20 = .ok (.dup, 1) := by decide +kernel
theorem dX8_grow_21 : decode cX8_grow 21 = .ok (.ldc 159, 2) := by decide +kernel
theorem dX8_grow_23 : decode cX8_grow 23 = .ok (.invokespecial 161, 3) := by decide +kernel
theorem dX8_grow_26 : decode cX8_grow 26 = .ok (.athrow, 1) := by decide +kernel
theorem dX8_grow_27 : decode cX8_grow 27 = .ok (.iload_n 2, 1) := by decide +kernel
theorem dX8_grow_28 : decode cX8_grow 28 = .ok (.bipush 108, 2) := by decide +kernel
theorem dX8_grow_30 : decode cX8_grow 30 = .ok (.if_icmp .ne 13, 3) := by decide +kernel
theorem dX8_grow_33 : decode cX8_grow 33 = .ok (.new 86, 3) := by decide +kernel
theorem dX8_grow_36 : decode cX8_grow 36 = .ok (.dup, 1) := by decide +kernel
theorem dX8_grow_37 : decode cX8_grow 37 = .ok (.ldc 131, 2) := by decide +kernel
theorem dX8_grow_39 : decode cX8_grow 39 = .ok (.invokespecial 90, 3) := by decide +kernel
theorem dX8_grow_42 : decode cX8_grow 42 = .ok (.athrow, 1) := by decide +kernel
theorem dX8_grow_43 : decode cX8_grow 43 = .ok (.iload_n 2, 1) := by decide +kernel
theorem dX8_grow_44 : decode cX8_grow 44 = .ok (.bipush 110, 2) := by decide +kernel
theorem dX8_grow_46 : decode cX8_grow 46 = .ok (.if_icmp .eq 13, 3) := by decide +kernel
theorem dX8_grow_49 : decode cX8_grow 49 = .ok (.new 95, 3) := by decide +kernel
theorem dX8_grow_52 : decode cX8_grow 52 = .ok (.dup, 1) := by decide +kernel
theorem dX8_grow_53 : decode cX8_grow 53 = .ok (.ldc 162, 2) := by decide +kernel
theorem dX8_grow_55 : decode cX8_grow 55 = .ok (.invokespecial 99, 3) := by decide +kernel
theorem dX8_grow_58 : decode cX8_grow 58 = .ok (.athrow, 1) := by decide +kernel
theorem dX8_grow_59 : decode cX8_grow 59 = .ok (.aload_n 0, 1) := by decide +kernel
theorem dX8_grow_60 : decode cX8_grow 60 = .ok (.iload_n 1, 1) := by decide +kernel
theorem dX8_grow_61 : decode cX8_grow 61 = .ok (.invokevirtual 147, 3) := by decide +kernel
theorem dX8_grow_64 : decode cX8_grow 64 = .ok (.istore_n 3, 1) := by decide +kernel
theorem dX8_grow_65 : decode cX8_grow 65 = .ok (.aload_n 0, 1) := by decide +kernel
theorem dX8_grow_66 : decode cX8_grow 66 = .ok (.getfield 18, 3) := by decide +kernel
theorem dX8_grow_69 : decode cX8_grow 69 = .ok (.iload_n 1, 1) := by decide +kernel
theorem dX8_grow_70 : decode cX8_grow 70 = .ok (.iload_n 3, 1) := by decide +kernel
theorem dX8_grow_71 : decode cX8_grow 71 = .ok (.invokevirtual 164, 3) := by decide +kernel
theorem dX8_grow_74 : decode cX8_grow 74 = .ok (.iload_n 3, 1) := by decide +kernel
theorem dX8_grow_75 : decode cX8_grow 75 = .ok (.ireturn, 1) := by decide +kernel
theorem dX8_growReason_0 : decode cX8_growReason 0 = .ok (.aload_n 0, 1) := by decide +kernel
theorem dX8_growReason_1 : decode cX8_growReason 1 = .ok (.iload_n 1, 1) := by decide +kernel
theorem dX8_growReason_2 : decode cX8_growReason 2 = .ok (.invokevirtual 106, 3) := by decide +kernel
theorem dX8_growReason_5 : decode cX8_growReason 5 = .ok (.aload_n 0, 1) := by decide +kernel
theorem dX8_growReason_6 : decode cX8_growReason 6 = .ok (.iload_n 1, 1) := by decide +kernel
theorem dX8_growReason_7 : decode cX8_growReason 7 = .ok (.invokevirtual 153, 3) := by decide +kernel
theorem dX8_growReason_10 : decode cX8_growReason 10 = .ok (.ireturn, 1) := by decide +kernel
theorem dX8_inTheWay_0 : decode cX8_inTheWay 0 = .ok (.aload_n 0, 1) := by decide +kernel
theorem dX8_inTheWay_1 : decode cX8_inTheWay 1 = .ok (.iload_n 1, 1) := by decide +kernel
theorem dX8_inTheWay_2 : decode cX8_inTheWay 2 = .ok (.invokevirtual 106, 3) := by decide +kernel
theorem dX8_inTheWay_5 : decode cX8_inTheWay 5 = .ok (.aload_n 0, 1) := by decide +kernel
theorem dX8_inTheWay_6 : decode cX8_inTheWay 6 = .ok (.iload_n 1, 1) := by decide +kernel
theorem dX8_inTheWay_7 : decode cX8_inTheWay 7 = .ok (.invokevirtual 150, 3) := by decide +kernel
theorem dX8_inTheWay_10 : decode cX8_inTheWay 10 = .ok (.ifCond .ne 11, 3) := by decide +kernel
theorem dX8_inTheWay_13 : decode cX8_inTheWay 13 = .ok (.aload_n 0, 1) := by decide +kernel
theorem dX8_inTheWay_14 : decode cX8_inTheWay 14 = .ok (.iload_n 1, 1) := by decide +kernel
theorem dX8_inTheWay_15 : decode cX8_inTheWay 15 = .ok (.invokevirtual 167, 3) := by decide +kernel
theorem dX8_inTheWay_18 : decode cX8_inTheWay 18 = .ok (.ifCond .ne 13, 3) := by decide +kernel
theorem dX8_inTheWay_21 : decode cX8_inTheWay 21 = .ok (.new 157, 3) := by decide +kernel
theorem dX8_inTheWay_24 : decode cX8_inTheWay 24 = .ok (.dup, 1) := by decide +kernel
theorem dX8_inTheWay_25 : decode cX8_inTheWay 25 = .ok (.ldc 170, 2) := by decide +kernel
theorem dX8_inTheWay_27 : decode cX8_inTheWay 27 = .ok (.invokespecial 161, 3) := by decide +kernel
theorem dX8_inTheWay_30 : decode cX8_inTheWay 30 = .ok (.athrow, 1) := by decide +kernel
theorem dX8_inTheWay_31 : decode cX8_inTheWay 31 = .ok (.aload_n 0, 1) := by decide +kernel
theorem dX8_inTheWay_32 : decode cX8_inTheWay 32 = .ok (.iload_n 1, 1) := by decide +kernel
theorem dX8_inTheWay_33 : decode cX8_inTheWay 33 = .ok (.invokevirtual 172, 3) := by decide +kernel
theorem dX8_inTheWay_36 : decode cX8_inTheWay 36 = .ok (.istore_n 2, 1) := by decide +kernel
theorem dX8_inTheWay_37 : decode cX8_inTheWay 37 = .ok (.iload_n 2, 1) := by decide +kernel
theorem dX8_inTheWay_38 : decode cX8_inTheWay 38 = .ok (.iconst (-1), 1) := by decide +kernel
theorem dX8_inTheWay_39 : decode cX8_inTheWay 39 = .ok (.if_icmp .ne 13, 3) := by decide +kernel
theorem dX8_inTheWay_42 : decode cX8_inTheWay 42 = .ok (.new 157, 3) := by decide +kernel
theorem dX8_inTheWay_45 : decode cX8_inTheWay 45 = .ok (.dup, 1) := by decide +kernel
theorem dX8_inTheWay_46 : decode cX8_inTheWay 46 = .ok (.ldc 175, 2) := by decide +kernel
theorem dX8_inTheWay_48 : decode cX8_inTheWay 48 = .ok (.invokespecial 161, 3) := by decide +kernel
theorem dX8_inTheWay_51 : decode cX8_inTheWay 51 = .ok (.athrow, 1) := by decide +kernel
theorem dX8_inTheWay_52 : decode cX8_inTheWay 52 = .ok (.iload_n 2, 1) := by decide +kernel
theorem dX8_inTheWay_53 : decode cX8_inTheWay 53 = .ok (.ireturn, 1) := by decide +kernel
theorem dX8_addWish_0 : decode cX8_addWish 0 = .ok (.aload_n 0, 1) := by decide +kernel
theorem dX8_addWish_1 : decode cX8_addWish 1 = .ok (.iload_n 2, 1) := by decide +kernel
theorem dX8_addWish_2 : decode cX8_addWish 2 = .ok (.invokevirtual 106, 3) := by decide +kernel
theorem dX8_addWish_5 : decode cX8_addWish 5 = .ok (.aload_n 0, 1) := by decide +kernel
theorem dX8_addWish_6 : decode cX8_addWish 6 = .ok (.iload_n 3, 1) := by decide +kernel
theorem dX8_addWish_7 : decode cX8_addWish 7 = .ok (.invokevirtual 106, 3) := by decide +kernel
theorem dX8_addWish_10 : decode cX8_addWish 10 = .ok (.iload_n 1, 1) := by decide +kernel
theorem dX8_addWish_11 : decode cX8_addWish 11 = .ok (.invokestatic 177, 3) := by decide +kernel
theorem dX8_addWish_14 : decode cX8_addWish 14 = .ok (.ifCond .eq 21, 3) := by decide +kernel
theorem dX8_addWish_17 : decode cX8_addWish 17 = .ok (.iload_n 2, 1) := by decide +kernel
theorem dX8_addWish_18 : decode cX8_addWish 18 = .ok (.iload_n 3, 1) := by decide +kernel
theorem dX8_addWish_19 : decode cX8_addWish 19 = .ok (.if_icmp .eq 16, 3) := by decide +kernel
theorem dX8_addWish_22 : decode cX8_addWish 22 = .ok (.iload 4, 2) := by decide +kernel
theorem dX8_addWish_24 : decode cX8_addWish 24 = .ok (.iconst 1, 1) := by decide +kernel
theorem dX8_addWish_25 : decode cX8_addWish 25 = .ok (.if_icmp .lt 10, 3) := by decide +kernel
theorem dX8_addWish_28 : decode cX8_addWish 28 = .ok (.iload 4, 2) := by decide +kernel
theorem dX8_addWish_30 : decode cX8_addWish 30 = .ok (.bipush 9, 2) := by decide +kernel
theorem dX8_addWish_32 : decode cX8_addWish 32 = .ok (.if_icmp .le 13, 3) := by decide +kernel
theorem dX8_addWish_35 : decode cX8_addWish 35 = .ok (.new 69, 3) := by decide +kernel
theorem dX8_addWish_38 : decode cX8_addWish 38 = .ok (.dup, 1) := by decide +kernel
theorem dX8_addWish_39 : decode cX8_addWish 39 = .ok (.ldc 180, 2) := by decide +kernel
theorem dX8_addWish_41 : decode cX8_addWish 41 = .ok (.invokespecial 73, 3) := by decide +kernel
theorem dX8_addWish_44 : decode cX8_addWish 44 = .ok (.athrow, 1) := by decide +kernel
theorem dX8_addWish_45 : decode cX8_addWish 45 = .ok (.aload_n 0, 1) := by decide +kernel
theorem dX8_addWish_46 : decode cX8_addWish 46 = .ok (.getfield 34, 3) := by decide +kernel
theorem dX8_addWish_49 : decode cX8_addWish 49 = .ok (.invokevirtual 182, 3) := by decide +kernel
theorem dX8_addWish_52 : decode cX8_addWish 52 = .ok (.bipush 8, 2) := by decide +kernel
theorem dX8_addWish_54 : decode cX8_addWish 54 = .ok (.if_icmp .lt 13, 3) := by decide +kernel
theorem dX8_addWish_57 : decode cX8_addWish 57 = .ok (.new 86, 3) := by decide +kernel
theorem dX8_addWish_60 : decode cX8_addWish 60 = .ok (.dup, 1) := by decide +kernel
theorem dX8_addWish_61 : decode cX8_addWish 61 = .ok (.ldc 185, 2) := by decide +kernel
theorem dX8_addWish_63 : decode cX8_addWish 63 = .ok (.invokespecial 90, 3) := by decide +kernel
theorem dX8_addWish_66 : decode cX8_addWish 66 = .ok (.athrow, 1) := by decide +kernel
theorem dX8_addWish_67 : decode cX8_addWish 67 = .ok (.aload_n 0, 1) := by decide +kernel
theorem dX8_addWish_68 : decode cX8_addWish 68 = .ok (.getfield 34, 3) := by decide +kernel
theorem dX8_addWish_71 : decode cX8_addWish 71 = .ok (.iload_n 1, 1) := by decide +kernel
theorem dX8_addWish_72 : decode cX8_addWish 72 = .ok (.iload_n 2, 1) := by decide +kernel
theorem dX8_addWish_73 : decode cX8_addWish 73 = .ok (.iload_n 3, 1) := by decide +kernel
theorem dX8_addWish_74 : decode cX8_addWish 74 = .ok (.iload 4, 2) := by decide +kernel
theorem dX8_addWish_76 : decode cX8_addWish 76 = .ok (.invokevirtual 187, 3) := by decide +kernel
theorem dX8_addWish_79 : decode cX8_addWish 79 = .ok (.aload_n 0, 1) := by decide +kernel
theorem dX8_addWish_80 : decode cX8_addWish 80 = .ok (.getfield 34, 3) := by decide +kernel
theorem dX8_addWish_83 : decode cX8_addWish 83 = .ok (.invokevirtual 182, 3) := by decide +kernel
theorem dX8_addWish_86 : decode cX8_addWish 86 = .ok (.iconst 1, 1) := by decide +kernel
theorem dX8_addWish_87 : decode cX8_addWish 87 = .ok (.isub, 1) := by decide +kernel
theorem dX8_addWish_88 : decode cX8_addWish 88 = .ok (.ireturn, 1) := by decide +kernel
theorem dX8_dropWish_0 : decode cX8_dropWish 0 = .ok (.aload_n 0, 1) := by decide +kernel
theorem dX8_dropWish_1 : decode cX8_dropWish 1 = .ok (.iload_n 1, 1) := by decide +kernel
theorem dX8_dropWish_2 : decode cX8_dropWish 2 = .ok (.invokevirtual 190, 3) := by decide +kernel
theorem dX8_dropWish_5 : decode cX8_dropWish 5 = .ok (.aload_n 0, 1) := by decide +kernel
theorem dX8_dropWish_6 : decode cX8_dropWish 6 = .ok (.getfield 34, 3) := by decide +kernel
theorem dX8_dropWish_9 : decode cX8_dropWish 9 = .ok (.iload_n 1, 1) := by decide +kernel
theorem dX8_dropWish_10 : decode cX8_dropWish 10 = .ok (.invokevirtual 193, 3) := by decide +kernel
theorem dX8_dropWish_13 : decode cX8_dropWish 13 = .ok (.aload_n 0, 1) := by decide +kernel
theorem dX8_dropWish_14 : decode cX8_dropWish 14 = .ok (.getfield 34, 3) := by decide +kernel
theorem dX8_dropWish_17 : decode cX8_dropWish 17 = .ok (.invokevirtual 196, 3) := by decide +kernel
theorem dX8_dropWish_20 : decode cX8_dropWish 20 = .ok (.ireturn, 1) := by decide +kernel
theorem dX8_isMet_0 : decode cX8_isMet 0 = .ok (.aload_n 0, 1) := by decide +kernel
theorem dX8_isMet_1 : decode cX8_isMet 1 = .ok (.iload_n 1, 1) := by decide +kernel
theorem dX8_isMet_2 : decode cX8_isMet 2 = .ok (.invokevirtual 190, 3) := by decide +kernel
theorem dX8_isMet_5 : decode cX8_isMet 5 = .ok (.aload_n 0, 1) := by decide +kernel
theorem dX8_isMet_6 : decode cX8_isMet 6 = .ok (.getfield 34, 3) := by decide +kernel
theorem dX8_isMet_9 : decode cX8_isMet 9 = .ok (.aload_n 0, 1) := by decide +kernel
theorem dX8_isMet_10 : decode cX8_isMet 10 = .ok (.getfield 34, 3) := by decide +kernel
theorem dX8_isMet_13 : decode cX8_isMet 13 = .ok (.iload_n 1, 1) := by decide +kernel
theorem dX8_isMet_14 : decode cX8_isMet 14 = .ok (.invokevirtual 199, 3) := by decide +kernel
theorem dX8_isMet_17 : decode cX8_isMet 17 = .ok (.bipush 120, 2) := by decide +kernel
theorem dX8_isMet_19 : decode cX8_isMet 19 = .ok (.if_icmp .ne 10, 3) := by decide +kernel
theorem dX8_isMet_22 : decode cX8_isMet 22 = .ok (.aload_n 0, 1) := by decide +kernel
theorem dX8_isMet_23 : decode cX8_isMet 23 = .ok (.getfield 14, 3) := by decide +kernel
theorem dX8_isMet_26 : decode cX8_isMet 26 = .ok (.goto 7, 3) := by decide +kernel
theorem dX8_isMet_29 : decode cX8_isMet 29 = .ok (.aload_n 0, 1) := by decide +kernel
theorem dX8_isMet_30 : decode cX8_isMet 30 = .ok (.getfield 18, 3) := by decide +kernel
theorem dX8_isMet_33 : decode cX8_isMet 33 = .ok (.iload_n 1, 1) := by decide +kernel
theorem dX8_isMet_34 : decode cX8_isMet 34 = .ok (.invokevirtual 202, 3) := by decide +kernel
theorem dX8_isMet_37 : decode cX8_isMet 37 = .ok (.ireturn, 1) := by decide +kernel
theorem dX8_strength_0 : decode cX8_strength 0 = .ok (.aload_n 0, 1) := by decide +kernel
theorem dX8_strength_1 : decode cX8_strength 1 = .ok (.iload_n 1, 1) := by decide +kernel
theorem dX8_strength_2 : decode cX8_strength 2 = .ok (.invokevirtual 116, 3) := by decide +kernel
theorem dX8_strength_5 : decode cX8_strength 5 = .ok (.astore_n 2, 1) := by decide +kernel
theorem dX8_strength_6 : decode cX8_strength 6 = .ok (.iconst 0, 1) := by decide +kernel
theorem dX8_strength_7 : decode cX8_strength 7 = .ok (.istore_n 3, 1) := by decide +kernel
theorem dX8_strength_8 : decode cX8_strength 8 = .ok (.iconst 0, 1) := by decide +kernel
theorem dX8_strength_9 : decode cX8_strength 9 = .ok (.istore 4, 2) := by decide +kernel
theorem dX8_strength_11 : decode cX8_strength 11 = .ok (.iload 4, 2) := by decide +kernel
theorem dX8_strength_13 : decode cX8_strength 13 = .ok (.aload_n 0, 1) := by decide +kernel
theorem dX8_strength_14 : decode cX8_strength 14 = .ok (.getfield 34, 3) := by decide +kernel
theorem dX8_strength_17 : decode cX8_strength 17 = .ok (.invokevirtual 182, 3) := by decide +kernel
theorem dX8_strength_20 : decode cX8_strength 20 = .ok (.if_icmp .ge 59, 3) := by decide +kernel
theorem dX8_strength_23 : decode cX8_strength 23 = .ok (.aload_n 0, 1) := by decide +kernel
theorem dX8_strength_24 : decode cX8_strength 24 = .ok (.getfield 34, 3) := by decide +kernel
theorem dX8_strength_27 : decode cX8_strength 27 = .ok (.iload 4, 2) := by decide +kernel
theorem dX8_strength_29 : decode cX8_strength 29 = .ok (.invokevirtual 206, 3) := by decide +kernel
theorem dX8_strength_32 : decode cX8_strength 32 = .ok (.ifCond .eq 41, 3) := by decide +kernel
theorem dX8_strength_35 : decode cX8_strength 35 = .ok (.aload_n 0, 1) := by decide +kernel
theorem dX8_strength_36 : decode cX8_strength 36 = .ok (.getfield 34, 3) := by decide +kernel
theorem dX8_strength_39 : decode cX8_strength 39 = .ok (.iload 4, 2) := by decide +kernel
theorem dX8_strength_41 : decode cX8_strength 41 = .ok (.invokevirtual 199, 3) := by decide +kernel
theorem dX8_strength_44 : decode cX8_strength 44 = .ok (.iload_n 1, 1) := by decide +kernel
theorem dX8_strength_45 : decode cX8_strength 45 = .ok (.if_icmp .ne 28, 3) := by decide +kernel
theorem dX8_strength_48 : decode cX8_strength 48 = .ok (.aload_n 0, 1) := by decide +kernel
theorem dX8_strength_49 : decode cX8_strength 49 = .ok (.getfield 34, 3) := by decide +kernel
theorem dX8_strength_52 : decode cX8_strength 52 = .ok (.aload_n 2, 1) := by decide +kernel
theorem dX8_strength_53 : decode cX8_strength 53 = .ok (.iload 4, 2) := by decide +kernel
theorem dX8_strength_55 : decode cX8_strength 55 = .ok (.invokevirtual 202, 3) := by decide +kernel
theorem dX8_strength_58 : decode cX8_strength 58 = .ok (.ifCond .eq 15, 3) := by decide +kernel
theorem dX8_strength_61 : decode cX8_strength 61 = .ok (.iload_n 3, 1) := by decide +kernel
theorem dX8_strength_62 : decode cX8_strength 62 = .ok (.aload_n 0, 1) := by decide +kernel
theorem dX8_strength_63 : decode cX8_strength 63 = .ok (.getfield 34, 3) := by decide +kernel
theorem dX8_strength_66 : decode cX8_strength 66 = .ok (.iload 4, 2) := by decide +kernel
theorem dX8_strength_68 : decode cX8_strength 68 = .ok (.invokevirtual 209, 3) := by decide +kernel
theorem dX8_strength_71 : decode cX8_strength 71 = .ok (.iadd, 1) := by decide +kernel
theorem dX8_strength_72 : decode cX8_strength 72 = .ok (.istore_n 3, 1) := by decide +kernel
theorem dX8_strength_73 : decode cX8_strength 73 = .ok (.iinc 4 1, 3) := by decide +kernel
theorem dX8_strength_76 : decode cX8_strength 76 = .ok (.goto (-65), 3) := by decide +kernel
theorem dX8_strength_79 : decode cX8_strength 79 = .ok (.iload_n 3, 1) := by decide +kernel
theorem dX8_strength_80 : decode cX8_strength 80 = .ok (.ireturn, 1) := by decide +kernel
theorem dX8_snaps_0 : decode cX8_snaps 0 = .ok (.aload_n 0, 1) := by decide +kernel
theorem dX8_snaps_1 : decode cX8_snaps 1 = .ok (.iload_n 1, 1) := by decide +kernel
theorem dX8_snaps_2 : decode cX8_snaps 2 = .ok (.invokevirtual 106, 3) := by decide +kernel
theorem dX8_snaps_5 : decode cX8_snaps 5 = .ok (.aload_n 0, 1) := by decide +kernel
theorem dX8_snaps_6 : decode cX8_snaps 6 = .ok (.iload_n 2, 1) := by decide +kernel
theorem dX8_snaps_7 : decode cX8_snaps 7 = .ok (.invokevirtual 116, 3) := by decide +kernel
theorem dX8_snaps_10 : decode cX8_snaps 10 = .ok (.iload_n 1, 1) := by decide +kernel
theorem dX8_snaps_11 : decode cX8_snaps 11 = .ok (.aload_n 0, 1) := by decide +kernel
theorem dX8_snaps_12 : decode cX8_snaps 12 = .ok (.getfield 59, 3) := by decide +kernel
theorem dX8_snaps_15 : decode cX8_snaps 15 = .ok (.invokevirtual 212, 3) := by decide +kernel
theorem dX8_snaps_18 : decode cX8_snaps 18 = .ok (.aload_n 0, 1) := by decide +kernel
theorem dX8_snaps_19 : decode cX8_snaps 19 = .ok (.getfield 59, 3) := by decide +kernel
theorem dX8_snaps_22 : decode cX8_snaps 22 = .ok (.invokevirtual 216, 3) := by decide +kernel
theorem dX8_snaps_25 : decode cX8_snaps 25 = .ok (.ireturn, 1) := by decide +kernel
theorem dX8_bestStrength_0 : decode cX8_bestStrength 0 = .ok (.aload_n 0, 1) := by decide +kernel
theorem dX8_bestStrength_1 : decode cX8_bestStrength 1 = .ok (.iload_n 1, 1) := by decide +kernel
theorem dX8_bestStrength_2 : decode cX8_bestStrength 2 = .ok (.invokevirtual 219, 3) := by decide +kernel
theorem dX8_bestStrength_5 : decode cX8_bestStrength 5 = .ok (.aload_n 0, 1) := by decide +kernel
theorem dX8_bestStrength_6 : decode cX8_bestStrength 6 = .ok (.getfield 41, 3) := by decide +kernel
theorem dX8_bestStrength_9 : decode cX8_bestStrength 9 = .ok (.invokevirtual 223, 3) := by decide +kernel
theorem dX8_bestStrength_12 : decode cX8_bestStrength 12 = .ok (.ireturn, 1) := by decide +kernel
theorem dX8_bestByAll_0 : decode cX8_bestByAll 0 = .ok (.aload_n 0, 1) := by decide +kernel
theorem dX8_bestByAll_1 : decode cX8_bestByAll 1 = .ok (.iload_n 1, 1) := by decide +kernel
theorem dX8_bestByAll_2 : decode cX8_bestByAll 2 = .ok (.invokevirtual 226, 3) := by decide +kernel
theorem dX8_bestByAll_5 : decode cX8_bestByAll 5 = .ok (.aload_n 0, 1) := by decide +kernel
theorem dX8_bestByAll_6 : decode cX8_bestByAll 6 = .ok (.getfield 41, 3) := by decide +kernel
theorem dX8_bestByAll_9 : decode cX8_bestByAll 9 = .ok (.invokevirtual 229, 3) := by decide +kernel
theorem dX8_bestByAll_12 : decode cX8_bestByAll 12 = .ok (.ireturn, 1) := by decide +kernel
theorem dX8_tidyCost_0 : decode cX8_tidyCost 0 = .ok (.aload_n 0, 1) := by decide +kernel
theorem dX8_tidyCost_1 : decode cX8_tidyCost 1 = .ok (.iload_n 1, 1) := by decide +kernel
theorem dX8_tidyCost_2 : decode cX8_tidyCost 2 = .ok (.invokevirtual 219, 3) := by decide +kernel
theorem dX8_tidyCost_5 : decode cX8_tidyCost 5 = .ok (.aload_n 0, 1) := by decide +kernel
theorem dX8_tidyCost_6 : decode cX8_tidyCost 6 = .ok (.getfield 41, 3) := by decide +kernel
theorem dX8_tidyCost_9 : decode cX8_tidyCost 9 = .ok (.invokevirtual 232, 3) := by decide +kernel
theorem dX8_tidyCost_12 : decode cX8_tidyCost 12 = .ok (.ireturn, 1) := by decide +kernel
theorem dX8_tidyStart_0 : decode cX8_tidyStart 0 = .ok (.aload_n 0, 1) := by decide +kernel
theorem dX8_tidyStart_1 : decode cX8_tidyStart 1 = .ok (.iload_n 1, 1) := by decide +kernel
theorem dX8_tidyStart_2 : decode cX8_tidyStart 2 = .ok (.invokevirtual 106, 3) := by decide +kernel
theorem dX8_tidyStart_5 : decode cX8_tidyStart 5 = .ok (.aload_n 0, 1) := by decide +kernel
theorem dX8_tidyStart_6 : decode cX8_tidyStart 6 = .ok (.iload_n 2, 1) := by decide +kernel
theorem dX8_tidyStart_7 : decode cX8_tidyStart 7 = .ok (.invokevirtual 219, 3) := by decide +kernel
theorem dX8_tidyStart_10 : decode cX8_tidyStart 10 = .ok (.aload_n 0, 1) := by decide +kernel
theorem dX8_tidyStart_11 : decode cX8_tidyStart 11 = .ok (.getfield 41, 3) := by decide +kernel
theorem dX8_tidyStart_14 : decode cX8_tidyStart 14 = .ok (.iload_n 1, 1) := by decide +kernel
theorem dX8_tidyStart_15 : decode cX8_tidyStart 15 = .ok (.invokevirtual 235, 3) := by decide +kernel
theorem dX8_tidyStart_18 : decode cX8_tidyStart 18 = .ok (.ireturn, 1) := by decide +kernel
theorem dX8_tidy_0 : decode cX8_tidy 0 = .ok (.aload_n 0, 1) := by decide +kernel
theorem dX8_tidy_1 : decode cX8_tidy 1 = .ok (.iload_n 1, 1) := by decide +kernel
theorem dX8_tidy_2 : decode cX8_tidy 2 = .ok (.invokevirtual 219, 3) := by decide +kernel
theorem dX8_tidy_5 : decode cX8_tidy 5 = .ok (.aload_n 0, 1) := by decide +kernel
theorem dX8_tidy_6 : decode cX8_tidy 6 = .ok (.iload_n 1, 1) := by decide +kernel
theorem dX8_tidy_7 : decode cX8_tidy 7 = .ok (.invokevirtual 116, 3) := by decide +kernel
theorem dX8_tidy_10 : decode cX8_tidy 10 = .ok (.astore_n 2, 1) := by decide +kernel
theorem dX8_tidy_11 : decode cX8_tidy 11 = .ok (.iconst 0, 1) := by decide +kernel
theorem dX8_tidy_12 : decode cX8_tidy 12 = .ok (.istore_n 3, 1) := by decide +kernel
theorem dX8_tidy_13 : decode cX8_tidy 13 = .ok (.iload_n 3, 1) := by decide +kernel
theorem dX8_tidy_14 : decode cX8_tidy 14 = .ok (.aload_n 0, 1) := by decide +kernel
theorem dX8_tidy_15 : decode cX8_tidy 15 = .ok (.invokevirtual 82, 3) := by decide +kernel
theorem dX8_tidy_18 : decode cX8_tidy 18 = .ok (.if_icmp .ge 22, 3) := by decide +kernel
theorem dX8_tidy_21 : decode cX8_tidy 21 = .ok (.aload_n 2, 1) := by decide +kernel
theorem dX8_tidy_22 : decode cX8_tidy 22 = .ok (.iload_n 3, 1) := by decide +kernel
theorem dX8_tidy_23 : decode cX8_tidy 23 = .ok (.aload_n 0, 1) := by decide +kernel
theorem dX8_tidy_24 : decode cX8_tidy 24 = .ok (.getfield 41, 3) := by decide +kernel
theorem dX8_tidy_27 : decode cX8_tidy 27 = .ok (.iload_n 3, 1) := by decide +kernel
theorem dX8_tidy_28 : decode cX8_tidy 28 = .ok (.invokevirtual 235, 3) := by decide +kernel
theorem dX8_tidy_31 : decode cX8_tidy 31 = .ok (.invokevirtual 142, 3) := by decide +kernel
theorem dX8_tidy_34 : decode cX8_tidy 34 = .ok (.iinc 3 1, 3) := by decide +kernel
theorem dX8_tidy_37 : decode cX8_tidy 37 = .ok (.goto (-24), 3) := by decide +kernel
theorem dX8_tidy_40 : decode cX8_tidy 40 = .ok (.aload_n 0, 1) := by decide +kernel
theorem dX8_tidy_41 : decode cX8_tidy 41 = .ok (.dup, 1) := by decide +kernel
theorem dX8_tidy_42 : decode cX8_tidy 42 = .ok (.getfield 65, 3) := by decide +kernel
theorem dX8_tidy_45 : decode cX8_tidy 45 = .ok (.aload_n 0, 1) := by decide +kernel
theorem dX8_tidy_46 : decode cX8_tidy 46 = .ok (.getfield 41, 3) := by decide +kernel
theorem dX8_tidy_49 : decode cX8_tidy 49 = .ok (.invokevirtual 232, 3) := by decide +kernel
theorem dX8_tidy_52 : decode cX8_tidy 52 = .ok (.i2l, 1) := by decide +kernel
theorem dX8_tidy_53 : decode cX8_tidy 53 = .ok (.ladd, 1) := by decide +kernel
theorem dX8_tidy_54 : decode cX8_tidy 54 = .ok (.putfield 65, 3) := by decide +kernel
theorem dX8_tidy_57 : decode cX8_tidy 57 = .ok (.aload_n 0, 1) := by decide +kernel
theorem dX8_tidy_58 : decode cX8_tidy 58 = .ok (.getfield 41, 3) := by decide +kernel
theorem dX8_tidy_61 : decode cX8_tidy 61 = .ok (.invokevirtual 232, 3) := by decide +kernel
theorem dX8_tidy_64 : decode cX8_tidy 64 = .ok (.ireturn, 1) := by decide +kernel
theorem dX8_evenCost_0 : decode cX8_evenCost 0 = .ok (.aload_n 0, 1) := by decide +kernel
theorem dX8_evenCost_1 : decode cX8_evenCost 1 = .ok (.getfield 48, 3) := by decide +kernel
theorem dX8_evenCost_4 : decode cX8_evenCost 4 = .ok (.aload_n 0, 1) := by decide +kernel
theorem dX8_evenCost_5 : decode cX8_evenCost 5 = .ok (.iload_n 1, 1) := by decide +kernel
theorem dX8_evenCost_6 : decode cX8_evenCost 6 = .ok (.invokevirtual 116, 3) := by decide +kernel
theorem dX8_evenCost_9 : decode cX8_evenCost 9 = .ok (.aload_n 0, 1) := by decide +kernel
theorem dX8_evenCost_10 : decode cX8_evenCost 10 = .ok (.getfield 24, 3) := by decide +kernel
theorem dX8_evenCost_13 : decode cX8_evenCost 13 = .ok (.invokevirtual 238, 3) := by decide +kernel
theorem dX8_evenCost_16 : decode cX8_evenCost 16 = .ok (.aload_n 0, 1) := by decide +kernel
theorem dX8_evenCost_17 : decode cX8_evenCost 17 = .ok (.getfield 48, 3) := by decide +kernel
theorem dX8_evenCost_20 : decode cX8_evenCost 20 = .ok (.invokevirtual 242, 3) := by decide +kernel
theorem dX8_evenCost_23 : decode cX8_evenCost 23 = .ok (.aload_n 0, 1) := by decide +kernel
theorem dX8_evenCost_24 : decode cX8_evenCost 24 = .ok (.invokevirtual 245, 3) := by decide +kernel
theorem dX8_evenCost_27 : decode cX8_evenCost 27 = .ok (.aload_n 0, 1) := by decide +kernel
theorem dX8_evenCost_28 : decode cX8_evenCost 28 = .ok (.getfield 48, 3) := by decide +kernel
theorem dX8_evenCost_31 : decode cX8_evenCost 31 = .ok (.invokevirtual 248, 3) := by decide +kernel
theorem dX8_evenCost_34 : decode cX8_evenCost 34 = .ok (.ireturn, 1) := by decide +kernel
theorem dX8_evenByAll_0 : decode cX8_evenByAll 0 = .ok (.aload_n 0, 1) := by decide +kernel
theorem dX8_evenByAll_1 : decode cX8_evenByAll 1 = .ok (.getfield 48, 3) := by decide +kernel
theorem dX8_evenByAll_4 : decode cX8_evenByAll 4 = .ok (.aload_n 0, 1) := by decide +kernel
theorem dX8_evenByAll_5 : decode cX8_evenByAll 5 = .ok (.iload_n 1, 1) := by decide +kernel
theorem dX8_evenByAll_6 : decode cX8_evenByAll 6 = .ok (.invokevirtual 116, 3) := by decide +kernel
theorem dX8_evenByAll_9 : decode cX8_evenByAll 9 = .ok (.aload_n 0, 1) := by decide +kernel
theorem dX8_evenByAll_10 : decode cX8_evenByAll 10 = .ok (.getfield 24, 3) := by decide +kernel
theorem dX8_evenByAll_13 : decode cX8_evenByAll 13 = .ok (.invokevirtual 238, 3) := by decide +kernel
theorem dX8_evenByAll_16 : decode cX8_evenByAll 16 = .ok (.aload_n 0, 1) := by decide +kernel
theorem dX8_evenByAll_17 : decode cX8_evenByAll 17 = .ok (.getfield 48, 3) := by decide +kernel
theorem dX8_evenByAll_20 : decode cX8_evenByAll 20 = .ok (.invokevirtual 249, 3) := by decide +kernel
theorem dX8_evenByAll_23 : decode cX8_evenByAll 23 = .ok (.aload_n 0, 1) := by decide +kernel
theorem dX8_evenByAll_24 : decode cX8_evenByAll 24 = .ok (.invokevirtual 245, 3) := by decide +kernel
theorem dX8_evenByAll_27 : decode cX8_evenByAll 27 = .ok (.aload_n 0, 1) := by decide +kernel
theorem dX8_evenByAll_28 : decode cX8_evenByAll 28 = .ok (.getfield 48, 3) := by decide +kernel
theorem dX8_evenByAll_31 : decode cX8_evenByAll 31 = .ok (.invokevirtual 248, 3) := by decide +kernel
theorem dX8_evenByAll_34 : decode cX8_evenByAll 34 = .ok (.ireturn, 1) := by decide +kernel
theorem dX8_spread_0 : decode cX8_spread 0 = .ok (.aload_n 0, 1) := by decide +kernel
theorem dX8_spread_1 : decode cX8_spread 1 = .ok (.iload_n 1, 1) := by decide +kernel
theorem dX8_spread_2 : decode cX8_spread 2 = .ok (.invokevirtual 116, 3) := by decide +kernel
theorem dX8_spread_5 : decode cX8_spread 5 = .ok (.astore_n 2, 1) := by decide +kernel
theorem dX8_spread_6 : decode cX8_spread 6 = .ok (.aload_n 0, 1) := by decide +kernel
theorem dX8_spread_7 : decode cX8_spread 7 = .ok (.getfield 48, 3) := by decide +kernel
theorem dX8_spread_10 : decode cX8_spread 10 = .ok (.aload_n 2, 1) := by decide +kernel
theorem dX8_spread_11 : decode cX8_spread 11 = .ok (.aload_n 0, 1) := by decide +kernel
theorem dX8_spread_12 : decode cX8_spread 12 = .ok (.getfield 24, 3) := by decide +kernel
theorem dX8_spread_15 : decode cX8_spread 15 = .ok (.invokevirtual 238, 3) := by decide +kernel
theorem dX8_spread_18 : decode cX8_spread 18 = .ok (.aload_n 0, 1) := by decide +kernel
theorem dX8_spread_19 : decode cX8_spread 19 = .ok (.getfield 48, 3) := by decide +kernel
theorem dX8_spread_22 : decode cX8_spread 22 = .ok (.invokevirtual 242, 3) := by decide +kernel
theorem dX8_spread_25 : decode cX8_spread 25 = .ok (.aload_n 0, 1) := by decide +kernel
theorem dX8_spread_26 : decode cX8_spread 26 = .ok (.invokevirtual 245, 3) := by decide +kernel
theorem dX8_spread_29 : decode cX8_spread 29 = .ok (.iconst 0, 1) := by decide +kernel
theorem dX8_spread_30 : decode cX8_spread 30 = .ok (.istore_n 3, 1) := by decide +kernel
theorem dX8_spread_31 : decode cX8_spread 31 = .ok (.iload_n 3, 1) := by decide +kernel
theorem dX8_spread_32 : decode cX8_spread 32 = .ok (.aload_n 0, 1) := by decide +kernel
theorem dX8_spread_33 : decode cX8_spread 33 = .ok (.invokevirtual 82, 3) := by decide +kernel
theorem dX8_spread_36 : decode cX8_spread 36 = .ok (.if_icmp .ge 29, 3) := by decide +kernel
theorem dX8_spread_39 : decode cX8_spread 39 = .ok (.aload_n 2, 1) := by decide +kernel
theorem dX8_spread_40 : decode cX8_spread 40 = .ok (.aload_n 0, 1) := by decide +kernel
theorem dX8_spread_41 : decode cX8_spread 41 = .ok (.getfield 48, 3) := by decide +kernel
theorem dX8_spread_44 : decode cX8_spread 44 = .ok (.iload_n 3, 1) := by decide +kernel
theorem dX8_spread_45 : decode cX8_spread 45 = .ok (.invokevirtual 252, 3) := by decide +kernel
theorem dX8_spread_48 : decode cX8_spread 48 = .ok (.aload_n 0, 1) := by decide +kernel
theorem dX8_spread_49 : decode cX8_spread 49 = .ok (.getfield 48, 3) := by decide +kernel
theorem dX8_spread_52 : decode cX8_spread 52 = .ok (.iload_n 3, 1) := by decide +kernel
theorem dX8_spread_53 : decode cX8_spread 53 = .ok (.invokevirtual 255, 3) := by decide +kernel
theorem dX8_spread_56 : decode cX8_spread 56 = .ok (.invokevirtual 142, 3) := by decide +kernel
theorem dX8_spread_59 : decode cX8_spread 59 = .ok (.iinc 3 1, 3) := by decide +kernel
theorem dX8_spread_62 : decode cX8_spread 62 = .ok (.goto (-31), 3) := by decide +kernel
theorem dX8_spread_65 : decode cX8_spread 65 = .ok (.aload_n 0, 1) := by decide +kernel
theorem dX8_spread_66 : decode cX8_spread 66 = .ok (.dup, 1) := by decide +kernel
theorem dX8_spread_67 : decode cX8_spread 67 = .ok (.getfield 65, 3) := by decide +kernel
theorem dX8_spread_70 : decode cX8_spread 70 = .ok (.aload_n 0, 1) := by decide +kernel
theorem dX8_spread_71 : decode cX8_spread 71 = .ok (.getfield 48, 3) := by decide +kernel
theorem dX8_spread_74 : decode cX8_spread 74 = .ok (.invokevirtual 248, 3) := by decide +kernel
theorem dX8_spread_77 : decode cX8_spread 77 = .ok (.i2l, 1) := by decide +kernel
theorem dX8_spread_78 : decode cX8_spread 78 = .ok (.ladd, 1) := by decide +kernel
theorem dX8_spread_79 : decode cX8_spread 79 = .ok (.putfield 65, 3) := by decide +kernel
theorem dX8_spread_82 : decode cX8_spread 82 = .ok (.aload_n 0, 1) := by decide +kernel
theorem dX8_spread_83 : decode cX8_spread 83 = .ok (.getfield 48, 3) := by decide +kernel
theorem dX8_spread_86 : decode cX8_spread 86 = .ok (.invokevirtual 256, 3) := by decide +kernel
theorem dX8_spread_89 : decode cX8_spread 89 = .ok (.ireturn, 1) := by decide +kernel
theorem dX8_guides_0 : decode cX8_guides 0 = .ok (.aload_n 0, 1) := by decide +kernel
theorem dX8_guides_1 : decode cX8_guides 1 = .ok (.iload_n 1, 1) := by decide +kernel
theorem dX8_guides_2 : decode cX8_guides 2 = .ok (.invokevirtual 116, 3) := by decide +kernel
theorem dX8_guides_5 : decode cX8_guides 5 = .ok (.aload_n 0, 1) := by decide +kernel
theorem dX8_guides_6 : decode cX8_guides 6 = .ok (.getfield 62, 3) := by decide +kernel
theorem dX8_guides_9 : decode cX8_guides 9 = .ok (.invokevirtual 259, 3) := by decide +kernel
theorem dX8_guides_12 : decode cX8_guides 12 = .ok (.aload_n 0, 1) := by decide +kernel
theorem dX8_guides_13 : decode cX8_guides 13 = .ok (.getfield 62, 3) := by decide +kernel
theorem dX8_guides_16 : decode cX8_guides 16 = .ok (.invokevirtual 216, 3) := by decide +kernel
theorem dX8_guides_19 : decode cX8_guides 19 = .ok (.ireturn, 1) := by decide +kernel
theorem dX8_guideAt_0 : decode cX8_guideAt 0 = .ok (.aload_n 0, 1) := by decide +kernel
theorem dX8_guideAt_1 : decode cX8_guideAt 1 = .ok (.iload_n 1, 1) := by decide +kernel
theorem dX8_guideAt_2 : decode cX8_guideAt 2 = .ok (.invokevirtual 116, 3) := by decide +kernel
theorem dX8_guideAt_5 : decode cX8_guideAt 5 = .ok (.aload_n 0, 1) := by decide +kernel
theorem dX8_guideAt_6 : decode cX8_guideAt 6 = .ok (.getfield 62, 3) := by decide +kernel
theorem dX8_guideAt_9 : decode cX8_guideAt 9 = .ok (.invokevirtual 259, 3) := by decide +kernel
theorem dX8_guideAt_12 : decode cX8_guideAt 12 = .ok (.iload_n 2, 1) := by decide +kernel
theorem dX8_guideAt_13 : decode cX8_guideAt 13 = .ok (.ifCond .lt 14, 3) := by decide +kernel
theorem dX8_guideAt_16 : decode cX8_guideAt 16 = .ok (.iload_n 2, 1) := by decide +kernel
theorem dX8_guideAt_17 : decode cX8_guideAt 17 = .ok (.aload_n 0, 1) := by decide +kernel
theorem dX8_guideAt_18 : decode cX8_guideAt 18 = .ok (.getfield 62, 3) := by decide +kernel
theorem dX8_guideAt_21 : decode cX8_guideAt 21 = .ok (.invokevirtual 216, 3) := by decide +kernel
theorem dX8_guideAt_24 : decode cX8_guideAt 24 = .ok (.if_icmp .lt 14, 3) := by decide +kernel
theorem dX8_guideAt_27 : decode cX8_guideAt 27 = .ok (.new 157, 3) := by decide +kernel
theorem dX8_guideAt_30 : decode cX8_guideAt 30 = .ok (.dup, 1) := by decide +kernel
theorem dX8_guideAt_31 : decode cX8_guideAt 31 = .ok (.ldc_w 263, 3) := by decide +kernel
theorem dX8_guideAt_34 : decode cX8_guideAt 34 = .ok (.invokespecial 161, 3) := by decide +kernel
theorem dX8_guideAt_37 : decode cX8_guideAt 37 = .ok (.athrow, 1) := by decide +kernel
theorem dX8_guideAt_38 : decode cX8_guideAt 38 = .ok (.aload_n 0, 1) := by decide +kernel
theorem dX8_guideAt_39 : decode cX8_guideAt 39 = .ok (.getfield 62, 3) := by decide +kernel
theorem dX8_guideAt_42 : decode cX8_guideAt 42 = .ok (.iload_n 2, 1) := by decide +kernel
theorem dX8_guideAt_43 : decode cX8_guideAt 43 = .ok (.invokevirtual 265, 3) := by decide +kernel
theorem dX8_guideAt_46 : decode cX8_guideAt 46 = .ok (.ireturn, 1) := by decide +kernel
theorem dX8_distance_0 : decode cX8_distance 0 = .ok (.aload_n 0, 1) := by decide +kernel
theorem dX8_distance_1 : decode cX8_distance 1 = .ok (.iload_n 1, 1) := by decide +kernel
theorem dX8_distance_2 : decode cX8_distance 2 = .ok (.invokevirtual 106, 3) := by decide +kernel
theorem dX8_distance_5 : decode cX8_distance 5 = .ok (.aload_n 0, 1) := by decide +kernel
theorem dX8_distance_6 : decode cX8_distance 6 = .ok (.iload_n 2, 1) := by decide +kernel
theorem dX8_distance_7 : decode cX8_distance 7 = .ok (.invokevirtual 106, 3) := by decide +kernel
theorem dX8_distance_10 : decode cX8_distance 10 = .ok (.iload_n 1, 1) := by decide +kernel
theorem dX8_distance_11 : decode cX8_distance 11 = .ok (.iload_n 2, 1) := by decide +kernel
theorem dX8_distance_12 : decode cX8_distance 12 = .ok (.if_icmp .ne 14, 3) := by decide +kernel
theorem dX8_distance_15 : decode cX8_distance 15 = .ok (.new 69, 3) := by decide +kernel
theorem dX8_distance_18 : decode cX8_distance 18 = .ok (.dup, 1) := by decide +kernel
theorem dX8_distance_19 : decode cX8_distance 19 = .ok (.ldc_w 268, 3) := by decide +kernel
theorem dX8_distance_22 : decode cX8_distance 22 = .ok (.invokespecial 73, 3) := by decide +kernel
theorem dX8_distance_25 : decode cX8_distance 25 = .ok (.athrow, 1) := by decide +kernel
theorem dX8_distance_26 : decode cX8_distance 26 = .ok (.aload_n 0, 1) := by decide +kernel
theorem dX8_distance_27 : decode cX8_distance 27 = .ok (.getfield 14, 3) := by decide +kernel
theorem dX8_distance_30 : decode cX8_distance 30 = .ok (.aload_n 0, 1) := by decide +kernel
theorem dX8_distance_31 : decode cX8_distance 31 = .ok (.getfield 18, 3) := by decide +kernel
theorem dX8_distance_34 : decode cX8_distance 34 = .ok (.iload_n 1, 1) := by decide +kernel
theorem dX8_distance_35 : decode cX8_distance 35 = .ok (.iload_n 2, 1) := by decide +kernel
theorem dX8_distance_36 : decode cX8_distance 36 = .ok (.invokestatic 270, 3) := by decide +kernel
theorem dX8_distance_39 : decode cX8_distance 39 = .ok (.ireturn, 1) := by decide +kernel
theorem dX8_groups_0 : decode cX8_groups 0 = .ok (.aload_n 0, 1) := by decide +kernel
theorem dX8_groups_1 : decode cX8_groups 1 = .ok (.iload_n 1, 1) := by decide +kernel
theorem dX8_groups_2 : decode cX8_groups 2 = .ok (.invokevirtual 274, 3) := by decide +kernel
theorem dX8_groups_5 : decode cX8_groups 5 = .ok (.aload_n 0, 1) := by decide +kernel
theorem dX8_groups_6 : decode cX8_groups 6 = .ok (.getfield 55, 3) := by decide +kernel
theorem dX8_groups_9 : decode cX8_groups 9 = .ok (.aload_n 0, 1) := by decide +kernel
theorem dX8_groups_10 : decode cX8_groups 10 = .ok (.getfield 14, 3) := by decide +kernel
theorem dX8_groups_13 : decode cX8_groups 13 = .ok (.aload_n 0, 1) := by decide +kernel
theorem dX8_groups_14 : decode cX8_groups 14 = .ok (.getfield 18, 3) := by decide +kernel
theorem dX8_groups_17 : decode cX8_groups 17 = .ok (.iload_n 1, 1) := by decide +kernel
theorem dX8_groups_18 : decode cX8_groups 18 = .ok (.invokevirtual 277, 3) := by decide +kernel
theorem dX8_groups_21 : decode cX8_groups 21 = .ok (.ireturn, 1) := by decide +kernel
theorem dX8_groupsByLinks_0 : decode cX8_groupsByLinks 0 = .ok (.aload_n 0, 1) := by decide +kernel
theorem dX8_groupsByLinks_1 : decode cX8_groupsByLinks 1 = .ok (.iload_n 1, 1) := by decide +kernel
theorem dX8_groupsByLinks_2 : decode cX8_groupsByLinks 2 = .ok (.invokevirtual 274, 3) := by decide +kernel
theorem dX8_groupsByLinks_5 : decode cX8_groupsByLinks 5 = .ok (.aload_n 0, 1) := by decide +kernel
theorem dX8_groupsByLinks_6 : decode cX8_groupsByLinks 6 = .ok (.getfield 55, 3) := by decide +kernel
theorem dX8_groupsByLinks_9 : decode cX8_groupsByLinks 9 = .ok (.aload_n 0, 1) := by decide +kernel
theorem dX8_groupsByLinks_10 : decode cX8_groupsByLinks 10 = .ok (.getfield 14, 3) := by decide +kernel
theorem dX8_groupsByLinks_13 : decode cX8_groupsByLinks 13 = .ok (.aload_n 0, 1) := by decide +kernel
theorem dX8_groupsByLinks_14 : decode cX8_groupsByLinks 14 = .ok (.getfield 18, 3) := by decide +kernel
theorem dX8_groupsByLinks_17 : decode cX8_groupsByLinks 17 = .ok (.iload_n 1, 1) := by decide +kernel
theorem dX8_groupsByLinks_18 : decode cX8_groupsByLinks 18 = .ok (.invokevirtual 281, 3) := by decide +kernel
theorem dX8_groupsByLinks_21 : decode cX8_groupsByLinks 21 = .ok (.ireturn, 1) := by decide +kernel
theorem dX8_groupOf_0 : decode cX8_groupOf 0 = .ok (.aload_n 0, 1) := by decide +kernel
theorem dX8_groupOf_1 : decode cX8_groupOf 1 = .ok (.iload_n 1, 1) := by decide +kernel
theorem dX8_groupOf_2 : decode cX8_groupOf 2 = .ok (.invokevirtual 106, 3) := by decide +kernel
theorem dX8_groupOf_5 : decode cX8_groupOf 5 = .ok (.aload_n 0, 1) := by decide +kernel
theorem dX8_groupOf_6 : decode cX8_groupOf 6 = .ok (.iload_n 2, 1) := by decide +kernel
theorem dX8_groupOf_7 : decode cX8_groupOf 7 = .ok (.invokevirtual 274, 3) := by decide +kernel
theorem dX8_groupOf_10 : decode cX8_groupOf 10 = .ok (.aload_n 0, 1) := by decide +kernel
theorem dX8_groupOf_11 : decode cX8_groupOf 11 = .ok (.getfield 55, 3) := by decide +kernel
theorem dX8_groupOf_14 : decode cX8_groupOf 14 = .ok (.aload_n 0, 1) := by decide +kernel
theorem dX8_groupOf_15 : decode cX8_groupOf 15 = .ok (.getfield 14, 3) := by decide +kernel
theorem dX8_groupOf_18 : decode cX8_groupOf 18 = .ok (.aload_n 0, 1) := by decide +kernel
theorem dX8_groupOf_19 : decode cX8_groupOf 19 = .ok (.getfield 18, 3) := by decide +kernel
theorem dX8_groupOf_22 : decode cX8_groupOf 22 = .ok (.iload_n 2, 1) := by decide +kernel
theorem dX8_groupOf_23 : decode cX8_groupOf 23 = .ok (.invokevirtual 277, 3) := by decide +kernel
theorem dX8_groupOf_26 : decode cX8_groupOf 26 = .ok (.pop, 1) := by decide +kernel
theorem dX8_groupOf_27 : decode cX8_groupOf 27 = .ok (.aload_n 0, 1) := by decide +kernel
theorem dX8_groupOf_28 : decode cX8_groupOf 28 = .ok (.getfield 55, 3) := by decide +kernel
theorem dX8_groupOf_31 : decode cX8_groupOf 31 = .ok (.iload_n 1, 1) := by decide +kernel
theorem dX8_groupOf_32 : decode cX8_groupOf 32 = .ok (.invokevirtual 284, 3) := by decide +kernel
theorem dX8_groupOf_35 : decode cX8_groupOf 35 = .ok (.ireturn, 1) := by decide +kernel
theorem dX8_moved_0 : decode cX8_moved 0 = .ok (.aload_n 0, 1) := by decide +kernel
theorem dX8_moved_1 : decode cX8_moved 1 = .ok (.getfield 65, 3) := by decide +kernel
theorem dX8_moved_4 : decode cX8_moved 4 = .ok (.lreturn, 1) := by decide +kernel
theorem dX8_isSound_0 : decode cX8_isSound 0 = .ok (.aload_n 0, 1) := by decide +kernel
theorem dX8_isSound_1 : decode cX8_isSound 1 = .ok (.invokevirtual 293, 3) := by decide +kernel
theorem dX8_isSound_4 : decode cX8_isSound 4 = .ok (.ifCond .eq 51, 3) := by decide +kernel
theorem dX8_isSound_7 : decode cX8_isSound 7 = .ok (.aload_n 0, 1) := by decide +kernel
theorem dX8_isSound_8 : decode cX8_isSound 8 = .ok (.bipush 120, 2) := by decide +kernel
theorem dX8_isSound_10 : decode cX8_isSound 10 = .ok (.invokevirtual 297, 3) := by decide +kernel
theorem dX8_isSound_13 : decode cX8_isSound 13 = .ok (.ifCond .eq 42, 3) := by decide +kernel
theorem dX8_isSound_16 : decode cX8_isSound 16 = .ok (.aload_n 0, 1) := by decide +kernel
theorem dX8_isSound_17 : decode cX8_isSound 17 = .ok (.bipush 121, 2) := by decide +kernel
theorem dX8_isSound_19 : decode cX8_isSound 19 = .ok (.invokevirtual 297, 3) := by decide +kernel
theorem dX8_isSound_22 : decode cX8_isSound 22 = .ok (.ifCond .eq 33, 3) := by decide +kernel
theorem dX8_isSound_25 : decode cX8_isSound 25 = .ok (.aload_n 0, 1) := by decide +kernel
theorem dX8_isSound_26 : decode cX8_isSound 26 = .ok (.iconst 0, 1) := by decide +kernel
theorem dX8_isSound_27 : decode cX8_isSound 27 = .ok (.invokevirtual 301, 3) := by decide +kernel
theorem dX8_isSound_30 : decode cX8_isSound 30 = .ok (.ifCond .eq 25, 3) := by decide +kernel
theorem dX8_isSound_33 : decode cX8_isSound 33 = .ok (.aload_n 0, 1) := by decide +kernel
theorem dX8_isSound_34 : decode cX8_isSound 34 = .ok (.bipush 10, 2) := by decide +kernel
theorem dX8_isSound_36 : decode cX8_isSound 36 = .ok (.invokevirtual 301, 3) := by decide +kernel
theorem dX8_isSound_39 : decode cX8_isSound 39 = .ok (.ifCond .eq 16, 3) := by decide +kernel
theorem dX8_isSound_42 : decode cX8_isSound 42 = .ok (.aload_n 0, 1) := by decide +kernel
theorem dX8_isSound_43 : decode cX8_isSound 43 = .ok (.bipush 50, 2) := by decide +kernel
theorem dX8_isSound_45 : decode cX8_isSound 45 = .ok (.invokevirtual 301, 3) := by decide +kernel
theorem dX8_isSound_48 : decode cX8_isSound 48 = .ok (.ifCond .eq 7, 3) := by decide +kernel
theorem dX8_isSound_51 : decode cX8_isSound 51 = .ok (.iconst 1, 1) := by decide +kernel
theorem dX8_isSound_52 : decode cX8_isSound 52 = .ok (.goto 4, 3) := by decide +kernel
theorem dX8_isSound_55 : decode cX8_isSound 55 = .ok (.iconst 0, 1) := by decide +kernel
theorem dX8_isSound_56 : decode cX8_isSound 56 = .ok (.ireturn, 1) := by decide +kernel
theorem dX8_shapeCount_0 : decode cX8_shapeCount 0 = .ok (.aload_n 0, 1) := by decide +kernel
theorem dX8_shapeCount_1 : decode cX8_shapeCount 1 = .ok (.getfield 14, 3) := by decide +kernel
theorem dX8_shapeCount_4 : decode cX8_shapeCount 4 = .ok (.invokevirtual 304, 3) := by decide +kernel
theorem dX8_shapeCount_7 : decode cX8_shapeCount 7 = .ok (.ireturn, 1) := by decide +kernel
theorem dX8_requireShape_0 : decode cX8_requireShape 0 = .ok (.iload_n 1, 1) := by decide +kernel
theorem dX8_requireShape_1 : decode cX8_requireShape 1 = .ok (.ifCond .lt 11, 3) := by decide +kernel
theorem dX8_requireShape_4 : decode cX8_requireShape 4 = .ok (.iload_n 1, 1) := by decide +kernel
theorem dX8_requireShape_5 : decode cX8_requireShape 5 = .ok (.aload_n 0, 1) := by decide +kernel
theorem dX8_requireShape_6 : decode cX8_requireShape 6 = .ok (.invokevirtual 82, 3) := by decide +kernel
theorem dX8_requireShape_9 : decode cX8_requireShape 9 = .ok (.if_icmp .lt 14, 3) := by decide +kernel
theorem dX8_requireShape_12 : decode cX8_requireShape 12 = .ok (.new 307, 3) := by decide +kernel
theorem dX8_requireShape_15 : decode cX8_requireShape 15 = .ok (.dup, 1) := by decide +kernel
theorem dX8_requireShape_16 : decode cX8_requireShape 16 = .ok (.ldc_w 309, 3) := by decide +kernel
theorem dX8_requireShape_19 : decode cX8_requireShape 19 = .ok (.invokespecial 311, 3) := by decide +kernel
theorem dX8_requireShape_22 : decode cX8_requireShape 22 = .ok (.athrow, 1) := by decide +kernel
theorem dX8_requireShape_23 : decode cX8_requireShape 23 = .ok (.return_, 1) := by decide +kernel
theorem dX8_requireWish_0 : decode cX8_requireWish 0 = .ok (.aload_n 0, 1) := by decide +kernel
theorem dX8_requireWish_1 : decode cX8_requireWish 1 = .ok (.getfield 34, 3) := by decide +kernel
theorem dX8_requireWish_4 : decode cX8_requireWish 4 = .ok (.iload_n 1, 1) := by decide +kernel
theorem dX8_requireWish_5 : decode cX8_requireWish 5 = .ok (.invokevirtual 206, 3) := by decide +kernel
theorem dX8_requireWish_8 : decode cX8_requireWish 8 = .ok (.ifCond .ne 13, 3) := by decide +kernel
theorem dX8_requireWish_11 : decode cX8_requireWish 11 = .ok (.new 157, 3) := by decide +kernel
theorem dX8_requireWish_14 : decode cX8_requireWish 14 = .ok (.dup, 1) := by decide +kernel
theorem dX8_requireWish_15 : decode cX8_requireWish 15 = .ok (.ldc 180, 2) := by decide +kernel
theorem dX8_requireWish_17 : decode cX8_requireWish 17 = .ok (.invokespecial 161, 3) := by decide +kernel
theorem dX8_requireWish_20 : decode cX8_requireWish 20 = .ok (.athrow, 1) := by decide +kernel
theorem dX8_requireWish_21 : decode cX8_requireWish 21 = .ok (.return_, 1) := by decide +kernel
theorem dX8_requireDistance_0 : decode cX8_requireDistance 0 = .ok (.iload_n 1, 1) := by decide +kernel
theorem dX8_requireDistance_1 : decode cX8_requireDistance 1 = .ok (.ifCond .lt 10, 3) := by decide +kernel
theorem dX8_requireDistance_4 : decode cX8_requireDistance 4 = .ok (.iload_n 1, 1) := by decide +kernel
theorem dX8_requireDistance_5 : decode cX8_requireDistance 5 = .ok (.sipush 200, 3) := by decide +kernel
theorem dX8_requireDistance_8 : decode cX8_requireDistance 8 = .ok (.if_icmp .le 14, 3) := by decide +kernel
theorem dX8_requireDistance_11 : decode cX8_requireDistance 11 = .ok (.new 69, 3) := by decide +kernel
theorem dX8_requireDistance_14 : decode cX8_requireDistance 14 = .ok (.dup, 1) := by decide +kernel
theorem dX8_requireDistance_15 : decode cX8_requireDistance 15 = .ok (.ldc_w 312, 3) := by decide +kernel
theorem dX8_requireDistance_18 : decode cX8_requireDistance 18 = .ok (.invokespecial 73, 3) := by decide +kernel
theorem dX8_requireDistance_21 : decode cX8_requireDistance 21 = .ok (.athrow, 1) := by decide +kernel
theorem dX8_requireDistance_22 : decode cX8_requireDistance 22 = .ok (.return_, 1) := by decide +kernel
theorem dX8_requireEvenLayout_0 : decode cX8_requireEvenLayout 0 = .ok (.aload_n 0, 1) := by decide +kernel
theorem dX8_requireEvenLayout_1 : decode cX8_requireEvenLayout 1 = .ok (.getfield 48, 3) := by decide +kernel
theorem dX8_requireEvenLayout_4 : decode cX8_requireEvenLayout 4 = .ok (.invokevirtual 248, 3) := by decide +kernel
theorem dX8_requireEvenLayout_7 : decode cX8_requireEvenLayout 7 = .ok (.iconst (-1), 1) := by decide +kernel
theorem dX8_requireEvenLayout_8 : decode cX8_requireEvenLayout 8 = .ok (.if_icmp .ne 14, 3) := by decide +kernel
theorem dX8_requireEvenLayout_11 : decode cX8_requireEvenLayout 11 = .ok (.new 157, 3) := by decide +kernel
theorem dX8_requireEvenLayout_14 : decode cX8_requireEvenLayout 14 = .ok (.dup, 1) := by decide +kernel
theorem dX8_requireEvenLayout_15 : decode cX8_requireEvenLayout 15 = .ok (.ldc_w 314, 3) := by decide +kernel
theorem dX8_requireEvenLayout_18 : decode cX8_requireEvenLayout 18 = .ok (.invokespecial 161, 3) := by decide +kernel
theorem dX8_requireEvenLayout_21 : decode cX8_requireEvenLayout 21 = .ok (.athrow, 1) := by decide +kernel
theorem dX8_requireEvenLayout_22 : decode cX8_requireEvenLayout 22 = .ok (.return_, 1) := by decide +kernel
theorem dX8_axisNamed_0 : decode cX8_axisNamed 0 = .ok (.iload_n 1, 1) := by decide +kernel
theorem dX8_axisNamed_1 : decode cX8_axisNamed 1 = .ok (.bipush 120, 2) := by decide +kernel
theorem dX8_axisNamed_3 : decode cX8_axisNamed 3 = .ok (.if_icmp .ne 8, 3) := by decide +kernel
theorem dX8_axisNamed_6 : decode cX8_axisNamed 6 = .ok (.aload_n 0, 1) := by decide +kernel
theorem dX8_axisNamed_7 : decode cX8_axisNamed 7 = .ok (.getfield 14, 3) := by decide +kernel
theorem dX8_axisNamed_10 : decode cX8_axisNamed 10 = .ok (.areturn, 1) := by decide +kernel
theorem dX8_axisNamed_11 : decode cX8_axisNamed 11 = .ok (.iload_n 1, 1) := by decide +kernel
theorem dX8_axisNamed_12 : decode cX8_axisNamed 12 = .ok (.bipush 121, 2) := by decide +kernel
theorem dX8_axisNamed_14 : decode cX8_axisNamed 14 = .ok (.if_icmp .ne 8, 3) := by decide +kernel
theorem dX8_axisNamed_17 : decode cX8_axisNamed 17 = .ok (.aload_n 0, 1) := by decide +kernel
theorem dX8_axisNamed_18 : decode cX8_axisNamed 18 = .ok (.getfield 18, 3) := by decide +kernel
theorem dX8_axisNamed_21 : decode cX8_axisNamed 21 = .ok (.areturn, 1) := by decide +kernel
theorem dX8_axisNamed_22 : decode cX8_axisNamed 22 = .ok (.new 69, 3) := by decide +kernel
theorem dX8_axisNamed_25 : decode cX8_axisNamed 25 = .ok (.dup, 1) := by decide +kernel
theorem dX8_axisNamed_26 : decode cX8_axisNamed 26 = .ok (.ldc_w 316, 3) := by decide +kernel
theorem dX8_axisNamed_29 : decode cX8_axisNamed 29 = .ok (.invokespecial 73, 3) := by decide +kernel
theorem dX8_axisNamed_32 : decode cX8_axisNamed 32 = .ok (.athrow, 1) := by decide +kernel
theorem dX8_isLockedShape_0 : decode cX8_isLockedShape 0 = .ok (.aload_n 0, 1) := by decide +kernel
theorem dX8_isLockedShape_1 : decode cX8_isLockedShape 1 = .ok (.getfield 24, 3) := by decide +kernel
theorem dX8_isLockedShape_4 : decode cX8_isLockedShape 4 = .ok (.iload_n 1, 1) := by decide +kernel
theorem dX8_isLockedShape_5 : decode cX8_isLockedShape 5 = .ok (.invokevirtual 265, 3) := by decide +kernel
theorem dX8_isLockedShape_8 : decode cX8_isLockedShape 8 = .ok (.ifCond .eq 7, 3) := by decide +kernel
theorem dX8_isLockedShape_11 : decode cX8_isLockedShape 11 = .ok (.iconst 1, 1) := by decide +kernel
theorem dX8_isLockedShape_12 : decode cX8_isLockedShape 12 = .ok (.goto 4, 3) := by decide +kernel
theorem dX8_isLockedShape_15 : decode cX8_isLockedShape 15 = .ok (.iconst 0, 1) := by decide +kernel
theorem dX8_isLockedShape_16 : decode cX8_isLockedShape 16 = .ok (.ireturn, 1) := by decide +kernel
theorem dX8_firstOverlapped_0 : decode cX8_firstOverlapped 0 = .ok (.iconst 0, 1) := by decide +kernel
theorem dX8_firstOverlapped_1 : decode cX8_firstOverlapped 1 = .ok (.istore 6, 2) := by decide +kernel
theorem dX8_firstOverlapped_3 : decode cX8_firstOverlapped 3 = .ok (.iload 6, 2) := by decide +kernel
theorem dX8_firstOverlapped_5 : decode cX8_firstOverlapped 5 = .ok (.aload_n 0, 1) := by decide +kernel
theorem dX8_firstOverlapped_6 : decode cX8_firstOverlapped 6 = .ok (.invokevirtual 82, 3) := by decide +kernel
theorem dX8_firstOverlapped_9 : decode cX8_firstOverlapped 9 = .ok (.if_icmp .ge 48, 3) := by decide +kernel
theorem dX8_firstOverlapped_12 : decode cX8_firstOverlapped 12 = .ok (.iload 6, 2) := by decide +kernel
theorem dX8_firstOverlapped_14 : decode cX8_firstOverlapped 14 = .ok (.iload_n 1, 1) := by decide +kernel
theorem dX8_firstOverlapped_15 : decode cX8_firstOverlapped 15 = .ok (.if_icmp .eq 36, 3) := by decide +kernel
theorem dX8_firstOverlapped_18 : decode cX8_firstOverlapped 18 = .ok (.aload_n 0, 1) := by decide +kernel
theorem dX8_firstOverlapped_19 : decode cX8_firstOverlapped 19 = .ok (.getfield 14, 3) := by decide +kernel
theorem dX8_firstOverlapped_22 : decode cX8_firstOverlapped 22 = .ok (.iload 6, 2) := by decide +kernel
theorem dX8_firstOverlapped_24 : decode cX8_firstOverlapped 24 = .ok (.iload_n 2, 1) := by decide +kernel
theorem dX8_firstOverlapped_25 : decode cX8_firstOverlapped 25 = .ok (.iload 4, 2) := by decide +kernel
theorem dX8_firstOverlapped_27 : decode cX8_firstOverlapped 27 = .ok (.invokevirtual 318, 3) := by decide +kernel
theorem dX8_firstOverlapped_30 : decode cX8_firstOverlapped 30 = .ok (.ifCond .eq 21, 3) := by decide +kernel
theorem dX8_firstOverlapped_33 : decode cX8_firstOverlapped 33 = .ok (.aload_n 0, 1) := by decide +kernel
theorem dX8_firstOverlapped_34 : decode cX8_firstOverlapped 34 = .ok (.getfield 18, 3) := by decide +kernel
theorem dX8_firstOverlapped_37 : decode cX8_firstOverlapped 37 = .ok (.iload 6, 2) := by decide +kernel
theorem dX8_firstOverlapped_39 : decode cX8_firstOverlapped 39 = .ok (.iload_n 3, 1) := by decide +kernel
theorem dX8_firstOverlapped_40 : decode cX8_firstOverlapped 40 = .ok (.iload 5, 2) := by decide +kernel
theorem dX8_firstOverlapped_42 : decode cX8_firstOverlapped 42 = .ok (.invokevirtual 318, 3) := by decide +kernel
theorem dX8_firstOverlapped_45 : decode cX8_firstOverlapped 45 = .ok (.ifCond .eq 6, 3) := by decide +kernel
theorem dX8_firstOverlapped_48 : decode cX8_firstOverlapped 48 = .ok (.iload 6, 2) := by decide +kernel
theorem dX8_firstOverlapped_50 : decode cX8_firstOverlapped 50 = .ok (.ireturn, 1) := by decide +kernel
theorem dX8_firstOverlapped_51 : decode cX8_firstOverlapped 51 = .ok (.iinc 6 1, 3) := by decide +kernel
theorem dX8_firstOverlapped_54 : decode cX8_firstOverlapped 54 = .ok (.goto (-51), 3) := by decide +kernel
theorem dX8_firstOverlapped_57 : decode cX8_firstOverlapped 57 = .ok (.iconst (-1), 1) := by decide +kernel
theorem dX8_firstOverlapped_58 : decode cX8_firstOverlapped 58 = .ok (.ireturn, 1) := by decide +kernel
theorem dX8_firstOverlappedIfGrown_0 : decode cX8_firstOverlappedIfGrown 0 = .ok (.aload_n 0, 1) := by decide +kernel
theorem dX8_firstOverlappedIfGrown_1 : decode cX8_firstOverlappedIfGrown 1 = .ok (.iload_n 1, 1) := by decide +kernel
theorem dX8_firstOverlappedIfGrown_2 : decode cX8_firstOverlappedIfGrown 2 = .ok (.aload_n 0, 1) := by decide +kernel
theorem dX8_firstOverlappedIfGrown_3 : decode cX8_firstOverlappedIfGrown 3 = .ok (.getfield 14, 3) := by decide +kernel
theorem dX8_firstOverlappedIfGrown_6 : decode cX8_firstOverlappedIfGrown 6 = .ok (.iload_n 1, 1) := by decide +kernel
theorem dX8_firstOverlappedIfGrown_7 : decode cX8_firstOverlappedIfGrown 7 = .ok (.invokevirtual 120, 3) := by decide +kernel
theorem dX8_firstOverlappedIfGrown_10 : decode cX8_firstOverlappedIfGrown 10 = .ok (.aload_n 0, 1) := by decide +kernel
theorem dX8_firstOverlappedIfGrown_11 : decode cX8_firstOverlappedIfGrown 11 = .ok (.getfield 18, 3) := by decide +kernel
theorem dX8_firstOverlappedIfGrown_14 : decode cX8_firstOverlappedIfGrown 14 = .ok (.iload_n 1, 1) := by decide +kernel
theorem dX8_firstOverlappedIfGrown_15 : decode cX8_firstOverlappedIfGrown 15 = .ok (.invokevirtual 120, 3) := by decide +kernel
theorem dX8_firstOverlappedIfGrown_18 : decode cX8_firstOverlappedIfGrown 18 = .ok (.aload_n 0, 1) := by decide +kernel
theorem dX8_firstOverlappedIfGrown_19 : decode cX8_firstOverlappedIfGrown 19 = .ok (.getfield 14, 3) := by decide +kernel
theorem dX8_firstOverlappedIfGrown_22 : decode cX8_firstOverlappedIfGrown 22 = .ok (.iload_n 1, 1) := by decide +kernel
theorem dX8_firstOverlappedIfGrown_23 : decode cX8_firstOverlappedIfGrown 23 = .ok (.invokevirtual 124, 3) := by decide +kernel
theorem dX8_firstOverlappedIfGrown_26 : decode cX8_firstOverlappedIfGrown 26 = .ok (.aload_n 0, 1) := by decide +kernel
theorem dX8_firstOverlappedIfGrown_27 : decode cX8_firstOverlappedIfGrown 27 = .ok (.iload_n 1, 1) := by decide +kernel
theorem dX8_firstOverlappedIfGrown_28 : decode cX8_firstOverlappedIfGrown 28 = .ok (.invokevirtual 147, 3) := by decide +kernel
theorem dX8_firstOverlappedIfGrown_31 : decode cX8_firstOverlappedIfGrown 31 = .ok (.invokevirtual 91, 3) := by decide +kernel
theorem dX8_firstOverlappedIfGrown_34 : decode cX8_firstOverlappedIfGrown 34 = .ok (.ireturn, 1) := by decide +kernel
theorem dX8_grownLiesOnSlide_0 : decode cX8_grownLiesOnSlide 0 = .ok (.aload_n 0, 1) := by decide +kernel
theorem dX8_grownLiesOnSlide_1 : decode cX8_grownLiesOnSlide 1 = .ok (.getfield 18, 3) := by decide +kernel
theorem dX8_grownLiesOnSlide_4 : decode cX8_grownLiesOnSlide 4 = .ok (.aload_n 0, 1) := by decide +kernel
theorem dX8_grownLiesOnSlide_5 : decode cX8_grownLiesOnSlide 5 = .ok (.getfield 18, 3) := by decide +kernel
theorem dX8_grownLiesOnSlide_8 : decode cX8_grownLiesOnSlide 8 = .ok (.iload_n 1, 1) := by decide +kernel
theorem dX8_grownLiesOnSlide_9 : decode cX8_grownLiesOnSlide 9 = .ok (.invokevirtual 120, 3) := by decide +kernel
theorem dX8_grownLiesOnSlide_12 : decode cX8_grownLiesOnSlide 12 = .ok (.aload_n 0, 1) := by decide +kernel
theorem dX8_grownLiesOnSlide_13 : decode cX8_grownLiesOnSlide 13 = .ok (.iload_n 1, 1) := by decide +kernel
theorem dX8_grownLiesOnSlide_14 : decode cX8_grownLiesOnSlide 14 = .ok (.invokevirtual 147, 3) := by decide +kernel
theorem dX8_grownLiesOnSlide_17 : decode cX8_grownLiesOnSlide 17 = .ok (.invokevirtual 76, 3) := by decide +kernel
theorem dX8_grownLiesOnSlide_20 : decode cX8_grownLiesOnSlide 20 = .ok (.ireturn, 1) := by decide +kernel
theorem dX8_moveHindrance_0 : decode cX8_moveHindrance 0 = .ok (.aload_n 0, 1) := by decide +kernel
theorem dX8_moveHindrance_1 : decode cX8_moveHindrance 1 = .ok (.getfield 14, 3) := by decide +kernel
theorem dX8_moveHindrance_4 : decode cX8_moveHindrance 4 = .ok (.iload_n 1, 1) := by decide +kernel
theorem dX8_moveHindrance_5 : decode cX8_moveHindrance 5 = .ok (.invokevirtual 124, 3) := by decide +kernel
theorem dX8_moveHindrance_8 : decode cX8_moveHindrance 8 = .ok (.istore 4, 2) := by decide +kernel
theorem dX8_moveHindrance_10 : decode cX8_moveHindrance 10 = .ok (.aload_n 0, 1) := by decide +kernel
theorem dX8_moveHindrance_11 : decode cX8_moveHindrance 11 = .ok (.getfield 18, 3) := by decide +kernel
theorem dX8_moveHindrance_14 : decode cX8_moveHindrance 14 = .ok (.iload_n 1, 1) := by decide +kernel
theorem dX8_moveHindrance_15 : decode cX8_moveHindrance 15 = .ok (.invokevirtual 124, 3) := by decide +kernel
theorem dX8_moveHindrance_18 : decode cX8_moveHindrance 18 = .ok (.istore 5, 2) := by decide +kernel
theorem dX8_moveHindrance_20 : decode cX8_moveHindrance 20 = .ok (.aload_n 0, 1) := by decide +kernel
theorem dX8_moveHindrance_21 : decode cX8_moveHindrance 21 = .ok (.iload_n 1, 1) := by decide +kernel
theorem dX8_moveHindrance_22 : decode cX8_moveHindrance 22 = .ok (.invokevirtual 109, 3) := by decide +kernel
theorem dX8_moveHindrance_25 : decode cX8_moveHindrance 25 = .ok (.ifCond .eq 6, 3) := by decide +kernel
theorem dX8_moveHindrance_28 : decode cX8_moveHindrance 28 = .ok (.bipush 108, 2) := by decide +kernel
theorem dX8_moveHindrance_30 : decode cX8_moveHindrance 30 = .ok (.ireturn, 1) := by decide +kernel
theorem dX8_moveHindrance_31 : decode cX8_moveHindrance 31 = .ok (.aload_n 0, 1) := by decide +kernel
theorem dX8_moveHindrance_32 : decode cX8_moveHindrance 32 = .ok (.getfield 14, 3) := by decide +kernel
theorem dX8_moveHindrance_35 : decode cX8_moveHindrance 35 = .ok (.iload_n 2, 1) := by decide +kernel
theorem dX8_moveHindrance_36 : decode cX8_moveHindrance 36 = .ok (.iload 4, 2) := by decide +kernel
theorem dX8_moveHindrance_38 : decode cX8_moveHindrance 38 = .ok (.invokevirtual 76, 3) := by decide +kernel
theorem dX8_moveHindrance_41 : decode cX8_moveHindrance 41 = .ok (.ifCond .eq 16, 3) := by decide +kernel
theorem dX8_moveHindrance_44 : decode cX8_moveHindrance 44 = .ok (.aload_n 0, 1) := by decide +kernel
theorem dX8_moveHindrance_45 : decode cX8_moveHindrance 45 = .ok (.getfield 18, 3) := by decide +kernel
theorem dX8_moveHindrance_48 : decode cX8_moveHindrance 48 = .ok (.iload_n 3, 1) := by decide +kernel
theorem dX8_moveHindrance_49 : decode cX8_moveHindrance 49 = .ok (.iload 5, 2) := by decide +kernel
theorem dX8_moveHindrance_51 : decode cX8_moveHindrance 51 = .ok (.invokevirtual 76, 3) := by decide +kernel
theorem dX8_moveHindrance_54 : decode cX8_moveHindrance 54 = .ok (.ifCond .ne 6, 3) := by decide +kernel
theorem dX8_moveHindrance_57 : decode cX8_moveHindrance 57 = .ok (.bipush 115, 2) := by decide +kernel
theorem dX8_moveHindrance_59 : decode cX8_moveHindrance 59 = .ok (.ireturn, 1) := by decide +kernel
theorem dX8_moveHindrance_60 : decode cX8_moveHindrance 60 = .ok (.aload_n 0, 1) := by decide +kernel
theorem dX8_moveHindrance_61 : decode cX8_moveHindrance 61 = .ok (.iload_n 1, 1) := by decide +kernel
theorem dX8_moveHindrance_62 : decode cX8_moveHindrance 62 = .ok (.iload_n 2, 1) := by decide +kernel
theorem dX8_moveHindrance_63 : decode cX8_moveHindrance 63 = .ok (.iload_n 3, 1) := by decide +kernel
theorem dX8_moveHindrance_64 : decode cX8_moveHindrance 64 = .ok (.iload 4, 2) := by decide +kernel
theorem dX8_moveHindrance_66 : decode cX8_moveHindrance 66 = .ok (.iload 5, 2) := by decide +kernel
theorem dX8_moveHindrance_68 : decode cX8_moveHindrance 68 = .ok (.invokevirtual 91, 3) := by decide +kernel
theorem dX8_moveHindrance_71 : decode cX8_moveHindrance 71 = .ok (.iconst (-1), 1) := by decide +kernel
theorem dX8_moveHindrance_72 : decode cX8_moveHindrance 72 = .ok (.if_icmp .ne 8, 3) := by decide +kernel
theorem dX8_moveHindrance_75 : decode cX8_moveHindrance 75 = .ok (.bipush 110, 2) := by decide +kernel
theorem dX8_moveHindrance_77 : decode cX8_moveHindrance 77 = .ok (.goto 5, 3) := by decide +kernel
theorem dX8_moveHindrance_80 : decode cX8_moveHindrance 80 = .ok (.bipush 111, 2) := by decide +kernel
theorem dX8_moveHindrance_82 : decode cX8_moveHindrance 82 = .ok (.ireturn, 1) := by decide +kernel
theorem dX8_growHindrance_0 : decode cX8_growHindrance 0 = .ok (.aload_n 0, 1) := by decide +kernel
theorem dX8_growHindrance_1 : decode cX8_growHindrance 1 = .ok (.iload_n 1, 1) := by decide +kernel
theorem dX8_growHindrance_2 : decode cX8_growHindrance 2 = .ok (.invokevirtual 150, 3) := by decide +kernel
theorem dX8_growHindrance_5 : decode cX8_growHindrance 5 = .ok (.ifCond .eq 6, 3) := by decide +kernel
theorem dX8_growHindrance_8 : decode cX8_growHindrance 8 = .ok (.bipush 102, 2) := by decide +kernel
theorem dX8_growHindrance_10 : decode cX8_growHindrance 10 = .ok (.ireturn, 1) := by decide +kernel
theorem dX8_growHindrance_11 : decode cX8_growHindrance 11 = .ok (.aload_n 0, 1) := by decide +kernel
theorem dX8_growHindrance_12 : decode cX8_growHindrance 12 = .ok (.iload_n 1, 1) := by decide +kernel
theorem dX8_growHindrance_13 : decode cX8_growHindrance 13 = .ok (.invokevirtual 109, 3) := by decide +kernel
theorem dX8_growHindrance_16 : decode cX8_growHindrance 16 = .ok (.ifCond .eq 6, 3) := by decide +kernel
theorem dX8_growHindrance_19 : decode cX8_growHindrance 19 = .ok (.bipush 108, 2) := by decide +kernel
theorem dX8_growHindrance_21 : decode cX8_growHindrance 21 = .ok (.ireturn, 1) := by decide +kernel
theorem dX8_growHindrance_22 : decode cX8_growHindrance 22 = .ok (.aload_n 0, 1) := by decide +kernel
theorem dX8_growHindrance_23 : decode cX8_growHindrance 23 = .ok (.iload_n 1, 1) := by decide +kernel
theorem dX8_growHindrance_24 : decode cX8_growHindrance 24 = .ok (.invokevirtual 167, 3) := by decide +kernel
theorem dX8_growHindrance_27 : decode cX8_growHindrance 27 = .ok (.ifCond .ne 6, 3) := by decide +kernel
theorem dX8_growHindrance_30 : decode cX8_growHindrance 30 = .ok (.bipush 115, 2) := by decide +kernel
theorem dX8_growHindrance_32 : decode cX8_growHindrance 32 = .ok (.ireturn, 1) := by decide +kernel
theorem dX8_growHindrance_33 : decode cX8_growHindrance 33 = .ok (.aload_n 0, 1) := by decide +kernel
theorem dX8_growHindrance_34 : decode cX8_growHindrance 34 = .ok (.iload_n 1, 1) := by decide +kernel
theorem dX8_growHindrance_35 : decode cX8_growHindrance 35 = .ok (.invokevirtual 172, 3) := by decide +kernel
theorem dX8_growHindrance_38 : decode cX8_growHindrance 38 = .ok (.iconst (-1), 1) := by decide +kernel
theorem dX8_growHindrance_39 : decode cX8_growHindrance 39 = .ok (.if_icmp .ne 8, 3) := by decide +kernel
theorem dX8_growHindrance_42 : decode cX8_growHindrance 42 = .ok (.bipush 110, 2) := by decide +kernel
theorem dX8_growHindrance_44 : decode cX8_growHindrance 44 = .ok (.goto 5, 3) := by decide +kernel
theorem dX8_growHindrance_47 : decode cX8_growHindrance 47 = .ok (.bipush 111, 2) := by decide +kernel
theorem dX8_growHindrance_49 : decode cX8_growHindrance 49 = .ok (.ireturn, 1) := by decide +kernel
theorem dX8_neededHeight_0 : decode cX8_neededHeight 0 = .ok (.aload_n 0, 1) := by decide +kernel
theorem dX8_neededHeight_1 : decode cX8_neededHeight 1 = .ok (.getfield 14, 3) := by decide +kernel
theorem dX8_neededHeight_4 : decode cX8_neededHeight 4 = .ok (.iload_n 1, 1) := by decide +kernel
theorem dX8_neededHeight_5 : decode cX8_neededHeight 5 = .ok (.invokevirtual 124, 3) := by decide +kernel
theorem dX8_neededHeight_8 : decode cX8_neededHeight 8 = .ok (.iconst 2, 1) := by decide +kernel
theorem dX8_neededHeight_9 : decode cX8_neededHeight 9 = .ok (.idiv, 1) := by decide +kernel
theorem dX8_neededHeight_10 : decode cX8_neededHeight 10 = .ok (.istore_n 2, 1) := by decide +kernel
theorem dX8_neededHeight_11 : decode cX8_neededHeight 11 = .ok (.iload_n 2, 1) := by decide +kernel
theorem dX8_neededHeight_12 : decode cX8_neededHeight 12 = .ok (.iconst 1, 1) := by decide +kernel
theorem dX8_neededHeight_13 : decode cX8_neededHeight 13 = .ok (.if_icmp .ge 5, 3) := by decide +kernel
theorem dX8_neededHeight_16 : decode cX8_neededHeight 16 = .ok (.iconst 0, 1) := by decide +kernel
theorem dX8_neededHeight_17 : decode cX8_neededHeight 17 = .ok (.ireturn, 1) := by decide +kernel
theorem dX8_neededHeight_18 : decode cX8_neededHeight 18 = .ok (.aload_n 0, 1) := by decide +kernel
theorem dX8_neededHeight_19 : decode cX8_neededHeight 19 = .ok (.getfield 28, 3) := by decide +kernel
theorem dX8_neededHeight_22 : decode cX8_neededHeight 22 = .ok (.iload_n 1, 1) := by decide +kernel
theorem dX8_neededHeight_23 : decode cX8_neededHeight 23 = .ok (.invokevirtual 265, 3) := by decide +kernel
theorem dX8_neededHeight_26 : decode cX8_neededHeight 26 = .ok (.iload_n 2, 1) := by decide +kernel
theorem dX8_neededHeight_27 : decode cX8_neededHeight 27 = .ok (.iadd, 1) := by decide +kernel
theorem dX8_neededHeight_28 : decode cX8_neededHeight 28 = .ok (.iconst 1, 1) := by decide +kernel
theorem dX8_neededHeight_29 : decode cX8_neededHeight 29 = .ok (.isub, 1) := by decide +kernel
theorem dX8_neededHeight_30 : decode cX8_neededHeight 30 = .ok (.iload_n 2, 1) := by decide +kernel
theorem dX8_neededHeight_31 : decode cX8_neededHeight 31 = .ok (.idiv, 1) := by decide +kernel
theorem dX8_neededHeight_32 : decode cX8_neededHeight 32 = .ok (.istore_n 3, 1) := by decide +kernel
theorem dX8_neededHeight_33 : decode cX8_neededHeight 33 = .ok (.iload_n 3, 1) := by decide +kernel
theorem dX8_neededHeight_34 : decode cX8_neededHeight 34 = .ok (.iconst 5, 1) := by decide +kernel
theorem dX8_neededHeight_35 : decode cX8_neededHeight 35 = .ok (.imul, 1) := by decide +kernel
theorem dX8_neededHeight_36 : decode cX8_neededHeight 36 = .ok (.ireturn, 1) := by decide +kernel
theorem dX8_textFits_0 : decode cX8_textFits 0 = .ok (.aload_n 0, 1) := by decide +kernel
theorem dX8_textFits_1 : decode cX8_textFits 1 = .ok (.iload_n 1, 1) := by decide +kernel
theorem dX8_textFits_2 : decode cX8_textFits 2 = .ok (.invokevirtual 147, 3) := by decide +kernel
theorem dX8_textFits_5 : decode cX8_textFits 5 = .ok (.aload_n 0, 1) := by decide +kernel
theorem dX8_textFits_6 : decode cX8_textFits 6 = .ok (.getfield 18, 3) := by decide +kernel
theorem dX8_textFits_9 : decode cX8_textFits 9 = .ok (.iload_n 1, 1) := by decide +kernel
theorem dX8_textFits_10 : decode cX8_textFits 10 = .ok (.invokevirtual 124, 3) := by decide +kernel
theorem dX8_textFits_13 : decode cX8_textFits 13 = .ok (.if_icmp .gt 7, 3) := by decide +kernel
theorem dX8_textFits_16 : decode cX8_textFits 16 = .ok (.iconst 1, 1) := by decide +kernel
theorem dX8_textFits_17 : decode cX8_textFits 17 = .ok (.goto 4, 3) := by decide +kernel
theorem dX8_textFits_20 : decode cX8_textFits 20 = .ok (.iconst 0, 1) := by decide +kernel
theorem dX8_textFits_21 : decode cX8_textFits 21 = .ok (.ireturn, 1) := by decide +kernel
theorem dX8_loadTidySearch_0 : decode cX8_loadTidySearch 0 = .ok (.aload_n 0, 1) := by decide +kernel
theorem dX8_loadTidySearch_1 : decode cX8_loadTidySearch 1 = .ok (.iload_n 1, 1) := by decide +kernel
theorem dX8_loadTidySearch_2 : decode cX8_loadTidySearch 2 = .ok (.invokevirtual 116, 3) := by decide +kernel
theorem dX8_loadTidySearch_5 : decode cX8_loadTidySearch 5 = .ok (.astore_n 2, 1) := by decide +kernel
theorem dX8_loadTidySearch_6 : decode cX8_loadTidySearch 6 = .ok (.aload_n 0, 1) := by decide +kernel
theorem dX8_loadTidySearch_7 : decode cX8_loadTidySearch 7 = .ok (.getfield 41, 3) := by decide +kernel
theorem dX8_loadTidySearch_10 : decode cX8_loadTidySearch 10 = .ok (.aload_n 2, 1) := by decide +kernel
theorem dX8_loadTidySearch_11 : decode cX8_loadTidySearch 11 = .ok (.iload_n 1, 1) := by decide +kernel
theorem dX8_loadTidySearch_12 : decode cX8_loadTidySearch 12 = .ok (.bipush 120, 2) := by decide +kernel
theorem dX8_loadTidySearch_14 : decode cX8_loadTidySearch 14 = .ok (.if_icmp .ne 10, 3) := by decide +kernel
theorem dX8_loadTidySearch_17 : decode cX8_loadTidySearch 17 = .ok (.aload_n 0, 1) := by decide +kernel
theorem dX8_loadTidySearch_18 : decode cX8_loadTidySearch 18 = .ok (.getfield 18, 3) := by decide +kernel
theorem dX8_loadTidySearch_21 : decode cX8_loadTidySearch 21 = .ok (.goto 7, 3) := by decide +kernel
theorem dX8_loadTidySearch_24 : decode cX8_loadTidySearch 24 = .ok (.aload_n 0, 1) := by decide +kernel
theorem dX8_loadTidySearch_25 : decode cX8_loadTidySearch 25 = .ok (.getfield 14, 3) := by decide +kernel
theorem dX8_loadTidySearch_28 : decode cX8_loadTidySearch 28 = .ok (.aload_n 0, 1) := by decide +kernel
theorem dX8_loadTidySearch_29 : decode cX8_loadTidySearch 29 = .ok (.getfield 24, 3) := by decide +kernel
theorem dX8_loadTidySearch_32 : decode cX8_loadTidySearch 32 = .ok (.invokevirtual 322, 3) := by decide +kernel
theorem dX8_loadTidySearch_35 : decode cX8_loadTidySearch 35 = .ok (.aload_n 0, 1) := by decide +kernel
theorem dX8_loadTidySearch_36 : decode cX8_loadTidySearch 36 = .ok (.getfield 41, 3) := by decide +kernel
theorem dX8_loadTidySearch_39 : decode cX8_loadTidySearch 39 = .ok (.aload_n 0, 1) := by decide +kernel
theorem dX8_loadTidySearch_40 : decode cX8_loadTidySearch 40 = .ok (.getfield 34, 3) := by decide +kernel
theorem dX8_loadTidySearch_43 : decode cX8_loadTidySearch 43 = .ok (.iload_n 1, 1) := by decide +kernel
theorem dX8_loadTidySearch_44 : decode cX8_loadTidySearch 44 = .ok (.invokevirtual 325, 3) := by decide +kernel
theorem dX8_loadTidySearch_47 : decode cX8_loadTidySearch 47 = .ok (.return_, 1) := by decide +kernel
theorem dX8_searchTidiest_0 : decode cX8_searchTidiest 0 = .ok (.aload_n 0, 1) := by decide +kernel
theorem dX8_searchTidiest_1 : decode cX8_searchTidiest 1 = .ok (.iload_n 1, 1) := by decide +kernel
theorem dX8_searchTidiest_2 : decode cX8_searchTidiest 2 = .ok (.invokevirtual 226, 3) := by decide +kernel
theorem dX8_searchTidiest_5 : decode cX8_searchTidiest 5 = .ok (.aload_n 0, 1) := by decide +kernel
theorem dX8_searchTidiest_6 : decode cX8_searchTidiest 6 = .ok (.getfield 41, 3) := by decide +kernel
theorem dX8_searchTidiest_9 : decode cX8_searchTidiest 9 = .ok (.invokevirtual 329, 3) := by decide +kernel
theorem dX8_searchTidiest_12 : decode cX8_searchTidiest 12 = .ok (.return_, 1) := by decide +kernel
theorem dX8_allShapesStandRight_0 : decode cX8_allShapesStandRight 0 = .ok (.iconst 0, 1) := by decide +kernel
theorem dX8_allShapesStandRight_1 : decode cX8_allShapesStandRight 1 = .ok (.istore_n 1, 1) := by decide +kernel
theorem dX8_allShapesStandRight_2 : decode cX8_allShapesStandRight 2 = .ok (.iload_n 1, 1) := by decide +kernel
theorem dX8_allShapesStandRight_3 : decode cX8_allShapesStandRight 3 = .ok (.aload_n 0, 1) := by decide +kernel
theorem dX8_allShapesStandRight_4 : decode cX8_allShapesStandRight 4 = .ok (.invokevirtual 82, 3) := by decide +kernel
theorem dX8_allShapesStandRight_7 : decode cX8_allShapesStandRight 7 = .ok (.if_icmp .ge 90, 3) := by decide +kernel
theorem dX8_allShapesStandRight_10 : decode cX8_allShapesStandRight 10 = .ok (.aload_n 0, 1) := by decide +kernel
theorem dX8_allShapesStandRight_11 : decode cX8_allShapesStandRight 11 = .ok (.getfield 14, 3) := by decide +kernel
theorem dX8_allShapesStandRight_14 : decode cX8_allShapesStandRight 14 = .ok (.iload_n 1, 1) := by decide +kernel
theorem dX8_allShapesStandRight_15 : decode cX8_allShapesStandRight 15 = .ok (.invokevirtual 120, 3) := by decide +kernel
theorem dX8_allShapesStandRight_18 : decode cX8_allShapesStandRight 18 = .ok (.istore_n 2, 1) := by decide +kernel
theorem dX8_allShapesStandRight_19 : decode cX8_allShapesStandRight 19 = .ok (.aload_n 0, 1) := by decide +kernel
theorem dX8_allShapesStandRight_20 : decode cX8_allShapesStandRight 20 = .ok (.getfield 18, 3) := by decide +kernel
theorem dX8_allShapesStandRight_23 : decode cX8_allShapesStandRight 23 = .ok (.iload_n 1, 1) := by decide +kernel
theorem dX8_allShapesStandRight_24 : decode cX8_allShapesStandRight 24 = .ok (.invokevirtual 120, 3) := by decide +kernel
theorem dX8_allShapesStandRight_27 : decode cX8_allShapesStandRight 27 = .ok (.istore_n 3, 1) := by decide +kernel
theorem dX8_allShapesStandRight_28 : decode cX8_allShapesStandRight 28 = .ok (.aload_n 0, 1) := by decide +kernel
theorem dX8_allShapesStandRight_29 : decode cX8_allShapesStandRight 29 = .ok (.getfield 14, 3) := by decide +kernel
theorem dX8_allShapesStandRight_32 : decode cX8_allShapesStandRight 32 = .ok (.iload_n 1, 1) := by decide +kernel
theorem dX8_allShapesStandRight_33 : decode cX8_allShapesStandRight 33 = .ok (.invokevirtual 124, 3) := by decide +kernel
theorem dX8_allShapesStandRight_36 : decode cX8_allShapesStandRight 36 = .ok (.istore 4, 2) := by decide +kernel
theorem dX8_allShapesStandRight_38 : decode cX8_allShapesStandRight 38 = .ok (.aload_n 0, 1) := by decide +kernel
theorem dX8_allShapesStandRight_39 : decode cX8_allShapesStandRight 39 = .ok (.getfield 18, 3) := by decide +kernel
theorem dX8_allShapesStandRight_42 : decode cX8_allShapesStandRight 42 = .ok (.iload_n 1, 1) := by decide +kernel
theorem dX8_allShapesStandRight_43 : decode cX8_allShapesStandRight 43 = .ok (.invokevirtual 124, 3) := by decide +kernel
theorem dX8_allShapesStandRight_46 : decode cX8_allShapesStandRight 46 = .ok (.istore 5, 2) := by decide +kernel
theorem dX8_allShapesStandRight_48 : decode cX8_allShapesStandRight 48 = .ok (.aload_n 0, 1) := by decide +kernel
theorem dX8_allShapesStandRight_49 : decode cX8_allShapesStandRight 49 = .ok (.getfield 14, 3) := by decide +kernel
theorem dX8_allShapesStandRight_52 : decode cX8_allShapesStandRight 52 = .ok (.iload_n 2, 1) := by decide +kernel
theorem dX8_allShapesStandRight_53 : decode cX8_allShapesStandRight 53 = .ok (.iload 4, 2) := by decide +kernel
theorem dX8_allShapesStandRight_55 : decode cX8_allShapesStandRight 55 = .ok (.invokevirtual 76, 3) := by decide +kernel
theorem dX8_allShapesStandRight_58 : decode cX8_allShapesStandRight 58 = .ok (.ifCond .eq 31, 3) := by decide +kernel
theorem dX8_allShapesStandRight_61 : decode cX8_allShapesStandRight 61 = .ok (.aload_n 0, 1) := by decide +kernel
theorem dX8_allShapesStandRight_62 : decode cX8_allShapesStandRight 62 = .ok (.getfield 18, 3) := by decide +kernel
theorem dX8_allShapesStandRight_65 : decode cX8_allShapesStandRight 65 = .ok (.iload_n 3, 1) := by decide +kernel
theorem dX8_allShapesStandRight_66 : decode cX8_allShapesStandRight 66 = .ok (.iload 5, 2) := by decide +kernel
theorem dX8_allShapesStandRight_68 : decode cX8_allShapesStandRight 68 = .ok (.invokevirtual 76, 3) := by decide +kernel
theorem dX8_allShapesStandRight_71 : decode cX8_allShapesStandRight 71 = .ok (.ifCond .eq 18, 3) := by decide +kernel
theorem dX8_allShapesStandRight_74 : decode cX8_allShapesStandRight 74 = .ok (.aload_n 0, 1) := by decide +kernel
theorem dX8_allShapesStandRight_75 : decode cX8_allShapesStandRight 75 = .ok (.iload_n 1, 1) := by decide +kernel
theorem dX8_allShapesStandRight_76 : decode cX8_allShapesStandRight 76 = .ok (.iload_n 2, 1) := by decide +kernel
theorem dX8_allShapesStandRight_77 : decode cX8_allShapesStandRight 77 = .ok (.iload_n 3, 1) := by decide +kernel
theorem dX8_allShapesStandRight_78 : decode cX8_allShapesStandRight 78 = .ok (.iload 4, 2) := by decide +kernel
theorem dX8_allShapesStandRight_80 : decode cX8_allShapesStandRight 80 = .ok (.iload 5, 2) := by decide +kernel
theorem dX8_allShapesStandRight_82 : decode cX8_allShapesStandRight 82 = .ok (.invokevirtual 91, 3) := by decide +kernel
theorem dX8_allShapesStandRight_85 : decode cX8_allShapesStandRight 85 = .ok (.iconst (-1), 1) := by decide +kernel
theorem dX8_allShapesStandRight_86 : decode cX8_allShapesStandRight 86 = .ok (.if_icmp .eq 5, 3) := by decide +kernel
theorem dX8_allShapesStandRight_89 : decode cX8_allShapesStandRight 89 = .ok (.iconst 0, 1) := by decide +kernel
theorem dX8_allShapesStandRight_90 : decode cX8_allShapesStandRight 90 = .ok (.ireturn, 1) := by decide +kernel
theorem dX8_allShapesStandRight_91 : decode cX8_allShapesStandRight 91 = .ok (.iinc 1 1, 3) := by decide +kernel
theorem dX8_allShapesStandRight_94 : decode cX8_allShapesStandRight 94 = .ok (.goto (-92), 3) := by decide +kernel
theorem dX8_allShapesStandRight_97 : decode cX8_allShapesStandRight 97 = .ok (.iconst 1, 1) := by decide +kernel
theorem dX8_allShapesStandRight_98 : decode cX8_allShapesStandRight 98 = .ok (.ireturn, 1) := by decide +kernel
theorem dX8_bothWaysAgreeAlong_0 : decode cX8_bothWaysAgreeAlong 0 = .ok (.aload_n 0, 1) := by decide +kernel
theorem dX8_bothWaysAgreeAlong_1 : decode cX8_bothWaysAgreeAlong 1 = .ok (.iload_n 1, 1) := by decide +kernel
theorem dX8_bothWaysAgreeAlong_2 : decode cX8_bothWaysAgreeAlong 2 = .ok (.invokevirtual 226, 3) := by decide +kernel
theorem dX8_bothWaysAgreeAlong_5 : decode cX8_bothWaysAgreeAlong 5 = .ok (.aload_n 0, 1) := by decide +kernel
theorem dX8_bothWaysAgreeAlong_6 : decode cX8_bothWaysAgreeAlong 6 = .ok (.getfield 41, 3) := by decide +kernel
theorem dX8_bothWaysAgreeAlong_9 : decode cX8_bothWaysAgreeAlong 9 = .ok (.invokevirtual 329, 3) := by decide +kernel
theorem dX8_bothWaysAgreeAlong_12 : decode cX8_bothWaysAgreeAlong 12 = .ok (.aload_n 0, 1) := by decide +kernel
theorem dX8_bothWaysAgreeAlong_13 : decode cX8_bothWaysAgreeAlong 13 = .ok (.getfield 41, 3) := by decide +kernel
theorem dX8_bothWaysAgreeAlong_16 : decode cX8_bothWaysAgreeAlong 16 = .ok (.invokevirtual 223, 3) := by decide +kernel
theorem dX8_bothWaysAgreeAlong_19 : decode cX8_bothWaysAgreeAlong 19 = .ok (.aload_n 0, 1) := by decide +kernel
theorem dX8_bothWaysAgreeAlong_20 : decode cX8_bothWaysAgreeAlong 20 = .ok (.getfield 41, 3) := by decide +kernel
theorem dX8_bothWaysAgreeAlong_23 : decode cX8_bothWaysAgreeAlong 23 = .ok (.invokevirtual 229, 3) := by decide +kernel
theorem dX8_bothWaysAgreeAlong_26 : decode cX8_bothWaysAgreeAlong 26 = .ok (.if_icmp .eq 5, 3) := by decide +kernel
theorem dX8_bothWaysAgreeAlong_29 : decode cX8_bothWaysAgreeAlong 29 = .ok (.iconst 0, 1) := by decide +kernel
theorem dX8_bothWaysAgreeAlong_30 : decode cX8_bothWaysAgreeAlong 30 = .ok (.ireturn, 1) := by decide +kernel
theorem dX8_bothWaysAgreeAlong_31 : decode cX8_bothWaysAgreeAlong 31 = .ok (.aload_n 0, 1) := by decide +kernel
theorem dX8_bothWaysAgreeAlong_32 : decode cX8_bothWaysAgreeAlong 32 = .ok (.getfield 48, 3) := by decide +kernel
theorem dX8_bothWaysAgreeAlong_35 : decode cX8_bothWaysAgreeAlong 35 = .ok (.aload_n 0, 1) := by decide +kernel
theorem dX8_bothWaysAgreeAlong_36 : decode cX8_bothWaysAgreeAlong 36 = .ok (.iload_n 1, 1) := by decide +kernel
theorem dX8_bothWaysAgreeAlong_37 : decode cX8_bothWaysAgreeAlong 37 = .ok (.invokevirtual 116, 3) := by decide +kernel
theorem dX8_bothWaysAgreeAlong_40 : decode cX8_bothWaysAgreeAlong 40 = .ok (.aload_n 0, 1) := by decide +kernel
theorem dX8_bothWaysAgreeAlong_41 : decode cX8_bothWaysAgreeAlong 41 = .ok (.getfield 24, 3) := by decide +kernel
theorem dX8_bothWaysAgreeAlong_44 : decode cX8_bothWaysAgreeAlong 44 = .ok (.invokevirtual 238, 3) := by decide +kernel
theorem dX8_bothWaysAgreeAlong_47 : decode cX8_bothWaysAgreeAlong 47 = .ok (.aload_n 0, 1) := by decide +kernel
theorem dX8_bothWaysAgreeAlong_48 : decode cX8_bothWaysAgreeAlong 48 = .ok (.getfield 48, 3) := by decide +kernel
theorem dX8_bothWaysAgreeAlong_51 : decode cX8_bothWaysAgreeAlong 51 = .ok (.invokevirtual 242, 3) := by decide +kernel
theorem dX8_bothWaysAgreeAlong_54 : decode cX8_bothWaysAgreeAlong 54 = .ok (.aload_n 0, 1) := by decide +kernel
theorem dX8_bothWaysAgreeAlong_55 : decode cX8_bothWaysAgreeAlong 55 = .ok (.getfield 48, 3) := by decide +kernel
theorem dX8_bothWaysAgreeAlong_58 : decode cX8_bothWaysAgreeAlong 58 = .ok (.invokevirtual 248, 3) := by decide +kernel
theorem dX8_bothWaysAgreeAlong_61 : decode cX8_bothWaysAgreeAlong 61 = .ok (.istore_n 2, 1) := by decide +kernel
theorem dX8_bothWaysAgreeAlong_62 : decode cX8_bothWaysAgreeAlong 62 = .ok (.aload_n 0, 1) := by decide +kernel
theorem dX8_bothWaysAgreeAlong_63 : decode cX8_bothWaysAgreeAlong 63 = .ok (.getfield 48, 3) := by decide +kernel
theorem dX8_bothWaysAgreeAlong_66 : decode cX8_bothWaysAgreeAlong 66 = .ok (.invokevirtual 249, 3) := by decide +kernel
theorem dX8_bothWaysAgreeAlong_69 : decode cX8_bothWaysAgreeAlong 69 = .ok (.iload_n 2, 1) := by decide +kernel
theorem dX8_bothWaysAgreeAlong_70 : decode cX8_bothWaysAgreeAlong 70 = .ok (.aload_n 0, 1) := by decide +kernel
theorem dX8_bothWaysAgreeAlong_71 : decode cX8_bothWaysAgreeAlong 71 = .ok (.getfield 48, 3) := by decide +kernel
theorem dX8_bothWaysAgreeAlong_74 : decode cX8_bothWaysAgreeAlong 74 = .ok (.invokevirtual 248, 3) := by decide +kernel
theorem dX8_bothWaysAgreeAlong_77 : decode cX8_bothWaysAgreeAlong 77 = .ok (.if_icmp .ne 7, 3) := by decide +kernel
theorem dX8_bothWaysAgreeAlong_80 : decode cX8_bothWaysAgreeAlong 80 = .ok (.iconst 1, 1) := by decide +kernel
theorem dX8_bothWaysAgreeAlong_81 : decode cX8_bothWaysAgreeAlong 81 = .ok (.goto 4, 3) := by decide +kernel
theorem dX8_bothWaysAgreeAlong_84 : decode cX8_bothWaysAgreeAlong 84 = .ok (.iconst 0, 1) := by decide +kernel
theorem dX8_bothWaysAgreeAlong_85 : decode cX8_bothWaysAgreeAlong 85 = .ok (.ireturn, 1) := by decide +kernel
theorem dX8_groupCountsAgree_0 : decode cX8_groupCountsAgree 0 = .ok (.aload_n 0, 1) := by decide +kernel
theorem dX8_groupCountsAgree_1 : decode cX8_groupCountsAgree 1 = .ok (.getfield 55, 3) := by decide +kernel
theorem dX8_groupCountsAgree_4 : decode cX8_groupCountsAgree 4 = .ok (.aload_n 0, 1) := by decide +kernel
theorem dX8_groupCountsAgree_5 : decode cX8_groupCountsAgree 5 = .ok (.getfield 14, 3) := by decide +kernel
theorem dX8_groupCountsAgree_8 : decode cX8_groupCountsAgree 8 = .ok (.aload_n 0, 1) := by decide +kernel
theorem dX8_groupCountsAgree_9 : decode cX8_groupCountsAgree 9 = .ok (.getfield 18, 3) := by decide +kernel
theorem dX8_groupCountsAgree_12 : decode cX8_groupCountsAgree 12 = .ok (.iload_n 1, 1) := by decide +kernel
theorem dX8_groupCountsAgree_13 : decode cX8_groupCountsAgree 13 = .ok (.invokevirtual 277, 3) := by decide +kernel
theorem dX8_groupCountsAgree_16 : decode cX8_groupCountsAgree 16 = .ok (.aload_n 0, 1) := by decide +kernel
theorem dX8_groupCountsAgree_17 : decode cX8_groupCountsAgree 17 = .ok (.getfield 55, 3) := by decide +kernel
theorem dX8_groupCountsAgree_20 : decode cX8_groupCountsAgree 20 = .ok (.aload_n 0, 1) := by decide +kernel
theorem dX8_groupCountsAgree_21 : decode cX8_groupCountsAgree 21 = .ok (.getfield 14, 3) := by decide +kernel
theorem dX8_groupCountsAgree_24 : decode cX8_groupCountsAgree 24 = .ok (.aload_n 0, 1) := by decide +kernel
theorem dX8_groupCountsAgree_25 : decode cX8_groupCountsAgree 25 = .ok (.getfield 18, 3) := by decide +kernel
theorem dX8_groupCountsAgree_28 : decode cX8_groupCountsAgree 28 = .ok (.iload_n 1, 1) := by decide +kernel
theorem dX8_groupCountsAgree_29 : decode cX8_groupCountsAgree 29 = .ok (.invokevirtual 281, 3) := by decide +kernel
theorem dX8_groupCountsAgree_32 : decode cX8_groupCountsAgree 32 = .ok (.if_icmp .ne 7, 3) := by decide +kernel
theorem dX8_groupCountsAgree_35 : decode cX8_groupCountsAgree 35 = .ok (.iconst 1, 1) := by decide +kernel
theorem dX8_groupCountsAgree_36 : decode cX8_groupCountsAgree 36 = .ok (.goto 4, 3) := by decide +kernel
theorem dX8_groupCountsAgree_39 : decode cX8_groupCountsAgree 39 = .ok (.iconst 0, 1) := by decide +kernel
theorem dX8_groupCountsAgree_40 : decode cX8_groupCountsAgree 40 = .ok (.ireturn, 1) := by decide +kernel
