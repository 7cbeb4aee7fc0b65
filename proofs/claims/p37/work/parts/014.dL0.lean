theorem dL_cell_0 : decode cL_cell 0 = .ok (.ldc 7, 2) := by decide +kernel
theorem dL_cell_2 : decode cL_cell 2 = .ok (.iload_n 1, 1) := by decide +kernel
theorem dL_cell_3 : decode cL_cell 3 = .ok (.aload_n 0, 1) := by decide +kernel
theorem dL_cell_4 : decode cL_cell 4 = .ok (.arraylength, 1) := by decide +kernel
theorem dL_cell_5 : decode cL_cell 5 = .ok (.if_icmp .ge 9, 3) := by decide +kernel
theorem dL_cell_8 : decode cL_cell 8 = .ok (.aload_n 0, 1) := by decide +kernel
theorem dL_cell_9 : decode cL_cell 9 = .ok (.iload_n 1, 1) := by decide +kernel
theorem dL_cell_10 : decode cL_cell 10 = .ok (.iaload, 1) := by decide +kernel
theorem dL_cell_11 : decode cL_cell 11 = .ok (.goto 4, 3) := by decide +kernel
theorem dL_cell_14 : decode cL_cell 14 = .ok (.iconst 0, 1) := by decide +kernel
theorem dL_cell_15 : decode cL_cell 15 = .ok (.sipush 1009, 3) := by decide +kernel
theorem dL_cell_18 : decode cL_cell 18 = .ok (.iload_n 1, 1) := by decide +kernel
theorem dL_cell_19 : decode cL_cell 19 = .ok (.imul, 1) := by decide +kernel
theorem dL_cell_20 : decode cL_cell 20 = .ok (.iadd, 1) := by decide +kernel
theorem dL_cell_21 : decode cL_cell 21 = .ok (.imul, 1) := by decide +kernel
theorem dL_cell_22 : decode cL_cell 22 = .ok (.sipush 12345, 3) := by decide +kernel
theorem dL_cell_25 : decode cL_cell 25 = .ok (.iadd, 1) := by decide +kernel
theorem dL_cell_26 : decode cL_cell 26 = .ok (.istore_n 2, 1) := by decide +kernel
theorem dL_cell_27 : decode cL_cell 27 = .ok (.iload_n 2, 1) := by decide +kernel
theorem dL_cell_28 : decode cL_cell 28 = .ok (.iload_n 2, 1) := by decide +kernel
theorem dL_cell_29 : decode cL_cell 29 = .ok (.bipush 13, 2) := by decide +kernel
theorem dL_cell_31 : decode cL_cell 31 = .ok (.iushr, 1) := by decide +kernel
theorem dL_cell_32 : decode cL_cell 32 = .ok (.ixor, 1) := by decide +kernel
theorem dL_cell_33 : decode cL_cell 33 = .ok (.ldc 8, 2) := by decide +kernel
theorem dL_cell_35 : decode cL_cell 35 = .ok (.imul, 1) := by decide +kernel
theorem dL_cell_36 : decode cL_cell 36 = .ok (.istore_n 2, 1) := by decide +kernel
theorem dL_cell_37 : decode cL_cell 37 = .ok (.iload_n 2, 1) := by decide +kernel
theorem dL_cell_38 : decode cL_cell 38 = .ok (.iload_n 2, 1) := by decide +kernel
theorem dL_cell_39 : decode cL_cell 39 = .ok (.bipush 16, 2) := by decide +kernel
theorem dL_cell_41 : decode cL_cell 41 = .ok (.iushr, 1) := by decide +kernel
theorem dL_cell_42 : decode cL_cell 42 = .ok (.ixor, 1) := by decide +kernel
theorem dL_cell_43 : decode cL_cell 43 = .ok (.ireturn, 1) := by decide +kernel
theorem dL_pick_0 : decode cL_pick 0 = .ok (.aload_n 0, 1) := by decide +kernel
theorem dL_pick_1 : decode cL_pick 1 = .ok (.iload_n 1, 1) := by decide +kernel
theorem dL_pick_2 : decode cL_pick 2 = .ok (.invokestatic 9, 3) := by decide +kernel
theorem dL_pick_5 : decode cL_pick 5 = .ok (.bipush 8, 2) := by decide +kernel
theorem dL_pick_7 : decode cL_pick 7 = .ok (.iushr, 1) := by decide +kernel
theorem dL_pick_8 : decode cL_pick 8 = .ok (.iload_n 2, 1) := by decide +kernel
theorem dL_pick_9 : decode cL_pick 9 = .ok (.irem, 1) := by decide +kernel
theorem dL_pick_10 : decode cL_pick 10 = .ok (.ireturn, 1) := by decide +kernel
theorem dL_told_0 : decode cL_told 0 = .ok (.iload_n 0, 1) := by decide +kernel
theorem dL_told_1 : decode cL_told 1 = .ok (.ifCond .eq 7, 3) := by decide +kernel
theorem dL_told_4 : decode cL_told 4 = .ok (.iconst 1, 1) := by decide +kernel
theorem dL_told_5 : decode cL_told 5 = .ok (.goto 4, 3) := by decide +kernel
theorem dL_told_8 : decode cL_told 8 = .ok (.iconst 0, 1) := by decide +kernel
theorem dL_told_9 : decode cL_told 9 = .ok (.ireturn, 1) := by decide +kernel
theorem dL_axis_0 : decode cL_axis 0 = .ok (.iload_n 0, 1) := by decide +kernel
theorem dL_axis_1 : decode cL_axis 1 = .ok (.ifCond .ne 8, 3) := by decide +kernel
theorem dL_axis_4 : decode cL_axis 4 = .ok (.bipush 120, 2) := by decide +kernel
theorem dL_axis_6 : decode cL_axis 6 = .ok (.goto 5, 3) := by decide +kernel
theorem dL_axis_9 : decode cL_axis 9 = .ok (.bipush 121, 2) := by decide +kernel
theorem dL_axis_11 : decode cL_axis 11 = .ok (.ireturn, 1) := by decide +kernel
theorem dL_kind_0 : decode cL_kind 0 = .ok (.iload_n 0, 1) := by decide +kernel
theorem dL_kind_1 : decode cL_kind 1 = .ok (.ifCond .ne 8, 3) := by decide +kernel
theorem dL_kind_4 : decode cL_kind 4 = .ok (.bipush 108, 2) := by decide +kernel
theorem dL_kind_6 : decode cL_kind 6 = .ok (.goto 45, 3) := by decide +kernel
theorem dL_kind_9 : decode cL_kind 9 = .ok (.iload_n 0, 1) := by decide +kernel
theorem dL_kind_10 : decode cL_kind 10 = .ok (.iconst 1, 1) := by decide +kernel
theorem dL_kind_11 : decode cL_kind 11 = .ok (.if_icmp .ne 8, 3) := by decide +kernel
theorem dL_kind_14 : decode cL_kind 14 = .ok (.bipush 99, 2) := by decide +kernel
theorem dL_kind_16 : decode cL_kind 16 = .ok (.goto 35, 3) := by decide +kernel
theorem dL_kind_19 : decode cL_kind 19 = .ok (.iload_n 0, 1) := by decide +kernel
theorem dL_kind_20 : decode cL_kind 20 = .ok (.iconst 2, 1) := by decide +kernel
theorem dL_kind_21 : decode cL_kind 21 = .ok (.if_icmp .ne 8, 3) := by decide +kernel
theorem dL_kind_24 : decode cL_kind 24 = .ok (.bipush 114, 2) := by decide +kernel
theorem dL_kind_26 : decode cL_kind 26 = .ok (.goto 25, 3) := by decide +kernel
theorem dL_kind_29 : decode cL_kind 29 = .ok (.iload_n 0, 1) := by decide +kernel
theorem dL_kind_30 : decode cL_kind 30 = .ok (.iconst 3, 1) := by decide +kernel
theorem dL_kind_31 : decode cL_kind 31 = .ok (.if_icmp .ne 8, 3) := by decide +kernel
theorem dL_kind_34 : decode cL_kind 34 = .ok (.bipush 116, 2) := by decide +kernel
theorem dL_kind_36 : decode cL_kind 36 = .ok (.goto 15, 3) := by decide +kernel
theorem dL_kind_39 : decode cL_kind 39 = .ok (.iload_n 0, 1) := by decide +kernel
theorem dL_kind_40 : decode cL_kind 40 = .ok (.iconst 4, 1) := by decide +kernel
theorem dL_kind_41 : decode cL_kind 41 = .ok (.if_icmp .ne 8, 3) := by decide +kernel
theorem dL_kind_44 : decode cL_kind 44 = .ok (.bipush 109, 2) := by decide +kernel
theorem dL_kind_46 : decode cL_kind 46 = .ok (.goto 5, 3) := by decide +kernel
theorem dL_kind_49 : decode cL_kind 49 = .ok (.bipush 98, 2) := by decide +kernel
theorem dL_kind_51 : decode cL_kind 51 = .ok (.ireturn, 1) := by decide +kernel
theorem dL_plain_0 : decode cL_plain 0 = .ok (.iload_n 1, 1) := by decide +kernel
theorem dL_plain_1 : decode cL_plain 1 = .ok (.tableswitch 124 0 7 #[47, 58, 77, 86, 93, 99, 111, 117], 47) := by decide +kernel
theorem dL_plain_48 : decode cL_plain 48 = .ok (.aload_n 0, 1) := by decide +kernel
theorem dL_plain_49 : decode cL_plain 49 = .ok (.iload_n 2, 1) := by decide +kernel
theorem dL_plain_50 : decode cL_plain 50 = .ok (.iload_n 3, 1) := by decide +kernel
theorem dL_plain_51 : decode cL_plain 51 = .ok (.iload 4, 2) := by decide +kernel
theorem dL_plain_53 : decode cL_plain 53 = .ok (.iload 5, 2) := by decide +kernel
theorem dL_plain_55 : decode cL_plain 55 = .ok (.invokevirtual 15, 3) := by decide +kernel
theorem dL_plain_58 : decode cL_plain 58 = .ok (.ireturn, 1) := by decide +kernel
theorem dL_plain_59 : decode cL_plain 59 = .ok (.aload_n 0, 1) := by decide +kernel
theorem dL_plain_60 : decode cL_plain 60 = .ok (.iload_n 2, 1) := by decide +kernel
theorem dL_plain_61 : decode cL_plain 61 = .ok (.iload_n 3, 1) := by decide +kernel
theorem dL_plain_62 : decode cL_plain 62 = .ok (.iconst 1, 1) := by decide +kernel
theorem dL_plain_63 : decode cL_plain 63 = .ok (.if_icmp .ne 7, 3) := by decide +kernel
theorem dL_plain_66 : decode cL_plain 66 = .ok (.iconst 1, 1) := by decide +kernel
theorem dL_plain_67 : decode cL_plain 67 = .ok (.goto 4, 3) := by decide +kernel
theorem dL_plain_70 : decode cL_plain 70 = .ok (.iconst 0, 1) := by decide +kernel
theorem dL_plain_71 : decode cL_plain 71 = .ok (.invokevirtual 21, 3) := by decide +kernel
theorem dL_plain_74 : decode cL_plain 74 = .ok (.invokestatic 25, 3) := by decide +kernel
theorem dL_plain_77 : decode cL_plain 77 = .ok (.ireturn, 1) := by decide +kernel
theorem dL_plain_78 : decode cL_plain 78 = .ok (.aload_n 0, 1) := by decide +kernel
theorem dL_plain_79 : decode cL_plain 79 = .ok (.iload_n 2, 1) := by decide +kernel
theorem dL_plain_80 : decode cL_plain 80 = .ok (.iload_n 3, 1) := by decide +kernel
theorem dL_plain_81 : decode cL_plain 81 = .ok (.iload 4, 2) := by decide +kernel
theorem dL_plain_83 : decode cL_plain 83 = .ok (.invokevirtual 29, 3) := by decide +kernel
theorem dL_plain_86 : decode cL_plain 86 = .ok (.ireturn, 1) := by decide +kernel
theorem dL_plain_87 : decode cL_plain 87 = .ok (.aload_n 0, 1) := by decide +kernel
theorem dL_plain_88 : decode cL_plain 88 = .ok (.iload_n 2, 1) := by decide +kernel
theorem dL_plain_89 : decode cL_plain 89 = .ok (.iload_n 3, 1) := by decide +kernel
theorem dL_plain_90 : decode cL_plain 90 = .ok (.invokevirtual 33, 3) := by decide +kernel
theorem dL_plain_93 : decode cL_plain 93 = .ok (.ireturn, 1) := by decide +kernel
theorem dL_plain_94 : decode cL_plain 94 = .ok (.aload_n 0, 1) := by decide +kernel
theorem dL_plain_95 : decode cL_plain 95 = .ok (.iload_n 2, 1) := by decide +kernel
theorem dL_plain_96 : decode cL_plain 96 = .ok (.invokevirtual 37, 3) := by decide +kernel
theorem dL_plain_99 : decode cL_plain 99 = .ok (.ireturn, 1) := by decide +kernel
theorem dL_plain_100 : decode cL_plain 100 = .ok (.aload_n 0, 1) := by decide +kernel
theorem dL_plain_101 : decode cL_plain 101 = .ok (.iload_n 2, 1) := by decide +kernel
theorem dL_plain_102 : decode cL_plain 102 = .ok (.i2c, 1) := by decide +kernel
theorem dL_plain_103 : decode cL_plain 103 = .ok (.iload_n 3, 1) := by decide +kernel
theorem dL_plain_104 : decode cL_plain 104 = .ok (.iload 4, 2) := by decide +kernel
theorem dL_plain_106 : decode cL_plain 106 = .ok (.iload 5, 2) := by decide +kernel
theorem dL_plain_108 : decode cL_plain 108 = .ok (.invokevirtual 41, 3) := by decide +kernel
theorem dL_plain_111 : decode cL_plain 111 = .ok (.ireturn, 1) := by decide +kernel
theorem dL_plain_112 : decode cL_plain 112 = .ok (.aload_n 0, 1) := by decide +kernel
theorem dL_plain_113 : decode cL_plain 113 = .ok (.iload_n 2, 1) := by decide +kernel
theorem dL_plain_114 : decode cL_plain 114 = .ok (.invokevirtual 45, 3) := by decide +kernel
theorem dL_plain_117 : decode cL_plain 117 = .ok (.ireturn, 1) := by decide +kernel
theorem dL_plain_118 : decode cL_plain 118 = .ok (.aload_n 0, 1) := by decide +kernel
theorem dL_plain_119 : decode cL_plain 119 = .ok (.iload_n 2, 1) := by decide +kernel
theorem dL_plain_120 : decode cL_plain 120 = .ok (.i2c, 1) := by decide +kernel
theorem dL_plain_121 : decode cL_plain 121 = .ok (.invokevirtual 48, 3) := by decide +kernel
theorem dL_plain_124 : decode cL_plain 124 = .ok (.ireturn, 1) := by decide +kernel
theorem dL_plain_125 : decode cL_plain 125 = .ok (.aload_n 0, 1) := by decide +kernel
theorem dL_plain_126 : decode cL_plain 126 = .ok (.iload_n 2, 1) := by decide +kernel
theorem dL_plain_127 : decode cL_plain 127 = .ok (.i2c, 1) := by decide +kernel
theorem dL_plain_128 : decode cL_plain 128 = .ok (.invokevirtual 52, 3) := by decide +kernel
theorem dL_plain_131 : decode cL_plain 131 = .ok (.ireturn, 1) := by decide +kernel
theorem dL_deed_0 : decode cL_deed 0 = .ok (.aload_n 0, 1) := by decide +kernel
theorem dL_deed_1 : decode cL_deed 1 = .ok (.iload_n 1, 1) := by decide +kernel
theorem dL_deed_2 : decode cL_deed 2 = .ok (.iload_n 2, 1) := by decide +kernel
theorem dL_deed_3 : decode cL_deed 3 = .ok (.iload_n 3, 1) := by decide +kernel
theorem dL_deed_4 : decode cL_deed 4 = .ok (.iload 4, 2) := by decide +kernel
theorem dL_deed_6 : decode cL_deed 6 = .ok (.iload 5, 2) := by decide +kernel
theorem dL_deed_8 : decode cL_deed 8 = .ok (.invokestatic 55, 3) := by decide +kernel
theorem dL_deed_11 : decode cL_deed 11 = .ok (.ireturn, 1) := by decide +kernel
theorem dL_deed_12 : decode cL_deed 12 = .ok (.astore 6, 2) := by decide +kernel
theorem dL_deed_14 : decode cL_deed 14 = .ok (.sipush (-2001), 3) := by decide +kernel
theorem dL_deed_17 : decode cL_deed 17 = .ok (.ireturn, 1) := by decide +kernel
theorem dL_deed_18 : decode cL_deed 18 = .ok (.astore 6, 2) := by decide +kernel
theorem dL_deed_20 : decode cL_deed 20 = .ok (.sipush (-2002), 3) := by decide +kernel
theorem dL_deed_23 : decode cL_deed 23 = .ok (.ireturn, 1) := by decide +kernel
theorem dL_deed_24 : decode cL_deed 24 = .ok (.astore 6, 2) := by decide +kernel
theorem dL_deed_26 : decode cL_deed 26 = .ok (.sipush (-2003), 3) := by decide +kernel
theorem dL_deed_29 : decode cL_deed 29 = .ok (.ireturn, 1) := by decide +kernel
theorem dL_deed_30 : decode cL_deed 30 = .ok (.astore 6, 2) := by decide +kernel
theorem dL_deed_32 : decode cL_deed 32 = .ok (.sipush (-2004), 3) := by decide +kernel
theorem dL_deed_35 : decode cL_deed 35 = .ok (.ireturn, 1) := by decide +kernel
theorem dL_deed_36 : decode cL_deed 36 = .ok (.astore 6, 2) := by decide +kernel
theorem dL_deed_38 : decode cL_deed 38 = .ok (.sipush (-2005), 3) := by decide +kernel
theorem dL_deed_41 : decode cL_deed 41 = .ok (.ireturn, 1) := by decide +kernel
theorem dL_asked_0 : decode cL_asked 0 = .ok (.iload_n 1, 1) := by decide +kernel
theorem dL_asked_1 : decode cL_asked 1 = .ok (.tableswitch 242 0 19 #[95, 103, 111, 120, 129, 135, 141, 150, 157, 165, 172, 179, 186, 194, 201, 208, 215, 223, 230, 236], 95) := by decide +kernel
theorem dL_asked_96 : decode cL_asked 96 = .ok (.aload_n 0, 1) := by decide +kernel
theorem dL_asked_97 : decode cL_asked 97 = .ok (.iload_n 2, 1) := by decide +kernel
theorem dL_asked_98 : decode cL_asked 98 = .ok (.iload_n 3, 1) := by decide +kernel
theorem dL_asked_99 : decode cL_asked 99 = .ok (.i2c, 1) := by decide +kernel
theorem dL_asked_100 : decode cL_asked 100 = .ok (.invokevirtual 69, 3) := by decide +kernel
theorem dL_asked_103 : decode cL_asked 103 = .ok (.ireturn, 1) := by decide +kernel
theorem dL_asked_104 : decode cL_asked 104 = .ok (.aload_n 0, 1) := by decide +kernel
theorem dL_asked_105 : decode cL_asked 105 = .ok (.iload_n 2, 1) := by decide +kernel
theorem dL_asked_106 : decode cL_asked 106 = .ok (.iload_n 3, 1) := by decide +kernel
theorem dL_asked_107 : decode cL_asked 107 = .ok (.i2c, 1) := by decide +kernel
theorem dL_asked_108 : decode cL_asked 108 = .ok (.invokevirtual 73, 3) := by decide +kernel
theorem dL_asked_111 : decode cL_asked 111 = .ok (.ireturn, 1) := by decide +kernel
theorem dL_asked_112 : decode cL_asked 112 = .ok (.aload_n 0, 1) := by decide +kernel
theorem dL_asked_113 : decode cL_asked 113 = .ok (.iload_n 2, 1) := by decide +kernel
theorem dL_asked_114 : decode cL_asked 114 = .ok (.iload_n 3, 1) := by decide +kernel
theorem dL_asked_115 : decode cL_asked 115 = .ok (.iload 4, 2) := by decide +kernel
theorem dL_asked_117 : decode cL_asked 117 = .ok (.invokevirtual 76, 3) := by decide +kernel
theorem dL_asked_120 : decode cL_asked 120 = .ok (.ireturn, 1) := by decide +kernel
theorem dL_asked_121 : decode cL_asked 121 = .ok (.aload_n 0, 1) := by decide +kernel
theorem dL_asked_122 : decode cL_asked 122 = .ok (.iload_n 2, 1) := by decide +kernel
theorem dL_asked_123 : decode cL_asked 123 = .ok (.invokevirtual 80, 3) := by decide +kernel
theorem dL_asked_126 : decode cL_asked 126 = .ok (.invokestatic 25, 3) := by decide +kernel
theorem dL_asked_129 : decode cL_asked 129 = .ok (.ireturn, 1) := by decide +kernel
theorem dL_asked_130 : decode cL_asked 130 = .ok (.aload_n 0, 1) := by decide +kernel
theorem dL_asked_131 : decode cL_asked 131 = .ok (.iload_n 2, 1) := by decide +kernel
theorem dL_asked_132 : decode cL_asked 132 = .ok (.invokevirtual 84, 3) := by decide +kernel
theorem dL_asked_135 : decode cL_asked 135 = .ok (.ireturn, 1) := by decide +kernel
theorem dL_asked_136 : decode cL_asked 136 = .ok (.aload_n 0, 1) := by decide +kernel
theorem dL_asked_137 : decode cL_asked 137 = .ok (.iload_n 2, 1) := by decide +kernel
theorem dL_asked_138 : decode cL_asked 138 = .ok (.invokevirtual 88, 3) := by decide +kernel
theorem dL_asked_141 : decode cL_asked 141 = .ok (.ireturn, 1) := by decide +kernel
theorem dL_asked_142 : decode cL_asked 142 = .ok (.aload_n 0, 1) := by decide +kernel
theorem dL_asked_143 : decode cL_asked 143 = .ok (.iload_n 2, 1) := by decide +kernel
theorem dL_asked_144 : decode cL_asked 144 = .ok (.invokevirtual 91, 3) := by decide +kernel
theorem dL_asked_147 : decode cL_asked 147 = .ok (.invokestatic 25, 3) := by decide +kernel
theorem dL_asked_150 : decode cL_asked 150 = .ok (.ireturn, 1) := by decide +kernel
theorem dL_asked_151 : decode cL_asked 151 = .ok (.aload_n 0, 1) := by decide +kernel
theorem dL_asked_152 : decode cL_asked 152 = .ok (.iload_n 2, 1) := by decide +kernel
theorem dL_asked_153 : decode cL_asked 153 = .ok (.i2c, 1) := by decide +kernel
theorem dL_asked_154 : decode cL_asked 154 = .ok (.invokevirtual 94, 3) := by decide +kernel
theorem dL_asked_157 : decode cL_asked 157 = .ok (.ireturn, 1) := by decide +kernel
theorem dL_asked_158 : decode cL_asked 158 = .ok (.aload_n 0, 1) := by decide +kernel
theorem dL_asked_159 : decode cL_asked 159 = .ok (.iload_n 2, 1) := by decide +kernel
theorem dL_asked_160 : decode cL_asked 160 = .ok (.iload_n 3, 1) := by decide +kernel
theorem dL_asked_161 : decode cL_asked 161 = .ok (.i2c, 1) := by decide +kernel
theorem dL_asked_162 : decode cL_asked 162 = .ok (.invokevirtual 97, 3) := by decide +kernel
theorem dL_asked_165 : decode cL_asked 165 = .ok (.ireturn, 1) := by decide +kernel
theorem dL_asked_166 : decode cL_asked 166 = .ok (.aload_n 0, 1) := by decide +kernel
theorem dL_asked_167 : decode cL_asked 167 = .ok (.iload_n 2, 1) := by decide +kernel
theorem dL_asked_168 : decode cL_asked 168 = .ok (.i2c, 1) := by decide +kernel
theorem dL_asked_169 : decode cL_asked 169 = .ok (.invokevirtual 100, 3) := by decide +kernel
theorem dL_asked_172 : decode cL_asked 172 = .ok (.ireturn, 1) := by decide +kernel
theorem dL_asked_173 : decode cL_asked 173 = .ok (.aload_n 0, 1) := by decide +kernel
theorem dL_asked_174 : decode cL_asked 174 = .ok (.iload_n 2, 1) := by decide +kernel
theorem dL_asked_175 : decode cL_asked 175 = .ok (.i2c, 1) := by decide +kernel
theorem dL_asked_176 : decode cL_asked 176 = .ok (.invokevirtual 103, 3) := by decide +kernel
theorem dL_asked_179 : decode cL_asked 179 = .ok (.ireturn, 1) := by decide +kernel
theorem dL_asked_180 : decode cL_asked 180 = .ok (.aload_n 0, 1) := by decide +kernel
theorem dL_asked_181 : decode cL_asked 181 = .ok (.iload_n 2, 1) := by decide +kernel
theorem dL_asked_182 : decode cL_asked 182 = .ok (.i2c, 1) := by decide +kernel
theorem dL_asked_183 : decode cL_asked 183 = .ok (.invokevirtual 106, 3) := by decide +kernel
theorem dL_asked_186 : decode cL_asked 186 = .ok (.ireturn, 1) := by decide +kernel
theorem dL_asked_187 : decode cL_asked 187 = .ok (.aload_n 0, 1) := by decide +kernel
theorem dL_asked_188 : decode cL_asked 188 = .ok (.iload_n 2, 1) := by decide +kernel
theorem dL_asked_189 : decode cL_asked 189 = .ok (.iload_n 3, 1) := by decide +kernel
theorem dL_asked_190 : decode cL_asked 190 = .ok (.i2c, 1) := by decide +kernel
theorem dL_asked_191 : decode cL_asked 191 = .ok (.invokevirtual 109, 3) := by decide +kernel
theorem dL_asked_194 : decode cL_asked 194 = .ok (.ireturn, 1) := by decide +kernel
theorem dL_asked_195 : decode cL_asked 195 = .ok (.aload_n 0, 1) := by decide +kernel
theorem dL_asked_196 : decode cL_asked 196 = .ok (.iload_n 2, 1) := by decide +kernel
theorem dL_asked_197 : decode cL_asked 197 = .ok (.i2c, 1) := by decide +kernel
theorem dL_asked_198 : decode cL_asked 198 = .ok (.invokevirtual 112, 3) := by decide +kernel
theorem dL_asked_201 : decode cL_asked 201 = .ok (.ireturn, 1) := by decide +kernel
theorem dL_asked_202 : decode cL_asked 202 = .ok (.aload_n 0, 1) := by decide +kernel
theorem dL_asked_203 : decode cL_asked 203 = .ok (.iload_n 2, 1) := by decide +kernel
theorem dL_asked_204 : decode cL_asked 204 = .ok (.i2c, 1) := by decide +kernel
theorem dL_asked_205 : decode cL_asked 205 = .ok (.invokevirtual 115, 3) := by decide +kernel
theorem dL_asked_208 : decode cL_asked 208 = .ok (.ireturn, 1) := by decide +kernel
theorem dL_asked_209 : decode cL_asked 209 = .ok (.aload_n 0, 1) := by decide +kernel
theorem dL_asked_210 : decode cL_asked 210 = .ok (.iload_n 2, 1) := by decide +kernel
theorem dL_asked_211 : decode cL_asked 211 = .ok (.i2c, 1) := by decide +kernel
theorem dL_asked_212 : decode cL_asked 212 = .ok (.invokevirtual 118, 3) := by decide +kernel
theorem dL_asked_215 : decode cL_asked 215 = .ok (.ireturn, 1) := by decide +kernel
theorem dL_asked_216 : decode cL_asked 216 = .ok (.aload_n 0, 1) := by decide +kernel
theorem dL_asked_217 : decode cL_asked 217 = .ok (.iload_n 2, 1) := by decide +kernel
theorem dL_asked_218 : decode cL_asked 218 = .ok (.i2c, 1) := by decide +kernel
theorem dL_asked_219 : decode cL_asked 219 = .ok (.iload_n 3, 1) := by decide +kernel
theorem dL_asked_220 : decode cL_asked 220 = .ok (.invokevirtual 121, 3) := by decide +kernel
theorem dL_asked_223 : decode cL_asked 223 = .ok (.ireturn, 1) := by decide +kernel
theorem dL_asked_224 : decode cL_asked 224 = .ok (.aload_n 0, 1) := by decide +kernel
theorem dL_asked_225 : decode cL_asked 225 = .ok (.iload_n 2, 1) := by decide +kernel
theorem dL_asked_226 : decode cL_asked 226 = .ok (.iload_n 3, 1) := by decide +kernel
theorem dL_asked_227 : decode cL_asked 227 = .ok (.invokevirtual 125, 3) := by decide +kernel
theorem dL_asked_230 : decode cL_asked 230 = .ok (.ireturn, 1) := by decide +kernel
theorem dL_asked_231 : decode cL_asked 231 = .ok (.aload_n 0, 1) := by decide +kernel
theorem dL_asked_232 : decode cL_asked 232 = .ok (.iload_n 2, 1) := by decide +kernel
theorem dL_asked_233 : decode cL_asked 233 = .ok (.invokevirtual 128, 3) := by decide +kernel
theorem dL_asked_236 : decode cL_asked 236 = .ok (.ireturn, 1) := by decide +kernel
theorem dL_asked_237 : decode cL_asked 237 = .ok (.aload_n 0, 1) := by decide +kernel
theorem dL_asked_238 : decode cL_asked 238 = .ok (.iload_n 2, 1) := by decide +kernel
theorem dL_asked_239 : decode cL_asked 239 = .ok (.invokevirtual 131, 3) := by decide +kernel
theorem dL_asked_242 : decode cL_asked 242 = .ok (.ireturn, 1) := by decide +kernel
theorem dL_asked_243 : decode cL_asked 243 = .ok (.aload_n 0, 1) := by decide +kernel
theorem dL_asked_244 : decode cL_asked 244 = .ok (.iload_n 2, 1) := by decide +kernel
theorem dL_asked_245 : decode cL_asked 245 = .ok (.iload_n 3, 1) := by decide +kernel
theorem dL_asked_246 : decode cL_asked 246 = .ok (.invokevirtual 134, 3) := by decide +kernel
theorem dL_asked_249 : decode cL_asked 249 = .ok (.ireturn, 1) := by decide +kernel
theorem dL_ask_0 : decode cL_ask 0 = .ok (.aload_n 0, 1) := by decide +kernel
theorem dL_ask_1 : decode cL_ask 1 = .ok (.iload_n 1, 1) := by decide +kernel
theorem dL_ask_2 : decode cL_ask 2 = .ok (.iload_n 2, 1) := by decide +kernel
theorem dL_ask_3 : decode cL_ask 3 = .ok (.iload_n 3, 1) := by decide +kernel
theorem dL_ask_4 : decode cL_ask 4 = .ok (.iload 4, 2) := by decide +kernel
theorem dL_ask_6 : decode cL_ask 6 = .ok (.invokestatic 137, 3) := by decide +kernel
theorem dL_ask_9 : decode cL_ask 9 = .ok (.ireturn, 1) := by decide +kernel
theorem dL_ask_10 : decode cL_ask 10 = .ok (.astore 5, 2) := by decide +kernel
theorem dL_ask_12 : decode cL_ask 12 = .ok (.sipush (-2001), 3) := by decide +kernel
theorem dL_ask_15 : decode cL_ask 15 = .ok (.ireturn, 1) := by decide +kernel
theorem dL_ask_16 : decode cL_ask 16 = .ok (.astore 5, 2) := by decide +kernel
theorem dL_ask_18 : decode cL_ask 18 = .ok (.sipush (-2002), 3) := by decide +kernel
theorem dL_ask_21 : decode cL_ask 21 = .ok (.ireturn, 1) := by decide +kernel
theorem dL_ask_22 : decode cL_ask 22 = .ok (.astore 5, 2) := by decide +kernel
theorem dL_ask_24 : decode cL_ask 24 = .ok (.sipush (-2005), 3) := by decide +kernel
theorem dL_ask_27 : decode cL_ask 27 = .ok (.ireturn, 1) := by decide +kernel
theorem dL_lay_0 : decode cL_lay 0 = .ok (.iconst 0, 1) := by decide +kernel
theorem dL_lay_1 : decode cL_lay 1 = .ok (.istore_n 3, 1) := by decide +kernel
theorem dL_lay_2 : decode cL_lay 2 = .ok (.iconst 0, 1) := by decide +kernel
theorem dL_lay_3 : decode cL_lay 3 = .ok (.istore 4, 2) := by decide +kernel
theorem dL_lay_5 : decode cL_lay 5 = .ok (.iload 4, 2) := by decide +kernel
theorem dL_lay_7 : decode cL_lay 7 = .ok (.bipush 9, 2) := by decide +kernel
theorem dL_lay_9 : decode cL_lay 9 = .ok (.if_icmp .ge 122, 3) := by decide +kernel
theorem dL_lay_12 : decode cL_lay 12 = .ok (.iload_n 3, 1) := by decide +kernel
theorem dL_lay_13 : decode cL_lay 13 = .ok (.iconst 4, 1) := by decide +kernel
theorem dL_lay_14 : decode cL_lay 14 = .ok (.if_icmp .ge 117, 3) := by decide +kernel
theorem dL_lay_17 : decode cL_lay 17 = .ok (.iconst 2, 1) := by decide +kernel
theorem dL_lay_18 : decode cL_lay 18 = .ok (.aload_n 1, 1) := by decide +kernel
theorem dL_lay_19 : decode cL_lay 19 = .ok (.iload_n 2, 1) := by decide +kernel
theorem dL_lay_20 : decode cL_lay 20 = .ok (.iconst 4, 1) := by decide +kernel
theorem dL_lay_21 : decode cL_lay 21 = .ok (.iload 4, 2) := by decide +kernel
theorem dL_lay_23 : decode cL_lay 23 = .ok (.imul, 1) := by decide +kernel
theorem dL_lay_24 : decode cL_lay 24 = .ok (.iadd, 1) := by decide +kernel
theorem dL_lay_25 : decode cL_lay 25 = .ok (.aload_n 1, 1) := by decide +kernel
theorem dL_lay_26 : decode cL_lay 26 = .ok (.iload_n 2, 1) := by decide +kernel
theorem dL_lay_27 : decode cL_lay 27 = .ok (.iconst 4, 1) := by decide +kernel
theorem dL_lay_28 : decode cL_lay 28 = .ok (.iload 4, 2) := by decide +kernel
theorem dL_lay_30 : decode cL_lay 30 = .ok (.imul, 1) := by decide +kernel
theorem dL_lay_31 : decode cL_lay 31 = .ok (.iadd, 1) := by decide +kernel
theorem dL_lay_32 : decode cL_lay 32 = .ok (.iconst 3, 1) := by decide +kernel
theorem dL_lay_33 : decode cL_lay 33 = .ok (.invokestatic 141, 3) := by decide +kernel
theorem dL_lay_36 : decode cL_lay 36 = .ok (.ifCond .ne 8, 3) := by decide +kernel
theorem dL_lay_39 : decode cL_lay 39 = .ok (.bipush 90, 2) := by decide +kernel
theorem dL_lay_41 : decode cL_lay 41 = .ok (.goto 5, 3) := by decide +kernel
theorem dL_lay_44 : decode cL_lay 44 = .ok (.bipush 30, 2) := by decide +kernel
theorem dL_lay_46 : decode cL_lay 46 = .ok (.invokestatic 141, 3) := by decide +kernel
theorem dL_lay_49 : decode cL_lay 49 = .ok (.iadd, 1) := by decide +kernel
theorem dL_lay_50 : decode cL_lay 50 = .ok (.istore 5, 2) := by decide +kernel
theorem dL_lay_52 : decode cL_lay 52 = .ok (.iconst 1, 1) := by decide +kernel
theorem dL_lay_53 : decode cL_lay 53 = .ok (.aload_n 1, 1) := by decide +kernel
theorem dL_lay_54 : decode cL_lay 54 = .ok (.iload_n 2, 1) := by decide +kernel
theorem dL_lay_55 : decode cL_lay 55 = .ok (.iconst 1, 1) := by decide +kernel
theorem dL_lay_56 : decode cL_lay 56 = .ok (.iadd, 1) := by decide +kernel
theorem dL_lay_57 : decode cL_lay 57 = .ok (.iconst 4, 1) := by decide +kernel
theorem dL_lay_58 : decode cL_lay 58 = .ok (.iload 4, 2) := by decide +kernel
theorem dL_lay_60 : decode cL_lay 60 = .ok (.imul, 1) := by decide +kernel
theorem dL_lay_61 : decode cL_lay 61 = .ok (.iadd, 1) := by decide +kernel
theorem dL_lay_62 : decode cL_lay 62 = .ok (.bipush 30, 2) := by decide +kernel
theorem dL_lay_64 : decode cL_lay 64 = .ok (.invokestatic 141, 3) := by decide +kernel
theorem dL_lay_67 : decode cL_lay 67 = .ok (.iadd, 1) := by decide +kernel
theorem dL_lay_68 : decode cL_lay 68 = .ok (.istore 6, 2) := by decide +kernel
theorem dL_lay_70 : decode cL_lay 70 = .ok (.iload_n 3, 1) := by decide +kernel
theorem dL_lay_71 : decode cL_lay 71 = .ok (.aload_n 0, 1) := by decide +kernel
theorem dL_lay_72 : decode cL_lay 72 = .ok (.iconst 0, 1) := by decide +kernel
theorem dL_lay_73 : decode cL_lay 73 = .ok (.aload_n 1, 1) := by decide +kernel
theorem dL_lay_74 : decode cL_lay 74 = .ok (.iload_n 2, 1) := by decide +kernel
theorem dL_lay_75 : decode cL_lay 75 = .ok (.iconst 2, 1) := by decide +kernel
theorem dL_lay_76 : decode cL_lay 76 = .ok (.iadd, 1) := by decide +kernel
theorem dL_lay_77 : decode cL_lay 77 = .ok (.iconst 4, 1) := by decide +kernel
theorem dL_lay_78 : decode cL_lay 78 = .ok (.iload 4, 2) := by decide +kernel
theorem dL_lay_80 : decode cL_lay 80 = .ok (.imul, 1) := by decide +kernel
theorem dL_lay_81 : decode cL_lay 81 = .ok (.iadd, 1) := by decide +kernel
theorem dL_lay_82 : decode cL_lay 82 = .ok (.sipush 201, 3) := by decide +kernel
theorem dL_lay_85 : decode cL_lay 85 = .ok (.iload 5, 2) := by decide +kernel
theorem dL_lay_87 : decode cL_lay 87 = .ok (.isub, 1) := by decide +kernel
theorem dL_lay_88 : decode cL_lay 88 = .ok (.invokestatic 141, 3) := by decide +kernel
theorem dL_lay_91 : decode cL_lay 91 = .ok (.aload_n 1, 1) := by decide +kernel
theorem dL_lay_92 : decode cL_lay 92 = .ok (.iload_n 2, 1) := by decide +kernel
theorem dL_lay_93 : decode cL_lay 93 = .ok (.iconst 3, 1) := by decide +kernel
theorem dL_lay_94 : decode cL_lay 94 = .ok (.iadd, 1) := by decide +kernel
theorem dL_lay_95 : decode cL_lay 95 = .ok (.iconst 4, 1) := by decide +kernel
theorem dL_lay_96 : decode cL_lay 96 = .ok (.iload 4, 2) := by decide +kernel
theorem dL_lay_98 : decode cL_lay 98 = .ok (.imul, 1) := by decide +kernel
theorem dL_lay_99 : decode cL_lay 99 = .ok (.iadd, 1) := by decide +kernel
theorem dL_lay_100 : decode cL_lay 100 = .ok (.bipush 121, 2) := by decide +kernel
theorem dL_lay_102 : decode cL_lay 102 = .ok (.iload 6, 2) := by decide +kernel
theorem dL_lay_104 : decode cL_lay 104 = .ok (.isub, 1) := by decide +kernel
theorem dL_lay_105 : decode cL_lay 105 = .ok (.invokestatic 141, 3) := by decide +kernel
theorem dL_lay_108 : decode cL_lay 108 = .ok (.iload 5, 2) := by decide +kernel
theorem dL_lay_110 : decode cL_lay 110 = .ok (.iload 6, 2) := by decide +kernel
theorem dL_lay_112 : decode cL_lay 112 = .ok (.invokestatic 145, 3) := by decide +kernel
theorem dL_lay_115 : decode cL_lay 115 = .ok (.ifCond .lt 7, 3) := by decide +kernel
theorem dL_lay_118 : decode cL_lay 118 = .ok (.iconst 1, 1) := by decide +kernel
theorem dL_lay_119 : decode cL_lay 119 = .ok (.goto 4, 3) := by decide +kernel
theorem dL_lay_122 : decode cL_lay 122 = .ok (.iconst 0, 1) := by decide +kernel
theorem dL_lay_123 : decode cL_lay 123 = .ok (.iadd, 1) := by decide +kernel
theorem dL_lay_124 : decode cL_lay 124 = .ok (.istore_n 3, 1) := by decide +kernel
theorem dL_lay_125 : decode cL_lay 125 = .ok (.iinc 4 1, 3) := by decide +kernel
theorem dL_lay_128 : decode cL_lay 128 = .ok (.goto (-123), 3) := by decide +kernel
theorem dL_lay_131 : decode cL_lay 131 = .ok (.iload_n 3, 1) := by decide +kernel
theorem dL_lay_132 : decode cL_lay 132 = .ok (.ireturn, 1) := by decide +kernel
theorem dL_start_0 : decode cL_start 0 = .ok (.aload_n 0, 1) := by decide +kernel
theorem dL_start_1 : decode cL_start 1 = .ok (.iconst 0, 1) := by decide +kernel
theorem dL_start_2 : decode cL_start 2 = .ok (.iload_n 1, 1) := by decide +kernel
theorem dL_start_3 : decode cL_start 3 = .ok (.iload_n 2, 1) := by decide +kernel
theorem dL_start_4 : decode cL_start 4 = .ok (.invokestatic 148, 3) := by decide +kernel
theorem dL_start_7 : decode cL_start 7 = .ok (.iconst 0, 1) := by decide +kernel
theorem dL_start_8 : decode cL_start 8 = .ok (.invokestatic 151, 3) := by decide +kernel
theorem dL_start_11 : decode cL_start 11 = .ok (.ireturn, 1) := by decide +kernel
theorem dL_size_0 : decode cL_size 0 = .ok (.aload_n 0, 1) := by decide +kernel
theorem dL_size_1 : decode cL_size 1 = .ok (.iconst 1, 1) := by decide +kernel
theorem dL_size_2 : decode cL_size 2 = .ok (.iload_n 1, 1) := by decide +kernel
theorem dL_size_3 : decode cL_size 3 = .ok (.iload_n 2, 1) := by decide +kernel
theorem dL_size_4 : decode cL_size 4 = .ok (.invokestatic 148, 3) := by decide +kernel
theorem dL_size_7 : decode cL_size 7 = .ok (.iconst 0, 1) := by decide +kernel
theorem dL_size_8 : decode cL_size 8 = .ok (.invokestatic 151, 3) := by decide +kernel
theorem dL_size_11 : decode cL_size 11 = .ok (.ireturn, 1) := by decide +kernel
theorem dL_areOn_0 : decode cL_areOn 0 = .ok (.aload_n 0, 1) := by decide +kernel
theorem dL_areOn_1 : decode cL_areOn 1 = .ok (.iconst 0, 1) := by decide +kernel
theorem dL_areOn_2 : decode cL_areOn 2 = .ok (.iload_n 1, 1) := by decide +kernel
theorem dL_areOn_3 : decode cL_areOn 3 = .ok (.bipush 120, 2) := by decide +kernel
theorem dL_areOn_5 : decode cL_areOn 5 = .ok (.iconst 0, 1) := by decide +kernel
theorem dL_areOn_6 : decode cL_areOn 6 = .ok (.invokestatic 151, 3) := by decide +kernel
theorem dL_areOn_9 : decode cL_areOn 9 = .ok (.sipush (-2001), 3) := by decide +kernel
theorem dL_areOn_12 : decode cL_areOn 12 = .ok (.if_icmp .ne 32, 3) := by decide +kernel
theorem dL_areOn_15 : decode cL_areOn 15 = .ok (.aload_n 0, 1) := by decide +kernel
theorem dL_areOn_16 : decode cL_areOn 16 = .ok (.iconst 0, 1) := by decide +kernel
theorem dL_areOn_17 : decode cL_areOn 17 = .ok (.iconst 0, 1) := by decide +kernel
theorem dL_areOn_18 : decode cL_areOn 18 = .ok (.bipush 122, 2) := by decide +kernel
theorem dL_areOn_20 : decode cL_areOn 20 = .ok (.iconst 0, 1) := by decide +kernel
theorem dL_areOn_21 : decode cL_areOn 21 = .ok (.invokestatic 151, 3) := by decide +kernel
theorem dL_areOn_24 : decode cL_areOn 24 = .ok (.iload_n 1, 1) := by decide +kernel
theorem dL_areOn_25 : decode cL_areOn 25 = .ok (.ifCond .ne 9, 3) := by decide +kernel
theorem dL_areOn_28 : decode cL_areOn 28 = .ok (.sipush (-2001), 3) := by decide +kernel
theorem dL_areOn_31 : decode cL_areOn 31 = .ok (.goto 6, 3) := by decide +kernel
theorem dL_areOn_34 : decode cL_areOn 34 = .ok (.sipush (-2002), 3) := by decide +kernel
theorem dL_areOn_37 : decode cL_areOn 37 = .ok (.if_icmp .ne 7, 3) := by decide +kernel
theorem dL_areOn_40 : decode cL_areOn 40 = .ok (.iconst 1, 1) := by decide +kernel
theorem dL_areOn_41 : decode cL_areOn 41 = .ok (.goto 4, 3) := by decide +kernel
theorem dL_areOn_44 : decode cL_areOn 44 = .ok (.iconst 0, 1) := by decide +kernel
theorem dL_areOn_45 : decode cL_areOn 45 = .ok (.istore_n 2, 1) := by decide +kernel
theorem dL_areOn_46 : decode cL_areOn 46 = .ok (.iconst 0, 1) := by decide +kernel
theorem dL_areOn_47 : decode cL_areOn 47 = .ok (.istore_n 3, 1) := by decide +kernel
theorem dL_areOn_48 : decode cL_areOn 48 = .ok (.iload_n 3, 1) := by decide +kernel
theorem dL_areOn_49 : decode cL_areOn 49 = .ok (.iload_n 1, 1) := by decide +kernel
theorem dL_areOn_50 : decode cL_areOn 50 = .ok (.if_icmp .ge 187, 3) := by decide +kernel
theorem dL_areOn_53 : decode cL_areOn 53 = .ok (.iload_n 2, 1) := by decide +kernel
theorem dL_areOn_54 : decode cL_areOn 54 = .ok (.ifCond .eq 183, 3) := by decide +kernel
theorem dL_areOn_57 : decode cL_areOn 57 = .ok (.aload_n 0, 1) := by decide +kernel
theorem dL_areOn_58 : decode cL_areOn 58 = .ok (.iload_n 3, 1) := by decide +kernel
theorem dL_areOn_59 : decode cL_areOn 59 = .ok (.iconst 0, 1) := by decide +kernel
theorem dL_areOn_60 : decode cL_areOn 60 = .ok (.invokestatic 154, 3) := by decide +kernel
theorem dL_areOn_63 : decode cL_areOn 63 = .ok (.ifCond .lt 53, 3) := by decide +kernel
theorem dL_areOn_66 : decode cL_areOn 66 = .ok (.aload_n 0, 1) := by decide +kernel
theorem dL_areOn_67 : decode cL_areOn 67 = .ok (.iload_n 3, 1) := by decide +kernel
theorem dL_areOn_68 : decode cL_areOn 68 = .ok (.iconst 1, 1) := by decide +kernel
theorem dL_areOn_69 : decode cL_areOn 69 = .ok (.invokestatic 154, 3) := by decide +kernel
theorem dL_areOn_72 : decode cL_areOn 72 = .ok (.ifCond .lt 44, 3) := by decide +kernel
theorem dL_areOn_75 : decode cL_areOn 75 = .ok (.aload_n 0, 1) := by decide +kernel
theorem dL_areOn_76 : decode cL_areOn 76 = .ok (.iload_n 3, 1) := by decide +kernel
theorem dL_areOn_77 : decode cL_areOn 77 = .ok (.iconst 0, 1) := by decide +kernel
theorem dL_areOn_78 : decode cL_areOn 78 = .ok (.invokestatic 154, 3) := by decide +kernel
theorem dL_areOn_81 : decode cL_areOn 81 = .ok (.aload_n 0, 1) := by decide +kernel
theorem dL_areOn_82 : decode cL_areOn 82 = .ok (.iload_n 3, 1) := by decide +kernel
theorem dL_areOn_83 : decode cL_areOn 83 = .ok (.iconst 0, 1) := by decide +kernel
theorem dL_areOn_84 : decode cL_areOn 84 = .ok (.invokestatic 158, 3) := by decide +kernel
theorem dL_areOn_87 : decode cL_areOn 87 = .ok (.iadd, 1) := by decide +kernel
theorem dL_areOn_88 : decode cL_areOn 88 = .ok (.sipush 200, 3) := by decide +kernel
theorem dL_areOn_91 : decode cL_areOn 91 = .ok (.if_icmp .gt 25, 3) := by decide +kernel
theorem dL_areOn_94 : decode cL_areOn 94 = .ok (.aload_n 0, 1) := by decide +kernel
theorem dL_areOn_95 : decode cL_areOn 95 = .ok (.iload_n 3, 1) := by decide +kernel
theorem dL_areOn_96 : decode cL_areOn 96 = .ok (.iconst 1, 1) := by decide +kernel
theorem dL_areOn_97 : decode cL_areOn 97 = .ok (.invokestatic 154, 3) := by decide +kernel
theorem dL_areOn_100 : decode cL_areOn 100 = .ok (.aload_n 0, 1) := by decide +kernel
theorem dL_areOn_101 : decode cL_areOn 101 = .ok (.iload_n 3, 1) := by decide +kernel
theorem dL_areOn_102 : decode cL_areOn 102 = .ok (.iconst 1, 1) := by decide +kernel
theorem dL_areOn_103 : decode cL_areOn 103 = .ok (.invokestatic 158, 3) := by decide +kernel
theorem dL_areOn_106 : decode cL_areOn 106 = .ok (.iadd, 1) := by decide +kernel
theorem dL_areOn_107 : decode cL_areOn 107 = .ok (.bipush 120, 2) := by decide +kernel
theorem dL_areOn_109 : decode cL_areOn 109 = .ok (.if_icmp .gt 7, 3) := by decide +kernel
theorem dL_areOn_112 : decode cL_areOn 112 = .ok (.iconst 1, 1) := by decide +kernel
theorem dL_areOn_113 : decode cL_areOn 113 = .ok (.goto 4, 3) := by decide +kernel
theorem dL_areOn_116 : decode cL_areOn 116 = .ok (.iconst 0, 1) := by decide +kernel
theorem dL_areOn_117 : decode cL_areOn 117 = .ok (.istore_n 2, 1) := by decide +kernel
theorem dL_areOn_118 : decode cL_areOn 118 = .ok (.iconst 0, 1) := by decide +kernel
theorem dL_areOn_119 : decode cL_areOn 119 = .ok (.istore 4, 2) := by decide +kernel
theorem dL_areOn_121 : decode cL_areOn 121 = .ok (.iload 4, 2) := by decide +kernel
theorem dL_areOn_123 : decode cL_areOn 123 = .ok (.iload_n 3, 1) := by decide +kernel
theorem dL_areOn_124 : decode cL_areOn 124 = .ok (.if_icmp .ge 107, 3) := by decide +kernel
theorem dL_areOn_127 : decode cL_areOn 127 = .ok (.iconst 1, 1) := by decide +kernel
theorem dL_areOn_128 : decode cL_areOn 128 = .ok (.istore 5, 2) := by decide +kernel
theorem dL_areOn_130 : decode cL_areOn 130 = .ok (.iconst 0, 1) := by decide +kernel
theorem dL_areOn_131 : decode cL_areOn 131 = .ok (.istore 6, 2) := by decide +kernel
theorem dL_areOn_133 : decode cL_areOn 133 = .ok (.iload 6, 2) := by decide +kernel
theorem dL_areOn_135 : decode cL_areOn 135 = .ok (.iconst 2, 1) := by decide +kernel
theorem dL_areOn_136 : decode cL_areOn 136 = .ok (.if_icmp .ge 74, 3) := by decide +kernel
theorem dL_areOn_139 : decode cL_areOn 139 = .ok (.iload 5, 2) := by decide +kernel
theorem dL_areOn_141 : decode cL_areOn 141 = .ok (.ifCond .eq 60, 3) := by decide +kernel
theorem dL_areOn_144 : decode cL_areOn 144 = .ok (.aload_n 0, 1) := by decide +kernel
theorem dL_areOn_145 : decode cL_areOn 145 = .ok (.iload_n 3, 1) := by decide +kernel
theorem dL_areOn_146 : decode cL_areOn 146 = .ok (.iload 6, 2) := by decide +kernel
theorem dL_areOn_148 : decode cL_areOn 148 = .ok (.invokestatic 154, 3) := by decide +kernel
theorem dL_areOn_151 : decode cL_areOn 151 = .ok (.aload_n 0, 1) := by decide +kernel
theorem dL_areOn_152 : decode cL_areOn 152 = .ok (.iload 4, 2) := by decide +kernel
theorem dL_areOn_154 : decode cL_areOn 154 = .ok (.iload 6, 2) := by decide +kernel
theorem dL_areOn_156 : decode cL_areOn 156 = .ok (.invokestatic 154, 3) := by decide +kernel
theorem dL_areOn_159 : decode cL_areOn 159 = .ok (.aload_n 0, 1) := by decide +kernel
theorem dL_areOn_160 : decode cL_areOn 160 = .ok (.iload 4, 2) := by decide +kernel
theorem dL_areOn_162 : decode cL_areOn 162 = .ok (.iload 6, 2) := by decide +kernel
theorem dL_areOn_164 : decode cL_areOn 164 = .ok (.invokestatic 158, 3) := by decide +kernel
theorem dL_areOn_167 : decode cL_areOn 167 = .ok (.iadd, 1) := by decide +kernel
theorem dL_areOn_168 : decode cL_areOn 168 = .ok (.if_icmp .ge 33, 3) := by decide +kernel
theorem dL_areOn_171 : decode cL_areOn 171 = .ok (.aload_n 0, 1) := by decide +kernel
theorem dL_areOn_172 : decode cL_areOn 172 = .ok (.iload 4, 2) := by decide +kernel
theorem dL_areOn_174 : decode cL_areOn 174 = .ok (.iload 6, 2) := by decide +kernel
theorem dL_areOn_176 : decode cL_areOn 176 = .ok (.invokestatic 154, 3) := by decide +kernel
theorem dL_areOn_179 : decode cL_areOn 179 = .ok (.aload_n 0, 1) := by decide +kernel
theorem dL_areOn_180 : decode cL_areOn 180 = .ok (.iload_n 3, 1) := by decide +kernel
theorem dL_areOn_181 : decode cL_areOn 181 = .ok (.iload 6, 2) := by decide +kernel
theorem dL_areOn_183 : decode cL_areOn 183 = .ok (.invokestatic 154, 3) := by decide +kernel
theorem dL_areOn_186 : decode cL_areOn 186 = .ok (.aload_n 0, 1) := by decide +kernel
theorem dL_areOn_187 : decode cL_areOn 187 = .ok (.iload_n 3, 1) := by decide +kernel
theorem dL_areOn_188 : decode cL_areOn 188 = .ok (.iload 6, 2) := by decide +kernel
theorem dL_areOn_190 : decode cL_areOn 190 = .ok (.invokestatic 158, 3) := by decide +kernel
theorem dL_areOn_193 : decode cL_areOn 193 = .ok (.iadd, 1) := by decide +kernel
theorem dL_areOn_194 : decode cL_areOn 194 = .ok (.if_icmp .ge 7, 3) := by decide +kernel
theorem dL_areOn_197 : decode cL_areOn 197 = .ok (.iconst 1, 1) := by decide +kernel
theorem dL_areOn_198 : decode cL_areOn 198 = .ok (.goto 4, 3) := by decide +kernel
theorem dL_areOn_201 : decode cL_areOn 201 = .ok (.iconst 0, 1) := by decide +kernel
theorem dL_areOn_202 : decode cL_areOn 202 = .ok (.istore 5, 2) := by decide +kernel
theorem dL_areOn_204 : decode cL_areOn 204 = .ok (.iinc 6 1, 3) := by decide +kernel
theorem dL_areOn_207 : decode cL_areOn 207 = .ok (.goto (-74), 3) := by decide +kernel
theorem dL_areOn_210 : decode cL_areOn 210 = .ok (.iload_n 2, 1) := by decide +kernel
theorem dL_areOn_211 : decode cL_areOn 211 = .ok (.ifCond .eq 12, 3) := by decide +kernel
theorem dL_areOn_214 : decode cL_areOn 214 = .ok (.iload 5, 2) := by decide +kernel
theorem dL_areOn_216 : decode cL_areOn 216 = .ok (.ifCond .ne 7, 3) := by decide +kernel
theorem dL_areOn_219 : decode cL_areOn 219 = .ok (.iconst 1, 1) := by decide +kernel
theorem dL_areOn_220 : decode cL_areOn 220 = .ok (.goto 4, 3) := by decide +kernel
theorem dL_areOn_223 : decode cL_areOn 223 = .ok (.iconst 0, 1) := by decide +kernel
theorem dL_areOn_224 : decode cL_areOn 224 = .ok (.istore_n 2, 1) := by decide +kernel
theorem dL_areOn_225 : decode cL_areOn 225 = .ok (.iinc 4 1, 3) := by decide +kernel
theorem dL_areOn_228 : decode cL_areOn 228 = .ok (.goto (-107), 3) := by decide +kernel
theorem dL_areOn_231 : decode cL_areOn 231 = .ok (.iinc 3 1, 3) := by decide +kernel
theorem dL_areOn_234 : decode cL_areOn 234 = .ok (.goto (-186), 3) := by decide +kernel
theorem dL_areOn_237 : decode cL_areOn 237 = .ok (.iload_n 2, 1) := by decide +kernel
theorem dL_areOn_238 : decode cL_areOn 238 = .ok (.ireturn, 1) := by decide +kernel
theorem dL_areWays_0 : decode cL_areWays 0 = .ok (.iconst 1, 1) := by decide +kernel
theorem dL_areWays_1 : decode cL_areWays 1 = .ok (.istore_n 1, 1) := by decide +kernel
theorem dL_areWays_2 : decode cL_areWays 2 = .ok (.iconst 0, 1) := by decide +kernel
theorem dL_areWays_3 : decode cL_areWays 3 = .ok (.istore_n 2, 1) := by decide +kernel
theorem dL_areWays_4 : decode cL_areWays 4 = .ok (.iload_n 2, 1) := by decide +kernel
theorem dL_areWays_5 : decode cL_areWays 5 = .ok (.iconst 2, 1) := by decide +kernel
theorem dL_areWays_6 : decode cL_areWays 6 = .ok (.if_icmp .ge 91, 3) := by decide +kernel
theorem dL_areWays_9 : decode cL_areWays 9 = .ok (.aload_n 0, 1) := by decide +kernel
theorem dL_areWays_10 : decode cL_areWays 10 = .ok (.bipush 9, 2) := by decide +kernel
theorem dL_areWays_12 : decode cL_areWays 12 = .ok (.iload_n 2, 1) := by decide +kernel
theorem dL_areWays_13 : decode cL_areWays 13 = .ok (.invokestatic 148, 3) := by decide +kernel
theorem dL_areWays_16 : decode cL_areWays 16 = .ok (.iconst 0, 1) := by decide +kernel
theorem dL_areWays_17 : decode cL_areWays 17 = .ok (.iconst 0, 1) := by decide +kernel
theorem dL_areWays_18 : decode cL_areWays 18 = .ok (.invokestatic 151, 3) := by decide +kernel
theorem dL_areWays_21 : decode cL_areWays 21 = .ok (.istore_n 3, 1) := by decide +kernel
theorem dL_areWays_22 : decode cL_areWays 22 = .ok (.iload_n 1, 1) := by decide +kernel
theorem dL_areWays_23 : decode cL_areWays 23 = .ok (.ifCond .eq 66, 3) := by decide +kernel
theorem dL_areWays_26 : decode cL_areWays 26 = .ok (.iload_n 3, 1) := by decide +kernel
theorem dL_areWays_27 : decode cL_areWays 27 = .ok (.aload_n 0, 1) := by decide +kernel
theorem dL_areWays_28 : decode cL_areWays 28 = .ok (.bipush 10, 2) := by decide +kernel
theorem dL_areWays_30 : decode cL_areWays 30 = .ok (.iload_n 2, 1) := by decide +kernel
theorem dL_areWays_31 : decode cL_areWays 31 = .ok (.invokestatic 148, 3) := by decide +kernel
theorem dL_areWays_34 : decode cL_areWays 34 = .ok (.iconst 0, 1) := by decide +kernel
theorem dL_areWays_35 : decode cL_areWays 35 = .ok (.iconst 0, 1) := by decide +kernel
theorem dL_areWays_36 : decode cL_areWays 36 = .ok (.invokestatic 151, 3) := by decide +kernel
theorem dL_areWays_39 : decode cL_areWays 39 = .ok (.if_icmp .ne 50, 3) := by decide +kernel
theorem dL_areWays_42 : decode cL_areWays 42 = .ok (.iload_n 3, 1) := by decide +kernel
theorem dL_areWays_43 : decode cL_areWays 43 = .ok (.aload_n 0, 1) := by decide +kernel
theorem dL_areWays_44 : decode cL_areWays 44 = .ok (.bipush 7, 2) := by decide +kernel
theorem dL_areWays_46 : decode cL_areWays 46 = .ok (.iload_n 2, 1) := by decide +kernel
theorem dL_areWays_47 : decode cL_areWays 47 = .ok (.invokestatic 148, 3) := by decide +kernel
theorem dL_areWays_50 : decode cL_areWays 50 = .ok (.iconst 0, 1) := by decide +kernel
theorem dL_areWays_51 : decode cL_areWays 51 = .ok (.iconst 0, 1) := by decide +kernel
theorem dL_areWays_52 : decode cL_areWays 52 = .ok (.invokestatic 151, 3) := by decide +kernel
theorem dL_areWays_55 : decode cL_areWays 55 = .ok (.if_icmp .lt 34, 3) := by decide +kernel
theorem dL_areWays_58 : decode cL_areWays 58 = .ok (.aload_n 0, 1) := by decide +kernel
theorem dL_areWays_59 : decode cL_areWays 59 = .ok (.bipush 13, 2) := by decide +kernel
theorem dL_areWays_61 : decode cL_areWays 61 = .ok (.iload_n 2, 1) := by decide +kernel
theorem dL_areWays_62 : decode cL_areWays 62 = .ok (.invokestatic 148, 3) := by decide +kernel
theorem dL_areWays_65 : decode cL_areWays 65 = .ok (.iconst 0, 1) := by decide +kernel
theorem dL_areWays_66 : decode cL_areWays 66 = .ok (.iconst 0, 1) := by decide +kernel
theorem dL_areWays_67 : decode cL_areWays 67 = .ok (.invokestatic 151, 3) := by decide +kernel
theorem dL_areWays_70 : decode cL_areWays 70 = .ok (.aload_n 0, 1) := by decide +kernel
theorem dL_areWays_71 : decode cL_areWays 71 = .ok (.bipush 14, 2) := by decide +kernel
theorem dL_areWays_73 : decode cL_areWays 73 = .ok (.iload_n 2, 1) := by decide +kernel
theorem dL_areWays_74 : decode cL_areWays 74 = .ok (.invokestatic 148, 3) := by decide +kernel
theorem dL_areWays_77 : decode cL_areWays 77 = .ok (.iconst 0, 1) := by decide +kernel
theorem dL_areWays_78 : decode cL_areWays 78 = .ok (.iconst 0, 1) := by decide +kernel
theorem dL_areWays_79 : decode cL_areWays 79 = .ok (.invokestatic 151, 3) := by decide +kernel
theorem dL_areWays_82 : decode cL_areWays 82 = .ok (.if_icmp .ne 7, 3) := by decide +kernel
theorem dL_areWays_85 : decode cL_areWays 85 = .ok (.iconst 1, 1) := by decide +kernel
theorem dL_areWays_86 : decode cL_areWays 86 = .ok (.goto 4, 3) := by decide +kernel
theorem dL_areWays_89 : decode cL_areWays 89 = .ok (.iconst 0, 1) := by decide +kernel
theorem dL_areWays_90 : decode cL_areWays 90 = .ok (.istore_n 1, 1) := by decide +kernel
theorem dL_areWays_91 : decode cL_areWays 91 = .ok (.iinc 2 1, 3) := by decide +kernel
theorem dL_areWays_94 : decode cL_areWays 94 = .ok (.goto (-90), 3) := by decide +kernel
theorem dL_areWays_97 : decode cL_areWays 97 = .ok (.bipush 9, 2) := by decide +kernel
theorem dL_areWays_99 : decode cL_areWays 99 = .ok (.istore_n 2, 1) := by decide +kernel
theorem dL_areWays_100 : decode cL_areWays 100 = .ok (.iconst 0, 1) := by decide +kernel
theorem dL_areWays_101 : decode cL_areWays 101 = .ok (.istore_n 3, 1) := by decide +kernel
theorem dL_areWays_102 : decode cL_areWays 102 = .ok (.iload_n 3, 1) := by decide +kernel
theorem dL_areWays_103 : decode cL_areWays 103 = .ok (.sipush 200, 3) := by decide +kernel
theorem dL_areWays_106 : decode cL_areWays 106 = .ok (.if_icmp .gt 53, 3) := by decide +kernel
theorem dL_areWays_109 : decode cL_areWays 109 = .ok (.iload_n 1, 1) := by decide +kernel
theorem dL_areWays_110 : decode cL_areWays 110 = .ok (.ifCond .eq 49, 3) := by decide +kernel
theorem dL_areWays_113 : decode cL_areWays 113 = .ok (.aload_n 0, 1) := by decide +kernel
theorem dL_areWays_114 : decode cL_areWays 114 = .ok (.bipush 18, 2) := by decide +kernel
theorem dL_areWays_116 : decode cL_areWays 116 = .ok (.iload_n 3, 1) := by decide +kernel
theorem dL_areWays_117 : decode cL_areWays 117 = .ok (.iconst 0, 1) := by decide +kernel
theorem dL_areWays_118 : decode cL_areWays 118 = .ok (.iconst 0, 1) := by decide +kernel
theorem dL_areWays_119 : decode cL_areWays 119 = .ok (.invokestatic 151, 3) := by decide +kernel
theorem dL_areWays_122 : decode cL_areWays 122 = .ok (.istore 4, 2) := by decide +kernel
theorem dL_areWays_124 : decode cL_areWays 124 = .ok (.iload 4, 2) := by decide +kernel
theorem dL_areWays_126 : decode cL_areWays 126 = .ok (.aload_n 0, 1) := by decide +kernel
theorem dL_areWays_127 : decode cL_areWays 127 = .ok (.bipush 19, 2) := by decide +kernel
theorem dL_areWays_129 : decode cL_areWays 129 = .ok (.iload_n 3, 1) := by decide +kernel
theorem dL_areWays_130 : decode cL_areWays 130 = .ok (.iconst 0, 1) := by decide +kernel
theorem dL_areWays_131 : decode cL_areWays 131 = .ok (.iconst 0, 1) := by decide +kernel
theorem dL_areWays_132 : decode cL_areWays 132 = .ok (.invokestatic 151, 3) := by decide +kernel
theorem dL_areWays_135 : decode cL_areWays 135 = .ok (.if_icmp .ne 13, 3) := by decide +kernel
theorem dL_areWays_138 : decode cL_areWays 138 = .ok (.iload 4, 2) := by decide +kernel
theorem dL_areWays_140 : decode cL_areWays 140 = .ok (.iload_n 2, 1) := by decide +kernel
theorem dL_areWays_141 : decode cL_areWays 141 = .ok (.if_icmp .gt 7, 3) := by decide +kernel
theorem dL_areWays_144 : decode cL_areWays 144 = .ok (.iconst 1, 1) := by decide +kernel
theorem dL_areWays_145 : decode cL_areWays 145 = .ok (.goto 4, 3) := by decide +kernel
theorem dL_areWays_148 : decode cL_areWays 148 = .ok (.iconst 0, 1) := by decide +kernel
theorem dL_areWays_149 : decode cL_areWays 149 = .ok (.istore_n 1, 1) := by decide +kernel
theorem dL_areWays_150 : decode cL_areWays 150 = .ok (.iload 4, 2) := by decide +kernel
theorem dL_areWays_152 : decode cL_areWays 152 = .ok (.istore_n 2, 1) := by decide +kernel
theorem dL_areWays_153 : decode cL_areWays 153 = .ok (.iinc 3 25, 3) := by decide +kernel
theorem dL_areWays_156 : decode cL_areWays 156 = .ok (.goto (-54), 3) := by decide +kernel
theorem dL_areWays_159 : decode cL_areWays 159 = .ok (.iload_n 1, 1) := by decide +kernel
theorem dL_areWays_160 : decode cL_areWays 160 = .ok (.ifCond .eq 55, 3) := by decide +kernel
theorem dL_areWays_163 : decode cL_areWays 163 = .ok (.aload_n 0, 1) := by decide +kernel
theorem dL_areWays_164 : decode cL_areWays 164 = .ok (.bipush 9, 2) := by decide +kernel
theorem dL_areWays_166 : decode cL_areWays 166 = .ok (.bipush 122, 2) := by decide +kernel
theorem dL_areWays_168 : decode cL_areWays 168 = .ok (.iconst 0, 1) := by decide +kernel
theorem dL_areWays_169 : decode cL_areWays 169 = .ok (.iconst 0, 1) := by decide +kernel
theorem dL_areWays_170 : decode cL_areWays 170 = .ok (.invokestatic 151, 3) := by decide +kernel
theorem dL_areWays_173 : decode cL_areWays 173 = .ok (.sipush (-2002), 3) := by decide +kernel
theorem dL_areWays_176 : decode cL_areWays 176 = .ok (.if_icmp .ne 39, 3) := by decide +kernel
theorem dL_areWays_179 : decode cL_areWays 179 = .ok (.aload_n 0, 1) := by decide +kernel
theorem dL_areWays_180 : decode cL_areWays 180 = .ok (.bipush 18, 2) := by decide +kernel
theorem dL_areWays_182 : decode cL_areWays 182 = .ok (.sipush 201, 3) := by decide +kernel
theorem dL_areWays_185 : decode cL_areWays 185 = .ok (.iconst 0, 1) := by decide +kernel
theorem dL_areWays_186 : decode cL_areWays 186 = .ok (.iconst 0, 1) := by decide +kernel
theorem dL_areWays_187 : decode cL_areWays 187 = .ok (.invokestatic 151, 3) := by decide +kernel
theorem dL_areWays_190 : decode cL_areWays 190 = .ok (.sipush (-2002), 3) := by decide +kernel
theorem dL_areWays_193 : decode cL_areWays 193 = .ok (.if_icmp .ne 22, 3) := by decide +kernel
theorem dL_areWays_196 : decode cL_areWays 196 = .ok (.aload_n 0, 1) := by decide +kernel
theorem dL_areWays_197 : decode cL_areWays 197 = .ok (.bipush 19, 2) := by decide +kernel
theorem dL_areWays_199 : decode cL_areWays 199 = .ok (.iconst (-1), 1) := by decide +kernel
theorem dL_areWays_200 : decode cL_areWays 200 = .ok (.iconst 0, 1) := by decide +kernel
theorem dL_areWays_201 : decode cL_areWays 201 = .ok (.iconst 0, 1) := by decide +kernel
theorem dL_areWays_202 : decode cL_areWays 202 = .ok (.invokestatic 151, 3) := by decide +kernel
theorem dL_areWays_205 : decode cL_areWays 205 = .ok (.sipush (-2002), 3) := by decide +kernel
theorem dL_areWays_208 : decode cL_areWays 208 = .ok (.if_icmp .ne 7, 3) := by decide +kernel
theorem dL_areWays_211 : decode cL_areWays 211 = .ok (.iconst 1, 1) := by decide +kernel
theorem dL_areWays_212 : decode cL_areWays 212 = .ok (.goto 4, 3) := by decide +kernel
theorem dL_areWays_215 : decode cL_areWays 215 = .ok (.iconst 0, 1) := by decide +kernel
theorem dL_areWays_216 : decode cL_areWays 216 = .ok (.ireturn, 1) := by decide +kernel
theorem dL_isTidied_0 : decode cL_isTidied 0 = .ok (.iconst 4, 1) := by decide +kernel
theorem dL_isTidied_1 : decode cL_isTidied 1 = .ok (.newarray .int, 2) := by decide +kernel
theorem dL_isTidied_3 : decode cL_isTidied 3 = .ok (.astore 4, 2) := by decide +kernel
theorem dL_isTidied_5 : decode cL_isTidied 5 = .ok (.iconst 4, 1) := by decide +kernel
theorem dL_isTidied_6 : decode cL_isTidied 6 = .ok (.newarray .int, 2) := by decide +kernel
theorem dL_isTidied_8 : decode cL_isTidied 8 = .ok (.astore 5, 2) := by decide +kernel
theorem dL_isTidied_10 : decode cL_isTidied 10 = .ok (.iconst 0, 1) := by decide +kernel
theorem dL_isTidied_11 : decode cL_isTidied 11 = .ok (.istore 6, 2) := by decide +kernel
theorem dL_isTidied_13 : decode cL_isTidied 13 = .ok (.iconst 0, 1) := by decide +kernel
theorem dL_isTidied_14 : decode cL_isTidied 14 = .ok (.istore 7, 2) := by decide +kernel
theorem dL_isTidied_16 : decode cL_isTidied 16 = .ok (.iload 7, 2) := by decide +kernel
theorem dL_isTidied_18 : decode cL_isTidied 18 = .ok (.iload_n 1, 1) := by decide +kernel
theorem dL_isTidied_19 : decode cL_isTidied 19 = .ok (.if_icmp .ge 62, 3) := by decide +kernel
theorem dL_isTidied_22 : decode cL_isTidied 22 = .ok (.aload 4, 2) := by decide +kernel
theorem dL_isTidied_24 : decode cL_isTidied 24 = .ok (.iload 7, 2) := by decide +kernel
theorem dL_isTidied_26 : decode cL_isTidied 26 = .ok (.aload_n 0, 1) := by decide +kernel
theorem dL_isTidied_27 : decode cL_isTidied 27 = .ok (.bipush 12, 2) := by decide +kernel
theorem dL_isTidied_29 : decode cL_isTidied 29 = .ok (.iload 7, 2) := by decide +kernel
theorem dL_isTidied_31 : decode cL_isTidied 31 = .ok (.iload_n 2, 1) := by decide +kernel
theorem dL_isTidied_32 : decode cL_isTidied 32 = .ok (.invokestatic 148, 3) := by decide +kernel
theorem dL_isTidied_35 : decode cL_isTidied 35 = .ok (.iconst 0, 1) := by decide +kernel
theorem dL_isTidied_36 : decode cL_isTidied 36 = .ok (.invokestatic 151, 3) := by decide +kernel
theorem dL_isTidied_39 : decode cL_isTidied 39 = .ok (.iastore, 1) := by decide +kernel
theorem dL_isTidied_40 : decode cL_isTidied 40 = .ok (.aload 5, 2) := by decide +kernel
theorem dL_isTidied_42 : decode cL_isTidied 42 = .ok (.iload 7, 2) := by decide +kernel
theorem dL_isTidied_44 : decode cL_isTidied 44 = .ok (.aload_n 0, 1) := by decide +kernel
theorem dL_isTidied_45 : decode cL_isTidied 45 = .ok (.iload 7, 2) := by decide +kernel
theorem dL_isTidied_47 : decode cL_isTidied 47 = .ok (.iconst 1, 1) := by decide +kernel
theorem dL_isTidied_48 : decode cL_isTidied 48 = .ok (.iload_n 2, 1) := by decide +kernel
theorem dL_isTidied_49 : decode cL_isTidied 49 = .ok (.isub, 1) := by decide +kernel
theorem dL_isTidied_50 : decode cL_isTidied 50 = .ok (.invokestatic 154, 3) := by decide +kernel
theorem dL_isTidied_53 : decode cL_isTidied 53 = .ok (.iastore, 1) := by decide +kernel
theorem dL_isTidied_54 : decode cL_isTidied 54 = .ok (.iload 6, 2) := by decide +kernel
theorem dL_isTidied_56 : decode cL_isTidied 56 = .ok (.aload 4, 2) := by decide +kernel
theorem dL_isTidied_58 : decode cL_isTidied 58 = .ok (.iload 7, 2) := by decide +kernel
theorem dL_isTidied_60 : decode cL_isTidied 60 = .ok (.iaload, 1) := by decide +kernel
theorem dL_isTidied_61 : decode cL_isTidied 61 = .ok (.aload_n 0, 1) := by decide +kernel
theorem dL_isTidied_62 : decode cL_isTidied 62 = .ok (.iload 7, 2) := by decide +kernel
theorem dL_isTidied_64 : decode cL_isTidied 64 = .ok (.iload_n 2, 1) := by decide +kernel
theorem dL_isTidied_65 : decode cL_isTidied 65 = .ok (.invokestatic 154, 3) := by decide +kernel
theorem dL_isTidied_68 : decode cL_isTidied 68 = .ok (.isub, 1) := by decide +kernel
theorem dL_isTidied_69 : decode cL_isTidied 69 = .ok (.invokestatic 161, 3) := by decide +kernel
theorem dL_isTidied_72 : decode cL_isTidied 72 = .ok (.iadd, 1) := by decide +kernel
theorem dL_isTidied_73 : decode cL_isTidied 73 = .ok (.istore 6, 2) := by decide +kernel
theorem dL_isTidied_75 : decode cL_isTidied 75 = .ok (.iinc 7 1, 3) := by decide +kernel
theorem dL_isTidied_78 : decode cL_isTidied 78 = .ok (.goto (-62), 3) := by decide +kernel
theorem dL_isTidied_81 : decode cL_isTidied 81 = .ok (.aload_n 0, 1) := by decide +kernel
theorem dL_isTidied_82 : decode cL_isTidied 82 = .ok (.bipush 9, 2) := by decide +kernel
theorem dL_isTidied_84 : decode cL_isTidied 84 = .ok (.iload_n 2, 1) := by decide +kernel
theorem dL_isTidied_85 : decode cL_isTidied 85 = .ok (.invokestatic 148, 3) := by decide +kernel
theorem dL_isTidied_88 : decode cL_isTidied 88 = .ok (.iconst 0, 1) := by decide +kernel
theorem dL_isTidied_89 : decode cL_isTidied 89 = .ok (.iconst 0, 1) := by decide +kernel
theorem dL_isTidied_90 : decode cL_isTidied 90 = .ok (.invokestatic 151, 3) := by decide +kernel
theorem dL_isTidied_93 : decode cL_isTidied 93 = .ok (.istore 7, 2) := by decide +kernel
theorem dL_isTidied_95 : decode cL_isTidied 95 = .ok (.iload_n 3, 1) := by decide +kernel
theorem dL_isTidied_96 : decode cL_isTidied 96 = .ok (.ifCond .ge 7, 3) := by decide +kernel
theorem dL_isTidied_99 : decode cL_isTidied 99 = .ok (.iconst 0, 1) := by decide +kernel
theorem dL_isTidied_100 : decode cL_isTidied 100 = .ok (.goto 9, 3) := by decide +kernel
theorem dL_isTidied_103 : decode cL_isTidied 103 = .ok (.aload_n 0, 1) := by decide +kernel
theorem dL_isTidied_104 : decode cL_isTidied 104 = .ok (.iload_n 3, 1) := by decide +kernel
theorem dL_isTidied_105 : decode cL_isTidied 105 = .ok (.iload_n 2, 1) := by decide +kernel
theorem dL_isTidied_106 : decode cL_isTidied 106 = .ok (.invokestatic 154, 3) := by decide +kernel
theorem dL_isTidied_109 : decode cL_isTidied 109 = .ok (.istore 8, 2) := by decide +kernel
theorem dL_isTidied_111 : decode cL_isTidied 111 = .ok (.aload_n 0, 1) := by decide +kernel
theorem dL_isTidied_112 : decode cL_isTidied 112 = .ok (.invokevirtual 166, 3) := by decide +kernel
theorem dL_isTidied_115 : decode cL_isTidied 115 = .ok (.lstore 9, 2) := by decide +kernel
theorem dL_isTidied_117 : decode cL_isTidied 117 = .ok (.iload 6, 2) := by decide +kernel
theorem dL_isTidied_119 : decode cL_isTidied 119 = .ok (.aload_n 0, 1) := by decide +kernel
theorem dL_isTidied_120 : decode cL_isTidied 120 = .ok (.bipush 11, 2) := by decide +kernel
theorem dL_isTidied_122 : decode cL_isTidied 122 = .ok (.iload_n 2, 1) := by decide +kernel
theorem dL_isTidied_123 : decode cL_isTidied 123 = .ok (.invokestatic 148, 3) := by decide +kernel
theorem dL_isTidied_126 : decode cL_isTidied 126 = .ok (.iconst 0, 1) := by decide +kernel
theorem dL_isTidied_127 : decode cL_isTidied 127 = .ok (.iconst 0, 1) := by decide +kernel
theorem dL_isTidied_128 : decode cL_isTidied 128 = .ok (.invokestatic 151, 3) := by decide +kernel
theorem dL_isTidied_131 : decode cL_isTidied 131 = .ok (.if_icmp .ne 71, 3) := by decide +kernel
theorem dL_isTidied_134 : decode cL_isTidied 134 = .ok (.aload_n 0, 1) := by decide +kernel
theorem dL_isTidied_135 : decode cL_isTidied 135 = .ok (.bipush 7, 2) := by decide +kernel
theorem dL_isTidied_137 : decode cL_isTidied 137 = .ok (.iload_n 2, 1) := by decide +kernel
theorem dL_isTidied_138 : decode cL_isTidied 138 = .ok (.invokestatic 148, 3) := by decide +kernel
theorem dL_isTidied_141 : decode cL_isTidied 141 = .ok (.iconst 0, 1) := by decide +kernel
theorem dL_isTidied_142 : decode cL_isTidied 142 = .ok (.iconst 0, 1) := by decide +kernel
theorem dL_isTidied_143 : decode cL_isTidied 143 = .ok (.iconst 0, 1) := by decide +kernel
theorem dL_isTidied_144 : decode cL_isTidied 144 = .ok (.invokestatic 145, 3) := by decide +kernel
theorem dL_isTidied_147 : decode cL_isTidied 147 = .ok (.iload 6, 2) := by decide +kernel
theorem dL_isTidied_149 : decode cL_isTidied 149 = .ok (.if_icmp .ne 53, 3) := by decide +kernel
theorem dL_isTidied_152 : decode cL_isTidied 152 = .ok (.aload_n 0, 1) := by decide +kernel
theorem dL_isTidied_153 : decode cL_isTidied 153 = .ok (.bipush 7, 2) := by decide +kernel
theorem dL_isTidied_155 : decode cL_isTidied 155 = .ok (.iload_n 2, 1) := by decide +kernel
theorem dL_isTidied_156 : decode cL_isTidied 156 = .ok (.invokestatic 148, 3) := by decide +kernel
theorem dL_isTidied_159 : decode cL_isTidied 159 = .ok (.iconst 0, 1) := by decide +kernel
theorem dL_isTidied_160 : decode cL_isTidied 160 = .ok (.iconst 0, 1) := by decide +kernel
theorem dL_isTidied_161 : decode cL_isTidied 161 = .ok (.invokestatic 151, 3) := by decide +kernel
theorem dL_isTidied_164 : decode cL_isTidied 164 = .ok (.iload 7, 2) := by decide +kernel
theorem dL_isTidied_166 : decode cL_isTidied 166 = .ok (.if_icmp .ne 36, 3) := by decide +kernel
theorem dL_isTidied_169 : decode cL_isTidied 169 = .ok (.aload_n 0, 1) := by decide +kernel
theorem dL_isTidied_170 : decode cL_isTidied 170 = .ok (.invokevirtual 166, 3) := by decide +kernel
theorem dL_isTidied_173 : decode cL_isTidied 173 = .ok (.lload 9, 2) := by decide +kernel
theorem dL_isTidied_175 : decode cL_isTidied 175 = .ok (.iload 6, 2) := by decide +kernel
theorem dL_isTidied_177 : decode cL_isTidied 177 = .ok (.i2l, 1) := by decide +kernel
theorem dL_isTidied_178 : decode cL_isTidied 178 = .ok (.ladd, 1) := by decide +kernel
theorem dL_isTidied_179 : decode cL_isTidied 179 = .ok (.lcmp, 1) := by decide +kernel
theorem dL_isTidied_180 : decode cL_isTidied 180 = .ok (.ifCond .ne 22, 3) := by decide +kernel
theorem dL_isTidied_183 : decode cL_isTidied 183 = .ok (.iload_n 3, 1) := by decide +kernel
theorem dL_isTidied_184 : decode cL_isTidied 184 = .ok (.ifCond .lt 14, 3) := by decide +kernel
theorem dL_isTidied_187 : decode cL_isTidied 187 = .ok (.aload_n 0, 1) := by decide +kernel
theorem dL_isTidied_188 : decode cL_isTidied 188 = .ok (.iload_n 3, 1) := by decide +kernel
theorem dL_isTidied_189 : decode cL_isTidied 189 = .ok (.iload_n 2, 1) := by decide +kernel
theorem dL_isTidied_190 : decode cL_isTidied 190 = .ok (.invokestatic 154, 3) := by decide +kernel
theorem dL_isTidied_193 : decode cL_isTidied 193 = .ok (.iload 8, 2) := by decide +kernel
theorem dL_isTidied_195 : decode cL_isTidied 195 = .ok (.if_icmp .ne 7, 3) := by decide +kernel
theorem dL_isTidied_198 : decode cL_isTidied 198 = .ok (.iconst 1, 1) := by decide +kernel
theorem dL_isTidied_199 : decode cL_isTidied 199 = .ok (.goto 4, 3) := by decide +kernel
theorem dL_isTidied_202 : decode cL_isTidied 202 = .ok (.iconst 0, 1) := by decide +kernel
theorem dL_isTidied_203 : decode cL_isTidied 203 = .ok (.istore 11, 2) := by decide +kernel
theorem dL_isTidied_205 : decode cL_isTidied 205 = .ok (.iconst 0, 1) := by decide +kernel
theorem dL_isTidied_206 : decode cL_isTidied 206 = .ok (.istore 12, 2) := by decide +kernel
theorem dL_isTidied_208 : decode cL_isTidied 208 = .ok (.iload 12, 2) := by decide +kernel
theorem dL_isTidied_210 : decode cL_isTidied 210 = .ok (.iload_n 1, 1) := by decide +kernel
theorem dL_isTidied_211 : decode cL_isTidied 211 = .ok (.if_icmp .ge 53, 3) := by decide +kernel
theorem dL_isTidied_214 : decode cL_isTidied 214 = .ok (.iload 11, 2) := by decide +kernel
theorem dL_isTidied_216 : decode cL_isTidied 216 = .ok (.ifCond .eq 39, 3) := by decide +kernel
theorem dL_isTidied_219 : decode cL_isTidied 219 = .ok (.aload_n 0, 1) := by decide +kernel
theorem dL_isTidied_220 : decode cL_isTidied 220 = .ok (.iload 12, 2) := by decide +kernel
theorem dL_isTidied_222 : decode cL_isTidied 222 = .ok (.iload_n 2, 1) := by decide +kernel
theorem dL_isTidied_223 : decode cL_isTidied 223 = .ok (.invokestatic 154, 3) := by decide +kernel
theorem dL_isTidied_226 : decode cL_isTidied 226 = .ok (.aload 4, 2) := by decide +kernel
theorem dL_isTidied_228 : decode cL_isTidied 228 = .ok (.iload 12, 2) := by decide +kernel
theorem dL_isTidied_230 : decode cL_isTidied 230 = .ok (.iaload, 1) := by decide +kernel
theorem dL_isTidied_231 : decode cL_isTidied 231 = .ok (.if_icmp .ne 24, 3) := by decide +kernel
theorem dL_isTidied_234 : decode cL_isTidied 234 = .ok (.aload_n 0, 1) := by decide +kernel
theorem dL_isTidied_235 : decode cL_isTidied 235 = .ok (.iload 12, 2) := by decide +kernel
theorem dL_isTidied_237 : decode cL_isTidied 237 = .ok (.iconst 1, 1) := by decide +kernel
theorem dL_isTidied_238 : decode cL_isTidied 238 = .ok (.iload_n 2, 1) := by decide +kernel
theorem dL_isTidied_239 : decode cL_isTidied 239 = .ok (.isub, 1) := by decide +kernel
theorem dL_isTidied_240 : decode cL_isTidied 240 = .ok (.invokestatic 154, 3) := by decide +kernel
theorem dL_isTidied_243 : decode cL_isTidied 243 = .ok (.aload 5, 2) := by decide +kernel
theorem dL_isTidied_245 : decode cL_isTidied 245 = .ok (.iload 12, 2) := by decide +kernel
theorem dL_isTidied_247 : decode cL_isTidied 247 = .ok (.iaload, 1) := by decide +kernel
theorem dL_isTidied_248 : decode cL_isTidied 248 = .ok (.if_icmp .ne 7, 3) := by decide +kernel
theorem dL_isTidied_251 : decode cL_isTidied 251 = .ok (.iconst 1, 1) := by decide +kernel
theorem dL_isTidied_252 : decode cL_isTidied 252 = .ok (.goto 4, 3) := by decide +kernel
theorem dL_isTidied_255 : decode cL_isTidied 255 = .ok (.iconst 0, 1) := by decide +kernel
theorem dL_isTidied_256 : decode cL_isTidied 256 = .ok (.istore 11, 2) := by decide +kernel
theorem dL_isTidied_258 : decode cL_isTidied 258 = .ok (.iinc 12 1, 3) := by decide +kernel
theorem dL_isTidied_261 : decode cL_isTidied 261 = .ok (.goto (-53), 3) := by decide +kernel
theorem dL_isTidied_264 : decode cL_isTidied 264 = .ok (.iload 11, 2) := by decide +kernel
theorem dL_isTidied_266 : decode cL_isTidied 266 = .ok (.ireturn, 1) := by decide +kernel
theorem dL_isSpread_0 : decode cL_isSpread 0 = .ok (.iconst 4, 1) := by decide +kernel
theorem dL_isSpread_1 : decode cL_isSpread 1 = .ok (.newarray .int, 2) := by decide +kernel
theorem dL_isSpread_3 : decode cL_isSpread 3 = .ok (.astore 4, 2) := by decide +kernel
theorem dL_isSpread_5 : decode cL_isSpread 5 = .ok (.iconst 4, 1) := by decide +kernel
theorem dL_isSpread_6 : decode cL_isSpread 6 = .ok (.newarray .int, 2) := by decide +kernel
theorem dL_isSpread_8 : decode cL_isSpread 8 = .ok (.astore 5, 2) := by decide +kernel
theorem dL_isSpread_10 : decode cL_isSpread 10 = .ok (.iconst 0, 1) := by decide +kernel
theorem dL_isSpread_11 : decode cL_isSpread 11 = .ok (.istore 6, 2) := by decide +kernel
theorem dL_isSpread_13 : decode cL_isSpread 13 = .ok (.iload 6, 2) := by decide +kernel
theorem dL_isSpread_15 : decode cL_isSpread 15 = .ok (.iload_n 1, 1) := by decide +kernel
theorem dL_isSpread_16 : decode cL_isSpread 16 = .ok (.if_icmp .ge 93, 3) := by decide +kernel
theorem dL_isSpread_19 : decode cL_isSpread 19 = .ok (.aload 5, 2) := by decide +kernel
theorem dL_isSpread_21 : decode cL_isSpread 21 = .ok (.iload 6, 2) := by decide +kernel
theorem dL_isSpread_23 : decode cL_isSpread 23 = .ok (.aload_n 0, 1) := by decide +kernel
theorem dL_isSpread_24 : decode cL_isSpread 24 = .ok (.iload 6, 2) := by decide +kernel
theorem dL_isSpread_26 : decode cL_isSpread 26 = .ok (.iload_n 2, 1) := by decide +kernel
theorem dL_isSpread_27 : decode cL_isSpread 27 = .ok (.invokestatic 154, 3) := by decide +kernel
theorem dL_isSpread_30 : decode cL_isSpread 30 = .ok (.iastore, 1) := by decide +kernel
theorem dL_isSpread_31 : decode cL_isSpread 31 = .ok (.iconst 0, 1) := by decide +kernel
theorem dL_isSpread_32 : decode cL_isSpread 32 = .ok (.istore 7, 2) := by decide +kernel
theorem dL_isSpread_34 : decode cL_isSpread 34 = .ok (.iconst 0, 1) := by decide +kernel
theorem dL_isSpread_35 : decode cL_isSpread 35 = .ok (.istore 8, 2) := by decide +kernel
theorem dL_isSpread_37 : decode cL_isSpread 37 = .ok (.iload 8, 2) := by decide +kernel
theorem dL_isSpread_39 : decode cL_isSpread 39 = .ok (.iload_n 1, 1) := by decide +kernel
theorem dL_isSpread_40 : decode cL_isSpread 40 = .ok (.if_icmp .ge 56, 3) := by decide +kernel
theorem dL_isSpread_43 : decode cL_isSpread 43 = .ok (.iload 7, 2) := by decide +kernel
theorem dL_isSpread_45 : decode cL_isSpread 45 = .ok (.aload_n 0, 1) := by decide +kernel
theorem dL_isSpread_46 : decode cL_isSpread 46 = .ok (.iload 8, 2) := by decide +kernel
theorem dL_isSpread_48 : decode cL_isSpread 48 = .ok (.iload_n 2, 1) := by decide +kernel
theorem dL_isSpread_49 : decode cL_isSpread 49 = .ok (.invokestatic 154, 3) := by decide +kernel
theorem dL_isSpread_52 : decode cL_isSpread 52 = .ok (.aload 5, 2) := by decide +kernel
theorem dL_isSpread_54 : decode cL_isSpread 54 = .ok (.iload 6, 2) := by decide +kernel
theorem dL_isSpread_56 : decode cL_isSpread 56 = .ok (.iaload, 1) := by decide +kernel
theorem dL_isSpread_57 : decode cL_isSpread 57 = .ok (.if_icmp .lt 25, 3) := by decide +kernel
theorem dL_isSpread_60 : decode cL_isSpread 60 = .ok (.aload_n 0, 1) := by decide +kernel
theorem dL_isSpread_61 : decode cL_isSpread 61 = .ok (.iload 8, 2) := by decide +kernel
theorem dL_isSpread_63 : decode cL_isSpread 63 = .ok (.iload_n 2, 1) := by decide +kernel
theorem dL_isSpread_64 : decode cL_isSpread 64 = .ok (.invokestatic 154, 3) := by decide +kernel
theorem dL_isSpread_67 : decode cL_isSpread 67 = .ok (.aload 5, 2) := by decide +kernel
theorem dL_isSpread_69 : decode cL_isSpread 69 = .ok (.iload 6, 2) := by decide +kernel
theorem dL_isSpread_71 : decode cL_isSpread 71 = .ok (.iaload, 1) := by decide +kernel
theorem dL_isSpread_72 : decode cL_isSpread 72 = .ok (.if_icmp .ne 14, 3) := by decide +kernel
theorem dL_isSpread_75 : decode cL_isSpread 75 = .ok (.iload 8, 2) := by decide +kernel
theorem dL_isSpread_77 : decode cL_isSpread 77 = .ok (.iload 6, 2) := by decide +kernel
theorem dL_isSpread_79 : decode cL_isSpread 79 = .ok (.if_icmp .ge 7, 3) := by decide +kernel
theorem dL_isSpread_82 : decode cL_isSpread 82 = .ok (.iconst 1, 1) := by decide +kernel
theorem dL_isSpread_83 : decode cL_isSpread 83 = .ok (.goto 4, 3) := by decide +kernel
theorem dL_isSpread_86 : decode cL_isSpread 86 = .ok (.iconst 0, 1) := by decide +kernel
theorem dL_isSpread_87 : decode cL_isSpread 87 = .ok (.iadd, 1) := by decide +kernel
theorem dL_isSpread_88 : decode cL_isSpread 88 = .ok (.istore 7, 2) := by decide +kernel
theorem dL_isSpread_90 : decode cL_isSpread 90 = .ok (.iinc 8 1, 3) := by decide +kernel
theorem dL_isSpread_93 : decode cL_isSpread 93 = .ok (.goto (-56), 3) := by decide +kernel
theorem dL_isSpread_96 : decode cL_isSpread 96 = .ok (.aload 4, 2) := by decide +kernel
theorem dL_isSpread_98 : decode cL_isSpread 98 = .ok (.iload 7, 2) := by decide +kernel
theorem dL_isSpread_100 : decode cL_isSpread 100 = .ok (.iload 6, 2) := by decide +kernel
theorem dL_isSpread_102 : decode cL_isSpread 102 = .ok (.iastore, 1) := by decide +kernel
theorem dL_isSpread_103 : decode cL_isSpread 103 = .ok (.iinc 6 1, 3) := by decide +kernel
theorem dL_isSpread_106 : decode cL_isSpread 106 = .ok (.goto (-93), 3) := by decide +kernel
theorem dL_isSpread_109 : decode cL_isSpread 109 = .ok (.aload_n 0, 1) := by decide +kernel
theorem dL_isSpread_110 : decode cL_isSpread 110 = .ok (.bipush 13, 2) := by decide +kernel
theorem dL_isSpread_112 : decode cL_isSpread 112 = .ok (.iload_n 2, 1) := by decide +kernel
theorem dL_isSpread_113 : decode cL_isSpread 113 = .ok (.invokestatic 148, 3) := by decide +kernel
theorem dL_isSpread_116 : decode cL_isSpread 116 = .ok (.iconst 0, 1) := by decide +kernel
theorem dL_isSpread_117 : decode cL_isSpread 117 = .ok (.iconst 0, 1) := by decide +kernel
theorem dL_isSpread_118 : decode cL_isSpread 118 = .ok (.invokestatic 151, 3) := by decide +kernel
theorem dL_isSpread_121 : decode cL_isSpread 121 = .ok (.istore 6, 2) := by decide +kernel
theorem dL_isSpread_123 : decode cL_isSpread 123 = .ok (.aload_n 0, 1) := by decide +kernel
theorem dL_isSpread_124 : decode cL_isSpread 124 = .ok (.invokevirtual 166, 3) := by decide +kernel
theorem dL_isSpread_127 : decode cL_isSpread 127 = .ok (.lstore 7, 2) := by decide +kernel
theorem dL_isSpread_129 : decode cL_isSpread 129 = .ok (.aload_n 0, 1) := by decide +kernel
theorem dL_isSpread_130 : decode cL_isSpread 130 = .ok (.bipush 8, 2) := by decide +kernel
theorem dL_isSpread_132 : decode cL_isSpread 132 = .ok (.iload_n 2, 1) := by decide +kernel
theorem dL_isSpread_133 : decode cL_isSpread 133 = .ok (.invokestatic 148, 3) := by decide +kernel
theorem dL_isSpread_136 : decode cL_isSpread 136 = .ok (.iconst 0, 1) := by decide +kernel
theorem dL_isSpread_137 : decode cL_isSpread 137 = .ok (.iconst 0, 1) := by decide +kernel
theorem dL_isSpread_138 : decode cL_isSpread 138 = .ok (.iconst 0, 1) := by decide +kernel
theorem dL_isSpread_139 : decode cL_isSpread 139 = .ok (.invokestatic 145, 3) := by decide +kernel
theorem dL_isSpread_142 : decode cL_isSpread 142 = .ok (.istore 9, 2) := by decide +kernel
theorem dL_isSpread_144 : decode cL_isSpread 144 = .ok (.iload 6, 2) := by decide +kernel
theorem dL_isSpread_146 : decode cL_isSpread 146 = .ok (.sipush (-2005), 3) := by decide +kernel
theorem dL_isSpread_149 : decode cL_isSpread 149 = .ok (.if_icmp .ne 27, 3) := by decide +kernel
theorem dL_isSpread_152 : decode cL_isSpread 152 = .ok (.iload 9, 2) := by decide +kernel
theorem dL_isSpread_154 : decode cL_isSpread 154 = .ok (.sipush (-2005), 3) := by decide +kernel
theorem dL_isSpread_157 : decode cL_isSpread 157 = .ok (.if_icmp .ne 17, 3) := by decide +kernel
theorem dL_isSpread_160 : decode cL_isSpread 160 = .ok (.aload_n 0, 1) := by decide +kernel
theorem dL_isSpread_161 : decode cL_isSpread 161 = .ok (.invokevirtual 166, 3) := by decide +kernel
theorem dL_isSpread_164 : decode cL_isSpread 164 = .ok (.lload 7, 2) := by decide +kernel
theorem dL_isSpread_166 : decode cL_isSpread 166 = .ok (.lcmp, 1) := by decide +kernel
theorem dL_isSpread_167 : decode cL_isSpread 167 = .ok (.ifCond .ne 7, 3) := by decide +kernel
theorem dL_isSpread_170 : decode cL_isSpread 170 = .ok (.iconst 1, 1) := by decide +kernel
theorem dL_isSpread_171 : decode cL_isSpread 171 = .ok (.goto 4, 3) := by decide +kernel
theorem dL_isSpread_174 : decode cL_isSpread 174 = .ok (.iconst 0, 1) := by decide +kernel
theorem dL_isSpread_175 : decode cL_isSpread 175 = .ok (.ireturn, 1) := by decide +kernel
theorem dL_isSpread_176 : decode cL_isSpread 176 = .ok (.iload 9, 2) := by decide +kernel
theorem dL_isSpread_178 : decode cL_isSpread 178 = .ok (.ifCond .lt 43, 3) := by decide +kernel
theorem dL_isSpread_181 : decode cL_isSpread 181 = .ok (.iload_n 1, 1) := by decide +kernel
theorem dL_isSpread_182 : decode cL_isSpread 182 = .ok (.iconst 1, 1) := by decide +kernel
theorem dL_isSpread_183 : decode cL_isSpread 183 = .ok (.if_icmp .le 38, 3) := by decide +kernel
theorem dL_isSpread_186 : decode cL_isSpread 186 = .ok (.aload_n 0, 1) := by decide +kernel
theorem dL_isSpread_187 : decode cL_isSpread 187 = .ok (.invokevirtual 166, 3) := by decide +kernel
theorem dL_isSpread_190 : decode cL_isSpread 190 = .ok (.lload 7, 2) := by decide +kernel
theorem dL_isSpread_192 : decode cL_isSpread 192 = .ok (.iload 6, 2) := by decide +kernel
theorem dL_isSpread_194 : decode cL_isSpread 194 = .ok (.i2l, 1) := by decide +kernel
theorem dL_isSpread_195 : decode cL_isSpread 195 = .ok (.ladd, 1) := by decide +kernel
theorem dL_isSpread_196 : decode cL_isSpread 196 = .ok (.lcmp, 1) := by decide +kernel
theorem dL_isSpread_197 : decode cL_isSpread 197 = .ok (.ifCond .ne 24, 3) := by decide +kernel
theorem dL_isSpread_200 : decode cL_isSpread 200 = .ok (.iload_n 3, 1) := by decide +kernel
theorem dL_isSpread_201 : decode cL_isSpread 201 = .ok (.ifCond .lt 16, 3) := by decide +kernel
theorem dL_isSpread_204 : decode cL_isSpread 204 = .ok (.aload_n 0, 1) := by decide +kernel
theorem dL_isSpread_205 : decode cL_isSpread 205 = .ok (.iload_n 3, 1) := by decide +kernel
theorem dL_isSpread_206 : decode cL_isSpread 206 = .ok (.iload_n 2, 1) := by decide +kernel
theorem dL_isSpread_207 : decode cL_isSpread 207 = .ok (.invokestatic 154, 3) := by decide +kernel
theorem dL_isSpread_210 : decode cL_isSpread 210 = .ok (.aload 5, 2) := by decide +kernel
theorem dL_isSpread_212 : decode cL_isSpread 212 = .ok (.iload_n 3, 1) := by decide +kernel
theorem dL_isSpread_213 : decode cL_isSpread 213 = .ok (.iaload, 1) := by decide +kernel
theorem dL_isSpread_214 : decode cL_isSpread 214 = .ok (.if_icmp .ne 7, 3) := by decide +kernel
theorem dL_isSpread_217 : decode cL_isSpread 217 = .ok (.iconst 1, 1) := by decide +kernel
theorem dL_isSpread_218 : decode cL_isSpread 218 = .ok (.goto 4, 3) := by decide +kernel
theorem dL_isSpread_221 : decode cL_isSpread 221 = .ok (.iconst 0, 1) := by decide +kernel
theorem dL_isSpread_222 : decode cL_isSpread 222 = .ok (.istore 10, 2) := by decide +kernel
theorem dL_isSpread_224 : decode cL_isSpread 224 = .ok (.iconst 0, 1) := by decide +kernel
theorem dL_isSpread_225 : decode cL_isSpread 225 = .ok (.istore 11, 2) := by decide +kernel
theorem dL_isSpread_227 : decode cL_isSpread 227 = .ok (.iconst 0, 1) := by decide +kernel
theorem dL_isSpread_228 : decode cL_isSpread 228 = .ok (.istore 12, 2) := by decide +kernel
theorem dL_isSpread_230 : decode cL_isSpread 230 = .ok (.iload 12, 2) := by decide +kernel
theorem dL_isSpread_232 : decode cL_isSpread 232 = .ok (.iload_n 1, 1) := by decide +kernel
theorem dL_isSpread_233 : decode cL_isSpread 233 = .ok (.if_icmp .ge 88, 3) := by decide +kernel
theorem dL_isSpread_236 : decode cL_isSpread 236 = .ok (.iload 11, 2) := by decide +kernel
theorem dL_isSpread_238 : decode cL_isSpread 238 = .ok (.aload_n 0, 1) := by decide +kernel
theorem dL_isSpread_239 : decode cL_isSpread 239 = .ok (.iload 12, 2) := by decide +kernel
theorem dL_isSpread_241 : decode cL_isSpread 241 = .ok (.iload_n 2, 1) := by decide +kernel
theorem dL_isSpread_242 : decode cL_isSpread 242 = .ok (.invokestatic 154, 3) := by decide +kernel
theorem dL_isSpread_245 : decode cL_isSpread 245 = .ok (.aload 5, 2) := by decide +kernel
theorem dL_isSpread_247 : decode cL_isSpread 247 = .ok (.iload 12, 2) := by decide +kernel
theorem dL_isSpread_249 : decode cL_isSpread 249 = .ok (.iaload, 1) := by decide +kernel
theorem dL_isSpread_250 : decode cL_isSpread 250 = .ok (.isub, 1) := by decide +kernel
theorem dL_isSpread_251 : decode cL_isSpread 251 = .ok (.invokestatic 161, 3) := by decide +kernel
theorem dL_isSpread_254 : decode cL_isSpread 254 = .ok (.iadd, 1) := by decide +kernel
theorem dL_isSpread_255 : decode cL_isSpread 255 = .ok (.istore 11, 2) := by decide +kernel
theorem dL_isSpread_257 : decode cL_isSpread 257 = .ok (.iload 10, 2) := by decide +kernel
theorem dL_isSpread_259 : decode cL_isSpread 259 = .ok (.ifCond .eq 53, 3) := by decide +kernel
theorem dL_isSpread_262 : decode cL_isSpread 262 = .ok (.iload 12, 2) := by decide +kernel
theorem dL_isSpread_264 : decode cL_isSpread 264 = .ok (.ifCond .eq 44, 3) := by decide +kernel
theorem dL_isSpread_267 : decode cL_isSpread 267 = .ok (.aload_n 0, 1) := by decide +kernel
theorem dL_isSpread_268 : decode cL_isSpread 268 = .ok (.aload 4, 2) := by decide +kernel
theorem dL_isSpread_270 : decode cL_isSpread 270 = .ok (.iload 12, 2) := by decide +kernel
theorem dL_isSpread_272 : decode cL_isSpread 272 = .ok (.iaload, 1) := by decide +kernel
theorem dL_isSpread_273 : decode cL_isSpread 273 = .ok (.iload_n 2, 1) := by decide +kernel
theorem dL_isSpread_274 : decode cL_isSpread 274 = .ok (.invokestatic 154, 3) := by decide +kernel
theorem dL_isSpread_277 : decode cL_isSpread 277 = .ok (.aload_n 0, 1) := by decide +kernel
theorem dL_isSpread_278 : decode cL_isSpread 278 = .ok (.aload 4, 2) := by decide +kernel
theorem dL_isSpread_280 : decode cL_isSpread 280 = .ok (.iload 12, 2) := by decide +kernel
theorem dL_isSpread_282 : decode cL_isSpread 282 = .ok (.iconst 1, 1) := by decide +kernel
theorem dL_isSpread_283 : decode cL_isSpread 283 = .ok (.isub, 1) := by decide +kernel
theorem dL_isSpread_284 : decode cL_isSpread 284 = .ok (.iaload, 1) := by decide +kernel
theorem dL_isSpread_285 : decode cL_isSpread 285 = .ok (.iload_n 2, 1) := by decide +kernel
theorem dL_isSpread_286 : decode cL_isSpread 286 = .ok (.invokestatic 154, 3) := by decide +kernel
theorem dL_isSpread_289 : decode cL_isSpread 289 = .ok (.aload_n 0, 1) := by decide +kernel
theorem dL_isSpread_290 : decode cL_isSpread 290 = .ok (.aload 4, 2) := by decide +kernel
theorem dL_isSpread_292 : decode cL_isSpread 292 = .ok (.iload 12, 2) := by decide +kernel
theorem dL_isSpread_294 : decode cL_isSpread 294 = .ok (.iconst 1, 1) := by decide +kernel
theorem dL_isSpread_295 : decode cL_isSpread 295 = .ok (.isub, 1) := by decide +kernel
theorem dL_isSpread_296 : decode cL_isSpread 296 = .ok (.iaload, 1) := by decide +kernel
theorem dL_isSpread_297 : decode cL_isSpread 297 = .ok (.iload_n 2, 1) := by decide +kernel
theorem dL_isSpread_298 : decode cL_isSpread 298 = .ok (.invokestatic 158, 3) := by decide +kernel
theorem dL_isSpread_301 : decode cL_isSpread 301 = .ok (.iadd, 1) := by decide +kernel
theorem dL_isSpread_302 : decode cL_isSpread 302 = .ok (.iload 9, 2) := by decide +kernel
theorem dL_isSpread_304 : decode cL_isSpread 304 = .ok (.iadd, 1) := by decide +kernel
theorem dL_isSpread_305 : decode cL_isSpread 305 = .ok (.if_icmp .ne 7, 3) := by decide +kernel
theorem dL_isSpread_308 : decode cL_isSpread 308 = .ok (.iconst 1, 1) := by decide +kernel
theorem dL_isSpread_309 : decode cL_isSpread 309 = .ok (.goto 4, 3) := by decide +kernel
theorem dL_isSpread_312 : decode cL_isSpread 312 = .ok (.iconst 0, 1) := by decide +kernel
theorem dL_isSpread_313 : decode cL_isSpread 313 = .ok (.istore 10, 2) := by decide +kernel
theorem dL_isSpread_315 : decode cL_isSpread 315 = .ok (.iinc 12 1, 3) := by decide +kernel
theorem dL_isSpread_318 : decode cL_isSpread 318 = .ok (.goto (-88), 3) := by decide +kernel
theorem dL_isSpread_321 : decode cL_isSpread 321 = .ok (.iload 10, 2) := by decide +kernel
theorem dL_isSpread_323 : decode cL_isSpread 323 = .ok (.ifCond .eq 47, 3) := by decide +kernel
theorem dL_isSpread_326 : decode cL_isSpread 326 = .ok (.iload 11, 2) := by decide +kernel
theorem dL_isSpread_328 : decode cL_isSpread 328 = .ok (.iload 6, 2) := by decide +kernel
theorem dL_isSpread_330 : decode cL_isSpread 330 = .ok (.if_icmp .ne 40, 3) := by decide +kernel
theorem dL_isSpread_333 : decode cL_isSpread 333 = .ok (.aload_n 0, 1) := by decide +kernel
theorem dL_isSpread_334 : decode cL_isSpread 334 = .ok (.bipush 13, 2) := by decide +kernel
theorem dL_isSpread_336 : decode cL_isSpread 336 = .ok (.iload_n 2, 1) := by decide +kernel
theorem dL_isSpread_337 : decode cL_isSpread 337 = .ok (.invokestatic 148, 3) := by decide +kernel
theorem dL_isSpread_340 : decode cL_isSpread 340 = .ok (.iconst 0, 1) := by decide +kernel
theorem dL_isSpread_341 : decode cL_isSpread 341 = .ok (.iconst 0, 1) := by decide +kernel
theorem dL_isSpread_342 : decode cL_isSpread 342 = .ok (.invokestatic 151, 3) := by decide +kernel
theorem dL_isSpread_345 : decode cL_isSpread 345 = .ok (.ifCond .ne 25, 3) := by decide +kernel
theorem dL_isSpread_348 : decode cL_isSpread 348 = .ok (.aload_n 0, 1) := by decide +kernel
theorem dL_isSpread_349 : decode cL_isSpread 349 = .ok (.bipush 8, 2) := by decide +kernel
theorem dL_isSpread_351 : decode cL_isSpread 351 = .ok (.iload_n 2, 1) := by decide +kernel
theorem dL_isSpread_352 : decode cL_isSpread 352 = .ok (.invokestatic 148, 3) := by decide +kernel
theorem dL_isSpread_355 : decode cL_isSpread 355 = .ok (.iconst 0, 1) := by decide +kernel
theorem dL_isSpread_356 : decode cL_isSpread 356 = .ok (.iconst 0, 1) := by decide +kernel
theorem dL_isSpread_357 : decode cL_isSpread 357 = .ok (.iconst 0, 1) := by decide +kernel
theorem dL_isSpread_358 : decode cL_isSpread 358 = .ok (.invokestatic 145, 3) := by decide +kernel
theorem dL_isSpread_361 : decode cL_isSpread 361 = .ok (.iload 9, 2) := by decide +kernel
theorem dL_isSpread_363 : decode cL_isSpread 363 = .ok (.if_icmp .ne 7, 3) := by decide +kernel
theorem dL_isSpread_366 : decode cL_isSpread 366 = .ok (.iconst 1, 1) := by decide +kernel
theorem dL_isSpread_367 : decode cL_isSpread 367 = .ok (.goto 4, 3) := by decide +kernel
theorem dL_isSpread_370 : decode cL_isSpread 370 = .ok (.iconst 0, 1) := by decide +kernel
theorem dL_isSpread_371 : decode cL_isSpread 371 = .ok (.ireturn, 1) := by decide +kernel
