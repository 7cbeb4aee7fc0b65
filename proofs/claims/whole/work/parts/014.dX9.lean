theorem dX9_init_0 : decode cX9_init 0 = .ok (.aload_n 0, 1) := by decide +kernel
theorem dX9_init_1 : decode cX9_init 1 = .ok (.invokespecial 1, 3) := by decide +kernel
theorem dX9_init_4 : decode cX9_init 4 = .ok (.aload_n 0, 1) := by decide +kernel
theorem dX9_init_5 : decode cX9_init 5 = .ok (.bipush 8, 2) := by decide +kernel
theorem dX9_init_7 : decode cX9_init 7 = .ok (.newarray .int, 2) := by decide +kernel
theorem dX9_init_9 : decode cX9_init 9 = .ok (.putfield 7, 3) := by decide +kernel
theorem dX9_init_12 : decode cX9_init 12 = .ok (.aload_n 0, 1) := by decide +kernel
theorem dX9_init_13 : decode cX9_init 13 = .ok (.bipush 8, 2) := by decide +kernel
theorem dX9_init_15 : decode cX9_init 15 = .ok (.newarray .int, 2) := by decide +kernel
theorem dX9_init_17 : decode cX9_init 17 = .ok (.putfield 13, 3) := by decide +kernel
theorem dX9_init_20 : decode cX9_init 20 = .ok (.aload_n 0, 1) := by decide +kernel
theorem dX9_init_21 : decode cX9_init 21 = .ok (.iconst 4, 1) := by decide +kernel
theorem dX9_init_22 : decode cX9_init 22 = .ok (.newarray .int, 2) := by decide +kernel
theorem dX9_init_24 : decode cX9_init 24 = .ok (.putfield 16, 3) := by decide +kernel
theorem dX9_init_27 : decode cX9_init 27 = .ok (.aload_n 0, 1) := by decide +kernel
theorem dX9_init_28 : decode cX9_init 28 = .ok (.iconst 4, 1) := by decide +kernel
theorem dX9_init_29 : decode cX9_init 29 = .ok (.newarray .boolean, 2) := by decide +kernel
theorem dX9_init_31 : decode cX9_init 31 = .ok (.putfield 19, 3) := by decide +kernel
theorem dX9_init_34 : decode cX9_init 34 = .ok (.aload_n 0, 1) := by decide +kernel
theorem dX9_init_35 : decode cX9_init 35 = .ok (.bipush 8, 2) := by decide +kernel
theorem dX9_init_37 : decode cX9_init 37 = .ok (.newarray .char, 2) := by decide +kernel
theorem dX9_init_39 : decode cX9_init 39 = .ok (.putfield 23, 3) := by decide +kernel
theorem dX9_init_42 : decode cX9_init 42 = .ok (.aload_n 0, 1) := by decide +kernel
theorem dX9_init_43 : decode cX9_init 43 = .ok (.bipush 8, 2) := by decide +kernel
theorem dX9_init_45 : decode cX9_init 45 = .ok (.newarray .int, 2) := by decide +kernel
theorem dX9_init_47 : decode cX9_init 47 = .ok (.putfield 27, 3) := by decide +kernel
theorem dX9_init_50 : decode cX9_init 50 = .ok (.aload_n 0, 1) := by decide +kernel
theorem dX9_init_51 : decode cX9_init 51 = .ok (.bipush 8, 2) := by decide +kernel
theorem dX9_init_53 : decode cX9_init 53 = .ok (.newarray .int, 2) := by decide +kernel
theorem dX9_init_55 : decode cX9_init 55 = .ok (.putfield 30, 3) := by decide +kernel
theorem dX9_init_58 : decode cX9_init 58 = .ok (.aload_n 0, 1) := by decide +kernel
theorem dX9_init_59 : decode cX9_init 59 = .ok (.bipush 8, 2) := by decide +kernel
theorem dX9_init_61 : decode cX9_init 61 = .ok (.newarray .int, 2) := by decide +kernel
theorem dX9_init_63 : decode cX9_init 63 = .ok (.putfield 33, 3) := by decide +kernel
theorem dX9_init_66 : decode cX9_init 66 = .ok (.aload_n 0, 1) := by decide +kernel
theorem dX9_init_67 : decode cX9_init 67 = .ok (.bipush 8, 2) := by decide +kernel
theorem dX9_init_69 : decode cX9_init 69 = .ok (.newarray .boolean, 2) := by decide +kernel
theorem dX9_init_71 : decode cX9_init 71 = .ok (.putfield 36, 3) := by decide +kernel
theorem dX9_init_74 : decode cX9_init 74 = .ok (.aload_n 0, 1) := by decide +kernel
theorem dX9_init_75 : decode cX9_init 75 = .ok (.bipush 40, 2) := by decide +kernel
theorem dX9_init_77 : decode cX9_init 77 = .ok (.newarray .int, 2) := by decide +kernel
theorem dX9_init_79 : decode cX9_init 79 = .ok (.putfield 39, 3) := by decide +kernel
theorem dX9_init_82 : decode cX9_init 82 = .ok (.aload_n 0, 1) := by decide +kernel
theorem dX9_init_83 : decode cX9_init 83 = .ok (.iconst 4, 1) := by decide +kernel
theorem dX9_init_84 : decode cX9_init 84 = .ok (.newarray .int, 2) := by decide +kernel
theorem dX9_init_86 : decode cX9_init 86 = .ok (.putfield 42, 3) := by decide +kernel
theorem dX9_init_89 : decode cX9_init 89 = .ok (.aload_n 0, 1) := by decide +kernel
theorem dX9_init_90 : decode cX9_init 90 = .ok (.iconst 4, 1) := by decide +kernel
theorem dX9_init_91 : decode cX9_init 91 = .ok (.newarray .int, 2) := by decide +kernel
theorem dX9_init_93 : decode cX9_init 93 = .ok (.putfield 45, 3) := by decide +kernel
theorem dX9_init_96 : decode cX9_init 96 = .ok (.aload_n 0, 1) := by decide +kernel
theorem dX9_init_97 : decode cX9_init 97 = .ok (.iconst 4, 1) := by decide +kernel
theorem dX9_init_98 : decode cX9_init 98 = .ok (.newarray .int, 2) := by decide +kernel
theorem dX9_init_100 : decode cX9_init 100 = .ok (.putfield 48, 3) := by decide +kernel
theorem dX9_init_103 : decode cX9_init 103 = .ok (.aload_n 0, 1) := by decide +kernel
theorem dX9_init_104 : decode cX9_init 104 = .ok (.iconst 4, 1) := by decide +kernel
theorem dX9_init_105 : decode cX9_init 105 = .ok (.newarray .int, 2) := by decide +kernel
theorem dX9_init_107 : decode cX9_init 107 = .ok (.putfield 51, 3) := by decide +kernel
theorem dX9_init_110 : decode cX9_init 110 = .ok (.aload_n 0, 1) := by decide +kernel
theorem dX9_init_111 : decode cX9_init 111 = .ok (.bipush 12, 2) := by decide +kernel
theorem dX9_init_113 : decode cX9_init 113 = .ok (.newarray .int, 2) := by decide +kernel
theorem dX9_init_115 : decode cX9_init 115 = .ok (.putfield 54, 3) := by decide +kernel
theorem dX9_init_118 : decode cX9_init 118 = .ok (.aload_n 0, 1) := by decide +kernel
theorem dX9_init_119 : decode cX9_init 119 = .ok (.iconst 4, 1) := by decide +kernel
theorem dX9_init_120 : decode cX9_init 120 = .ok (.newarray .int, 2) := by decide +kernel
theorem dX9_init_122 : decode cX9_init 122 = .ok (.putfield 57, 3) := by decide +kernel
theorem dX9_init_125 : decode cX9_init 125 = .ok (.return_, 1) := by decide +kernel
theorem dX9_thrown_0 : decode cX9_thrown 0 = .ok (.aload_n 0, 1) := by decide +kernel
theorem dX9_thrown_1 : decode cX9_thrown 1 = .ok (.getfield 60, 3) := by decide +kernel
theorem dX9_thrown_4 : decode cX9_thrown 4 = .ok (.ireturn, 1) := by decide +kernel
theorem dX9_in_0 : decode cX9_in 0 = .ok (.iload_n 0, 1) := by decide +kernel
theorem dX9_in_1 : decode cX9_in 1 = .ok (.iload_n 1, 1) := by decide +kernel
theorem dX9_in_2 : decode cX9_in 2 = .ok (.if_icmp .lt 12, 3) := by decide +kernel
theorem dX9_in_5 : decode cX9_in 5 = .ok (.iload_n 0, 1) := by decide +kernel
theorem dX9_in_6 : decode cX9_in 6 = .ok (.iload_n 2, 1) := by decide +kernel
theorem dX9_in_7 : decode cX9_in 7 = .ok (.if_icmp .gt 7, 3) := by decide +kernel
theorem dX9_in_10 : decode cX9_in 10 = .ok (.iconst 1, 1) := by decide +kernel
theorem dX9_in_11 : decode cX9_in 11 = .ok (.goto 4, 3) := by decide +kernel
theorem dX9_in_14 : decode cX9_in 14 = .ok (.iconst 0, 1) := by decide +kernel
theorem dX9_in_15 : decode cX9_in 15 = .ok (.ireturn, 1) := by decide +kernel
theorem dX9_most_0 : decode cX9_most 0 = .ok (.iload_n 0, 1) := by decide +kernel
theorem dX9_most_1 : decode cX9_most 1 = .ok (.iload_n 1, 1) := by decide +kernel
theorem dX9_most_2 : decode cX9_most 2 = .ok (.if_icmp .le 7, 3) := by decide +kernel
theorem dX9_most_5 : decode cX9_most 5 = .ok (.iload_n 0, 1) := by decide +kernel
theorem dX9_most_6 : decode cX9_most 6 = .ok (.goto 4, 3) := by decide +kernel
theorem dX9_most_9 : decode cX9_most 9 = .ok (.iload_n 1, 1) := by decide +kernel
theorem dX9_most_10 : decode cX9_most 10 = .ok (.ireturn, 1) := by decide +kernel
theorem dX9_without_0 : decode cX9_without 0 = .ok (.iload_n 0, 1) := by decide +kernel
theorem dX9_without_1 : decode cX9_without 1 = .ok (.ifCond .ge 8, 3) := by decide +kernel
theorem dX9_without_4 : decode cX9_without 4 = .ok (.iload_n 0, 1) := by decide +kernel
theorem dX9_without_5 : decode cX9_without 5 = .ok (.ineg, 1) := by decide +kernel
theorem dX9_without_6 : decode cX9_without 6 = .ok (.goto 4, 3) := by decide +kernel
theorem dX9_without_9 : decode cX9_without 9 = .ok (.iload_n 0, 1) := by decide +kernel
theorem dX9_without_10 : decode cX9_without 10 = .ok (.ireturn, 1) := by decide +kernel
theorem dX9_fails_0 : decode cX9_fails 0 = .ok (.iload_n 1, 1) := by decide +kernel
theorem dX9_fails_1 : decode cX9_fails 1 = .ok (.ifCond .eq 15, 3) := by decide +kernel
theorem dX9_fails_4 : decode cX9_fails 4 = .ok (.aload_n 0, 1) := by decide +kernel
theorem dX9_fails_5 : decode cX9_fails 5 = .ok (.getfield 60, 3) := by decide +kernel
theorem dX9_fails_8 : decode cX9_fails 8 = .ok (.ifCond .ne 8, 3) := by decide +kernel
theorem dX9_fails_11 : decode cX9_fails 11 = .ok (.aload_n 0, 1) := by decide +kernel
theorem dX9_fails_12 : decode cX9_fails 12 = .ok (.iload_n 2, 1) := by decide +kernel
theorem dX9_fails_13 : decode cX9_fails 13 = .ok (.putfield 60, 3) := by decide +kernel
theorem dX9_fails_16 : decode cX9_fails 16 = .ok (.aload_n 0, 1) := by decide +kernel
theorem dX9_fails_17 : decode cX9_fails 17 = .ok (.getfield 60, 3) := by decide +kernel
theorem dX9_fails_20 : decode cX9_fails 20 = .ok (.ifCond .eq 7, 3) := by decide +kernel
theorem dX9_fails_23 : decode cX9_fails 23 = .ok (.iconst 1, 1) := by decide +kernel
theorem dX9_fails_24 : decode cX9_fails 24 = .ok (.goto 4, 3) := by decide +kernel
theorem dX9_fails_27 : decode cX9_fails 27 = .ok (.iconst 0, 1) := by decide +kernel
theorem dX9_fails_28 : decode cX9_fails 28 = .ok (.ireturn, 1) := by decide +kernel
theorem dX9_noShape_0 : decode cX9_noShape 0 = .ok (.iload_n 1, 1) := by decide +kernel
theorem dX9_noShape_1 : decode cX9_noShape 1 = .ok (.iconst 0, 1) := by decide +kernel
theorem dX9_noShape_2 : decode cX9_noShape 2 = .ok (.aload_n 0, 1) := by decide +kernel
theorem dX9_noShape_3 : decode cX9_noShape 3 = .ok (.getfield 64, 3) := by decide +kernel
theorem dX9_noShape_6 : decode cX9_noShape 6 = .ok (.iconst 1, 1) := by decide +kernel
theorem dX9_noShape_7 : decode cX9_noShape 7 = .ok (.isub, 1) := by decide +kernel
theorem dX9_noShape_8 : decode cX9_noShape 8 = .ok (.invokestatic 67, 3) := by decide +kernel
theorem dX9_noShape_11 : decode cX9_noShape 11 = .ok (.ifCond .ne 7, 3) := by decide +kernel
theorem dX9_noShape_14 : decode cX9_noShape 14 = .ok (.iconst 1, 1) := by decide +kernel
theorem dX9_noShape_15 : decode cX9_noShape 15 = .ok (.goto 4, 3) := by decide +kernel
theorem dX9_noShape_18 : decode cX9_noShape 18 = .ok (.iconst 0, 1) := by decide +kernel
theorem dX9_noShape_19 : decode cX9_noShape 19 = .ok (.ireturn, 1) := by decide +kernel
theorem dX9_axisOf_0 : decode cX9_axisOf 0 = .ok (.iload_n 0, 1) := by decide +kernel
theorem dX9_axisOf_1 : decode cX9_axisOf 1 = .ok (.bipush 120, 2) := by decide +kernel
theorem dX9_axisOf_3 : decode cX9_axisOf 3 = .ok (.if_icmp .ne 7, 3) := by decide +kernel
theorem dX9_axisOf_6 : decode cX9_axisOf 6 = .ok (.iconst 0, 1) := by decide +kernel
theorem dX9_axisOf_7 : decode cX9_axisOf 7 = .ok (.goto 14, 3) := by decide +kernel
theorem dX9_axisOf_10 : decode cX9_axisOf 10 = .ok (.iload_n 0, 1) := by decide +kernel
theorem dX9_axisOf_11 : decode cX9_axisOf 11 = .ok (.bipush 121, 2) := by decide +kernel
theorem dX9_axisOf_13 : decode cX9_axisOf 13 = .ok (.if_icmp .ne 7, 3) := by decide +kernel
theorem dX9_axisOf_16 : decode cX9_axisOf 16 = .ok (.iconst 1, 1) := by decide +kernel
theorem dX9_axisOf_17 : decode cX9_axisOf 17 = .ok (.goto 4, 3) := by decide +kernel
theorem dX9_axisOf_20 : decode cX9_axisOf 20 = .ok (.iconst (-1), 1) := by decide +kernel
theorem dX9_axisOf_21 : decode cX9_axisOf 21 = .ok (.ireturn, 1) := by decide +kernel
theorem dX9_room_0 : decode cX9_room 0 = .ok (.iload_n 0, 1) := by decide +kernel
theorem dX9_room_1 : decode cX9_room 1 = .ok (.ifCond .ne 9, 3) := by decide +kernel
theorem dX9_room_4 : decode cX9_room 4 = .ok (.sipush 200, 3) := by decide +kernel
theorem dX9_room_7 : decode cX9_room 7 = .ok (.goto 5, 3) := by decide +kernel
theorem dX9_room_10 : decode cX9_room 10 = .ok (.bipush 120, 2) := by decide +kernel
theorem dX9_room_12 : decode cX9_room 12 = .ok (.ireturn, 1) := by decide +kernel
theorem dX9_at_0 : decode cX9_at 0 = .ok (.aload_n 0, 1) := by decide +kernel
theorem dX9_at_1 : decode cX9_at 1 = .ok (.getfield 7, 3) := by decide +kernel
theorem dX9_at_4 : decode cX9_at 4 = .ok (.iconst 2, 1) := by decide +kernel
theorem dX9_at_5 : decode cX9_at 5 = .ok (.iload_n 1, 1) := by decide +kernel
theorem dX9_at_6 : decode cX9_at 6 = .ok (.imul, 1) := by decide +kernel
theorem dX9_at_7 : decode cX9_at 7 = .ok (.iload_n 2, 1) := by decide +kernel
theorem dX9_at_8 : decode cX9_at 8 = .ok (.iadd, 1) := by decide +kernel
theorem dX9_at_9 : decode cX9_at 9 = .ok (.iaload, 1) := by decide +kernel
theorem dX9_at_10 : decode cX9_at 10 = .ok (.ireturn, 1) := by decide +kernel
theorem dX9_sizeAt_0 : decode cX9_sizeAt 0 = .ok (.aload_n 0, 1) := by decide +kernel
theorem dX9_sizeAt_1 : decode cX9_sizeAt 1 = .ok (.getfield 13, 3) := by decide +kernel
theorem dX9_sizeAt_4 : decode cX9_sizeAt 4 = .ok (.iconst 2, 1) := by decide +kernel
theorem dX9_sizeAt_5 : decode cX9_sizeAt 5 = .ok (.iload_n 1, 1) := by decide +kernel
theorem dX9_sizeAt_6 : decode cX9_sizeAt 6 = .ok (.imul, 1) := by decide +kernel
theorem dX9_sizeAt_7 : decode cX9_sizeAt 7 = .ok (.iload_n 2, 1) := by decide +kernel
theorem dX9_sizeAt_8 : decode cX9_sizeAt 8 = .ok (.iadd, 1) := by decide +kernel
theorem dX9_sizeAt_9 : decode cX9_sizeAt 9 = .ok (.iaload, 1) := by decide +kernel
theorem dX9_sizeAt_10 : decode cX9_sizeAt 10 = .ok (.ireturn, 1) := by decide +kernel
theorem dX9_isOn_0 : decode cX9_isOn 0 = .ok (.iload_n 1, 1) := by decide +kernel
theorem dX9_isOn_1 : decode cX9_isOn 1 = .ok (.ifCond .lt 17, 3) := by decide +kernel
theorem dX9_isOn_4 : decode cX9_isOn 4 = .ok (.iload_n 1, 1) := by decide +kernel
theorem dX9_isOn_5 : decode cX9_isOn 5 = .ok (.iload_n 0, 1) := by decide +kernel
theorem dX9_isOn_6 : decode cX9_isOn 6 = .ok (.invokestatic 71, 3) := by decide +kernel
theorem dX9_isOn_9 : decode cX9_isOn 9 = .ok (.iload_n 2, 1) := by decide +kernel
theorem dX9_isOn_10 : decode cX9_isOn 10 = .ok (.isub, 1) := by decide +kernel
theorem dX9_isOn_11 : decode cX9_isOn 11 = .ok (.if_icmp .gt 7, 3) := by decide +kernel
theorem dX9_isOn_14 : decode cX9_isOn 14 = .ok (.iconst 1, 1) := by decide +kernel
theorem dX9_isOn_15 : decode cX9_isOn 15 = .ok (.goto 4, 3) := by decide +kernel
theorem dX9_isOn_18 : decode cX9_isOn 18 = .ok (.iconst 0, 1) := by decide +kernel
theorem dX9_isOn_19 : decode cX9_isOn 19 = .ok (.ireturn, 1) := by decide +kernel
theorem dX9_meet_0 : decode cX9_meet 0 = .ok (.iload_n 0, 1) := by decide +kernel
theorem dX9_meet_1 : decode cX9_meet 1 = .ok (.iload_n 2, 1) := by decide +kernel
theorem dX9_meet_2 : decode cX9_meet 2 = .ok (.iload_n 3, 1) := by decide +kernel
theorem dX9_meet_3 : decode cX9_meet 3 = .ok (.iadd, 1) := by decide +kernel
theorem dX9_meet_4 : decode cX9_meet 4 = .ok (.if_icmp .ge 14, 3) := by decide +kernel
theorem dX9_meet_7 : decode cX9_meet 7 = .ok (.iload_n 2, 1) := by decide +kernel
theorem dX9_meet_8 : decode cX9_meet 8 = .ok (.iload_n 0, 1) := by decide +kernel
theorem dX9_meet_9 : decode cX9_meet 9 = .ok (.iload_n 1, 1) := by decide +kernel
theorem dX9_meet_10 : decode cX9_meet 10 = .ok (.iadd, 1) := by decide +kernel
theorem dX9_meet_11 : decode cX9_meet 11 = .ok (.if_icmp .ge 7, 3) := by decide +kernel
theorem dX9_meet_14 : decode cX9_meet 14 = .ok (.iconst 1, 1) := by decide +kernel
theorem dX9_meet_15 : decode cX9_meet 15 = .ok (.goto 4, 3) := by decide +kernel
theorem dX9_meet_18 : decode cX9_meet 18 = .ok (.iconst 0, 1) := by decide +kernel
theorem dX9_meet_19 : decode cX9_meet 19 = .ok (.ireturn, 1) := by decide +kernel
theorem dX9_overlapped_0 : decode cX9_overlapped 0 = .ok (.iconst 0, 1) := by decide +kernel
theorem dX9_overlapped_1 : decode cX9_overlapped 1 = .ok (.istore 6, 2) := by decide +kernel
theorem dX9_overlapped_3 : decode cX9_overlapped 3 = .ok (.iload 6, 2) := by decide +kernel
theorem dX9_overlapped_5 : decode cX9_overlapped 5 = .ok (.aload_n 0, 1) := by decide +kernel
theorem dX9_overlapped_6 : decode cX9_overlapped 6 = .ok (.getfield 64, 3) := by decide +kernel
theorem dX9_overlapped_9 : decode cX9_overlapped 9 = .ok (.if_icmp .ge 64, 3) := by decide +kernel
theorem dX9_overlapped_12 : decode cX9_overlapped 12 = .ok (.iload 6, 2) := by decide +kernel
theorem dX9_overlapped_14 : decode cX9_overlapped 14 = .ok (.iload_n 1, 1) := by decide +kernel
theorem dX9_overlapped_15 : decode cX9_overlapped 15 = .ok (.if_icmp .eq 52, 3) := by decide +kernel
theorem dX9_overlapped_18 : decode cX9_overlapped 18 = .ok (.iload_n 2, 1) := by decide +kernel
theorem dX9_overlapped_19 : decode cX9_overlapped 19 = .ok (.iload 4, 2) := by decide +kernel
theorem dX9_overlapped_21 : decode cX9_overlapped 21 = .ok (.aload_n 0, 1) := by decide +kernel
theorem dX9_overlapped_22 : decode cX9_overlapped 22 = .ok (.iload 6, 2) := by decide +kernel
theorem dX9_overlapped_24 : decode cX9_overlapped 24 = .ok (.iconst 0, 1) := by decide +kernel
theorem dX9_overlapped_25 : decode cX9_overlapped 25 = .ok (.invokevirtual 75, 3) := by decide +kernel
theorem dX9_overlapped_28 : decode cX9_overlapped 28 = .ok (.aload_n 0, 1) := by decide +kernel
theorem dX9_overlapped_29 : decode cX9_overlapped 29 = .ok (.iload 6, 2) := by decide +kernel
theorem dX9_overlapped_31 : decode cX9_overlapped 31 = .ok (.iconst 0, 1) := by decide +kernel
theorem dX9_overlapped_32 : decode cX9_overlapped 32 = .ok (.invokevirtual 79, 3) := by decide +kernel
theorem dX9_overlapped_35 : decode cX9_overlapped 35 = .ok (.invokestatic 82, 3) := by decide +kernel
theorem dX9_overlapped_38 : decode cX9_overlapped 38 = .ok (.ifCond .eq 29, 3) := by decide +kernel
theorem dX9_overlapped_41 : decode cX9_overlapped 41 = .ok (.iload_n 3, 1) := by decide +kernel
theorem dX9_overlapped_42 : decode cX9_overlapped 42 = .ok (.iload 5, 2) := by decide +kernel
theorem dX9_overlapped_44 : decode cX9_overlapped 44 = .ok (.aload_n 0, 1) := by decide +kernel
theorem dX9_overlapped_45 : decode cX9_overlapped 45 = .ok (.iload 6, 2) := by decide +kernel
theorem dX9_overlapped_47 : decode cX9_overlapped 47 = .ok (.iconst 1, 1) := by decide +kernel
theorem dX9_overlapped_48 : decode cX9_overlapped 48 = .ok (.invokevirtual 75, 3) := by decide +kernel
theorem dX9_overlapped_51 : decode cX9_overlapped 51 = .ok (.aload_n 0, 1) := by decide +kernel
theorem dX9_overlapped_52 : decode cX9_overlapped 52 = .ok (.iload 6, 2) := by decide +kernel
theorem dX9_overlapped_54 : decode cX9_overlapped 54 = .ok (.iconst 1, 1) := by decide +kernel
theorem dX9_overlapped_55 : decode cX9_overlapped 55 = .ok (.invokevirtual 79, 3) := by decide +kernel
theorem dX9_overlapped_58 : decode cX9_overlapped 58 = .ok (.invokestatic 82, 3) := by decide +kernel
theorem dX9_overlapped_61 : decode cX9_overlapped 61 = .ok (.ifCond .eq 6, 3) := by decide +kernel
theorem dX9_overlapped_64 : decode cX9_overlapped 64 = .ok (.iload 6, 2) := by decide +kernel
theorem dX9_overlapped_66 : decode cX9_overlapped 66 = .ok (.ireturn, 1) := by decide +kernel
theorem dX9_overlapped_67 : decode cX9_overlapped 67 = .ok (.iinc 6 1, 3) := by decide +kernel
theorem dX9_overlapped_70 : decode cX9_overlapped 70 = .ok (.goto (-67), 3) := by decide +kernel
theorem dX9_overlapped_73 : decode cX9_overlapped 73 = .ok (.iconst (-1), 1) := by decide +kernel
theorem dX9_overlapped_74 : decode cX9_overlapped 74 = .ok (.ireturn, 1) := by decide +kernel
theorem dX9_addShape_0 : decode cX9_addShape 0 = .ok (.aload_n 0, 1) := by decide +kernel
theorem dX9_addShape_1 : decode cX9_addShape 1 = .ok (.iconst 0, 1) := by decide +kernel
theorem dX9_addShape_2 : decode cX9_addShape 2 = .ok (.putfield 60, 3) := by decide +kernel
theorem dX9_addShape_5 : decode cX9_addShape 5 = .ok (.iload_n 3, 1) := by decide +kernel
theorem dX9_addShape_6 : decode cX9_addShape 6 = .ok (.iconst 2, 1) := by decide +kernel
theorem dX9_addShape_7 : decode cX9_addShape 7 = .ok (.sipush 200, 3) := by decide +kernel
theorem dX9_addShape_10 : decode cX9_addShape 10 = .ok (.invokestatic 67, 3) := by decide +kernel
theorem dX9_addShape_13 : decode cX9_addShape 13 = .ok (.ifCond .eq 37, 3) := by decide +kernel
theorem dX9_addShape_16 : decode cX9_addShape 16 = .ok (.iload 4, 2) := by decide +kernel
theorem dX9_addShape_18 : decode cX9_addShape 18 = .ok (.iconst 1, 1) := by decide +kernel
theorem dX9_addShape_19 : decode cX9_addShape 19 = .ok (.bipush 120, 2) := by decide +kernel
theorem dX9_addShape_21 : decode cX9_addShape 21 = .ok (.invokestatic 67, 3) := by decide +kernel
theorem dX9_addShape_24 : decode cX9_addShape 24 = .ok (.ifCond .eq 26, 3) := by decide +kernel
theorem dX9_addShape_27 : decode cX9_addShape 27 = .ok (.iconst 0, 1) := by decide +kernel
theorem dX9_addShape_28 : decode cX9_addShape 28 = .ok (.iload_n 1, 1) := by decide +kernel
theorem dX9_addShape_29 : decode cX9_addShape 29 = .ok (.iload_n 3, 1) := by decide +kernel
theorem dX9_addShape_30 : decode cX9_addShape 30 = .ok (.invokestatic 86, 3) := by decide +kernel
theorem dX9_addShape_33 : decode cX9_addShape 33 = .ok (.ifCond .eq 17, 3) := by decide +kernel
theorem dX9_addShape_36 : decode cX9_addShape 36 = .ok (.iconst 1, 1) := by decide +kernel
theorem dX9_addShape_37 : decode cX9_addShape 37 = .ok (.iload_n 2, 1) := by decide +kernel
theorem dX9_addShape_38 : decode cX9_addShape 38 = .ok (.iload 4, 2) := by decide +kernel
theorem dX9_addShape_40 : decode cX9_addShape 40 = .ok (.invokestatic 86, 3) := by decide +kernel
theorem dX9_addShape_43 : decode cX9_addShape 43 = .ok (.ifCond .eq 7, 3) := by decide +kernel
theorem dX9_addShape_46 : decode cX9_addShape 46 = .ok (.iconst 1, 1) := by decide +kernel
theorem dX9_addShape_47 : decode cX9_addShape 47 = .ok (.goto 4, 3) := by decide +kernel
theorem dX9_addShape_50 : decode cX9_addShape 50 = .ok (.iconst 0, 1) := by decide +kernel
theorem dX9_addShape_51 : decode cX9_addShape 51 = .ok (.istore 5, 2) := by decide +kernel
theorem dX9_addShape_53 : decode cX9_addShape 53 = .ok (.aload_n 0, 1) := by decide +kernel
theorem dX9_addShape_54 : decode cX9_addShape 54 = .ok (.iload 5, 2) := by decide +kernel
theorem dX9_addShape_56 : decode cX9_addShape 56 = .ok (.ifCond .ne 7, 3) := by decide +kernel
theorem dX9_addShape_59 : decode cX9_addShape 59 = .ok (.iconst 1, 1) := by decide +kernel
theorem dX9_addShape_60 : decode cX9_addShape 60 = .ok (.goto 4, 3) := by decide +kernel
theorem dX9_addShape_63 : decode cX9_addShape 63 = .ok (.iconst 0, 1) := by decide +kernel
theorem dX9_addShape_64 : decode cX9_addShape 64 = .ok (.iconst 1, 1) := by decide +kernel
theorem dX9_addShape_65 : decode cX9_addShape 65 = .ok (.invokevirtual 89, 3) := by decide +kernel
theorem dX9_addShape_68 : decode cX9_addShape 68 = .ok (.ifCond .ne 51, 3) := by decide +kernel
theorem dX9_addShape_71 : decode cX9_addShape 71 = .ok (.aload_n 0, 1) := by decide +kernel
theorem dX9_addShape_72 : decode cX9_addShape 72 = .ok (.aload_n 0, 1) := by decide +kernel
theorem dX9_addShape_73 : decode cX9_addShape 73 = .ok (.getfield 64, 3) := by decide +kernel
theorem dX9_addShape_76 : decode cX9_addShape 76 = .ok (.iconst 4, 1) := by decide +kernel
theorem dX9_addShape_77 : decode cX9_addShape 77 = .ok (.if_icmp .ne 7, 3) := by decide +kernel
theorem dX9_addShape_80 : decode cX9_addShape 80 = .ok (.iconst 1, 1) := by decide +kernel
theorem dX9_addShape_81 : decode cX9_addShape 81 = .ok (.goto 4, 3) := by decide +kernel
theorem dX9_addShape_84 : decode cX9_addShape 84 = .ok (.iconst 0, 1) := by decide +kernel
theorem dX9_addShape_85 : decode cX9_addShape 85 = .ok (.iconst 2, 1) := by decide +kernel
theorem dX9_addShape_86 : decode cX9_addShape 86 = .ok (.invokevirtual 89, 3) := by decide +kernel
theorem dX9_addShape_89 : decode cX9_addShape 89 = .ok (.ifCond .ne 30, 3) := by decide +kernel
theorem dX9_addShape_92 : decode cX9_addShape 92 = .ok (.aload_n 0, 1) := by decide +kernel
theorem dX9_addShape_93 : decode cX9_addShape 93 = .ok (.aload_n 0, 1) := by decide +kernel
theorem dX9_addShape_94 : decode cX9_addShape 94 = .ok (.iconst (-1), 1) := by decide +kernel
theorem dX9_addShape_95 : decode cX9_addShape 95 = .ok (.iload_n 1, 1) := by decide +kernel
theorem dX9_addShape_96 : decode cX9_addShape 96 = .ok (.iload_n 2, 1) := by decide +kernel
theorem dX9_addShape_97 : decode cX9_addShape 97 = .ok (.iload_n 3, 1) := by decide +kernel
theorem dX9_addShape_98 : decode cX9_addShape 98 = .ok (.iload 4, 2) := by decide +kernel
theorem dX9_addShape_100 : decode cX9_addShape 100 = .ok (.invokevirtual 93, 3) := by decide +kernel
theorem dX9_addShape_103 : decode cX9_addShape 103 = .ok (.iconst (-1), 1) := by decide +kernel
theorem dX9_addShape_104 : decode cX9_addShape 104 = .ok (.if_icmp .eq 7, 3) := by decide +kernel
theorem dX9_addShape_107 : decode cX9_addShape 107 = .ok (.iconst 1, 1) := by decide +kernel
theorem dX9_addShape_108 : decode cX9_addShape 108 = .ok (.goto 4, 3) := by decide +kernel
theorem dX9_addShape_111 : decode cX9_addShape 111 = .ok (.iconst 0, 1) := by decide +kernel
theorem dX9_addShape_112 : decode cX9_addShape 112 = .ok (.iconst 3, 1) := by decide +kernel
theorem dX9_addShape_113 : decode cX9_addShape 113 = .ok (.invokevirtual 89, 3) := by decide +kernel
theorem dX9_addShape_116 : decode cX9_addShape 116 = .ok (.ifCond .eq 5, 3) := by decide +kernel
theorem dX9_addShape_119 : decode cX9_addShape 119 = .ok (.iconst 0, 1) := by decide +kernel
theorem dX9_addShape_120 : decode cX9_addShape 120 = .ok (.ireturn, 1) := by decide +kernel
theorem dX9_addShape_121 : decode cX9_addShape 121 = .ok (.aload_n 0, 1) := by decide +kernel
theorem dX9_addShape_122 : decode cX9_addShape 122 = .ok (.getfield 7, 3) := by decide +kernel
theorem dX9_addShape_125 : decode cX9_addShape 125 = .ok (.iconst 2, 1) := by decide +kernel
theorem dX9_addShape_126 : decode cX9_addShape 126 = .ok (.aload_n 0, 1) := by decide +kernel
theorem dX9_addShape_127 : decode cX9_addShape 127 = .ok (.getfield 64, 3) := by decide +kernel
theorem dX9_addShape_130 : decode cX9_addShape 130 = .ok (.imul, 1) := by decide +kernel
theorem dX9_addShape_131 : decode cX9_addShape 131 = .ok (.iload_n 1, 1) := by decide +kernel
theorem dX9_addShape_132 : decode cX9_addShape 132 = .ok (.iastore, 1) := by decide +kernel
theorem dX9_addShape_133 : decode cX9_addShape 133 = .ok (.aload_n 0, 1) := by decide +kernel
theorem dX9_addShape_134 : decode cX9_addShape 134 = .ok (.getfield 7, 3) := by decide +kernel
theorem dX9_addShape_137 : decode cX9_addShape 137 = .ok (.iconst 2, 1) := by decide +kernel
theorem dX9_addShape_138 : decode cX9_addShape 138 = .ok (.aload_n 0, 1) := by decide +kernel
theorem dX9_addShape_139 : decode cX9_addShape 139 = .ok (.getfield 64, 3) := by decide +kernel
theorem dX9_addShape_142 : decode cX9_addShape 142 = .ok (.imul, 1) := by decide +kernel
theorem dX9_addShape_143 : decode cX9_addShape 143 = .ok (.iconst 1, 1) := by decide +kernel
theorem dX9_addShape_144 : decode cX9_addShape 144 = .ok (.iadd, 1) := by decide +kernel
theorem dX9_addShape_145 : decode cX9_addShape 145 = .ok (.iload_n 2, 1) := by decide +kernel
theorem dX9_addShape_146 : decode cX9_addShape 146 = .ok (.iastore, 1) := by decide +kernel
theorem dX9_addShape_147 : decode cX9_addShape 147 = .ok (.aload_n 0, 1) := by decide +kernel
theorem dX9_addShape_148 : decode cX9_addShape 148 = .ok (.getfield 13, 3) := by decide +kernel
theorem dX9_addShape_151 : decode cX9_addShape 151 = .ok (.iconst 2, 1) := by decide +kernel
theorem dX9_addShape_152 : decode cX9_addShape 152 = .ok (.aload_n 0, 1) := by decide +kernel
theorem dX9_addShape_153 : decode cX9_addShape 153 = .ok (.getfield 64, 3) := by decide +kernel
theorem dX9_addShape_156 : decode cX9_addShape 156 = .ok (.imul, 1) := by decide +kernel
theorem dX9_addShape_157 : decode cX9_addShape 157 = .ok (.iload_n 3, 1) := by decide +kernel
theorem dX9_addShape_158 : decode cX9_addShape 158 = .ok (.iastore, 1) := by decide +kernel
theorem dX9_addShape_159 : decode cX9_addShape 159 = .ok (.aload_n 0, 1) := by decide +kernel
theorem dX9_addShape_160 : decode cX9_addShape 160 = .ok (.getfield 13, 3) := by decide +kernel
theorem dX9_addShape_163 : decode cX9_addShape 163 = .ok (.iconst 2, 1) := by decide +kernel
theorem dX9_addShape_164 : decode cX9_addShape 164 = .ok (.aload_n 0, 1) := by decide +kernel
theorem dX9_addShape_165 : decode cX9_addShape 165 = .ok (.getfield 64, 3) := by decide +kernel
theorem dX9_addShape_168 : decode cX9_addShape 168 = .ok (.imul, 1) := by decide +kernel
theorem dX9_addShape_169 : decode cX9_addShape 169 = .ok (.iconst 1, 1) := by decide +kernel
theorem dX9_addShape_170 : decode cX9_addShape 170 = .ok (.iadd, 1) := by decide +kernel
theorem dX9_addShape_171 : decode cX9_addShape 171 = .ok (.iload 4, 2) := by decide +kernel
theorem dX9_addShape_173 : decode cX9_addShape 173 = .ok (.iastore, 1) := by decide +kernel
theorem dX9_addShape_174 : decode cX9_addShape 174 = .ok (.aload_n 0, 1) := by decide +kernel
theorem dX9_addShape_175 : decode cX9_addShape 175 = .ok (.dup, 1) := by decide +kernel
theorem dX9_addShape_176 : decode cX9_addShape 176 = .ok (.getfield 64, 3) := by decide +kernel
theorem dX9_addShape_179 : decode cX9_addShape 179 = .ok (.iconst 1, 1) := by decide +kernel
theorem dX9_addShape_180 : decode cX9_addShape 180 = .ok (.iadd, 1) := by decide +kernel
theorem dX9_addShape_181 : decode cX9_addShape 181 = .ok (.putfield 64, 3) := by decide +kernel
theorem dX9_addShape_184 : decode cX9_addShape 184 = .ok (.aload_n 0, 1) := by decide +kernel
theorem dX9_addShape_185 : decode cX9_addShape 185 = .ok (.getfield 64, 3) := by decide +kernel
theorem dX9_addShape_188 : decode cX9_addShape 188 = .ok (.iconst 1, 1) := by decide +kernel
theorem dX9_addShape_189 : decode cX9_addShape 189 = .ok (.isub, 1) := by decide +kernel
theorem dX9_addShape_190 : decode cX9_addShape 190 = .ok (.ireturn, 1) := by decide +kernel
theorem dX9_setLocked_0 : decode cX9_setLocked 0 = .ok (.aload_n 0, 1) := by decide +kernel
theorem dX9_setLocked_1 : decode cX9_setLocked 1 = .ok (.iconst 0, 1) := by decide +kernel
theorem dX9_setLocked_2 : decode cX9_setLocked 2 = .ok (.putfield 60, 3) := by decide +kernel
theorem dX9_setLocked_5 : decode cX9_setLocked 5 = .ok (.aload_n 0, 1) := by decide +kernel
theorem dX9_setLocked_6 : decode cX9_setLocked 6 = .ok (.aload_n 0, 1) := by decide +kernel
theorem dX9_setLocked_7 : decode cX9_setLocked 7 = .ok (.iload_n 1, 1) := by decide +kernel
theorem dX9_setLocked_8 : decode cX9_setLocked 8 = .ok (.invokevirtual 97, 3) := by decide +kernel
theorem dX9_setLocked_11 : decode cX9_setLocked 11 = .ok (.iconst 1, 1) := by decide +kernel
theorem dX9_setLocked_12 : decode cX9_setLocked 12 = .ok (.invokevirtual 89, 3) := by decide +kernel
theorem dX9_setLocked_15 : decode cX9_setLocked 15 = .ok (.ifCond .eq 5, 3) := by decide +kernel
theorem dX9_setLocked_18 : decode cX9_setLocked 18 = .ok (.iconst 0, 1) := by decide +kernel
theorem dX9_setLocked_19 : decode cX9_setLocked 19 = .ok (.ireturn, 1) := by decide +kernel
theorem dX9_setLocked_20 : decode cX9_setLocked 20 = .ok (.aload_n 0, 1) := by decide +kernel
theorem dX9_setLocked_21 : decode cX9_setLocked 21 = .ok (.getfield 19, 3) := by decide +kernel
theorem dX9_setLocked_24 : decode cX9_setLocked 24 = .ok (.iload_n 1, 1) := by decide +kernel
theorem dX9_setLocked_25 : decode cX9_setLocked 25 = .ok (.baload, 1) := by decide +kernel
theorem dX9_setLocked_26 : decode cX9_setLocked 26 = .ok (.istore_n 3, 1) := by decide +kernel
theorem dX9_setLocked_27 : decode cX9_setLocked 27 = .ok (.aload_n 0, 1) := by decide +kernel
theorem dX9_setLocked_28 : decode cX9_setLocked 28 = .ok (.getfield 19, 3) := by decide +kernel
theorem dX9_setLocked_31 : decode cX9_setLocked 31 = .ok (.iload_n 1, 1) := by decide +kernel
theorem dX9_setLocked_32 : decode cX9_setLocked 32 = .ok (.iload_n 2, 1) := by decide +kernel
theorem dX9_setLocked_33 : decode cX9_setLocked 33 = .ok (.bastore, 1) := by decide +kernel
theorem dX9_setLocked_34 : decode cX9_setLocked 34 = .ok (.iload_n 3, 1) := by decide +kernel
theorem dX9_setLocked_35 : decode cX9_setLocked 35 = .ok (.ireturn, 1) := by decide +kernel
theorem dX9_startOf_0 : decode cX9_startOf 0 = .ok (.aload_n 0, 1) := by decide +kernel
theorem dX9_startOf_1 : decode cX9_startOf 1 = .ok (.iconst 0, 1) := by decide +kernel
theorem dX9_startOf_2 : decode cX9_startOf 2 = .ok (.putfield 60, 3) := by decide +kernel
theorem dX9_startOf_5 : decode cX9_startOf 5 = .ok (.aload_n 0, 1) := by decide +kernel
theorem dX9_startOf_6 : decode cX9_startOf 6 = .ok (.aload_n 0, 1) := by decide +kernel
theorem dX9_startOf_7 : decode cX9_startOf 7 = .ok (.iload_n 1, 1) := by decide +kernel
theorem dX9_startOf_8 : decode cX9_startOf 8 = .ok (.invokevirtual 97, 3) := by decide +kernel
theorem dX9_startOf_11 : decode cX9_startOf 11 = .ok (.iconst 1, 1) := by decide +kernel
theorem dX9_startOf_12 : decode cX9_startOf 12 = .ok (.invokevirtual 89, 3) := by decide +kernel
theorem dX9_startOf_15 : decode cX9_startOf 15 = .ok (.ifCond .ne 24, 3) := by decide +kernel
theorem dX9_startOf_18 : decode cX9_startOf 18 = .ok (.aload_n 0, 1) := by decide +kernel
theorem dX9_startOf_19 : decode cX9_startOf 19 = .ok (.iload_n 2, 1) := by decide +kernel
theorem dX9_startOf_20 : decode cX9_startOf 20 = .ok (.invokestatic 101, 3) := by decide +kernel
theorem dX9_startOf_23 : decode cX9_startOf 23 = .ok (.iconst (-1), 1) := by decide +kernel
theorem dX9_startOf_24 : decode cX9_startOf 24 = .ok (.if_icmp .ne 7, 3) := by decide +kernel
theorem dX9_startOf_27 : decode cX9_startOf 27 = .ok (.iconst 1, 1) := by decide +kernel
theorem dX9_startOf_28 : decode cX9_startOf 28 = .ok (.goto 4, 3) := by decide +kernel
theorem dX9_startOf_31 : decode cX9_startOf 31 = .ok (.iconst 0, 1) := by decide +kernel
theorem dX9_startOf_32 : decode cX9_startOf 32 = .ok (.iconst 2, 1) := by decide +kernel
theorem dX9_startOf_33 : decode cX9_startOf 33 = .ok (.invokevirtual 89, 3) := by decide +kernel
theorem dX9_startOf_36 : decode cX9_startOf 36 = .ok (.ifCond .eq 7, 3) := by decide +kernel
theorem dX9_startOf_39 : decode cX9_startOf 39 = .ok (.iconst 0, 1) := by decide +kernel
theorem dX9_startOf_40 : decode cX9_startOf 40 = .ok (.goto 12, 3) := by decide +kernel
theorem dX9_startOf_43 : decode cX9_startOf 43 = .ok (.aload_n 0, 1) := by decide +kernel
theorem dX9_startOf_44 : decode cX9_startOf 44 = .ok (.iload_n 1, 1) := by decide +kernel
theorem dX9_startOf_45 : decode cX9_startOf 45 = .ok (.iload_n 2, 1) := by decide +kernel
theorem dX9_startOf_46 : decode cX9_startOf 46 = .ok (.invokestatic 101, 3) := by decide +kernel
theorem dX9_startOf_49 : decode cX9_startOf 49 = .ok (.invokevirtual 75, 3) := by decide +kernel
theorem dX9_startOf_52 : decode cX9_startOf 52 = .ok (.ireturn, 1) := by decide +kernel
theorem dX9_sizeOf_0 : decode cX9_sizeOf 0 = .ok (.aload_n 0, 1) := by decide +kernel
theorem dX9_sizeOf_1 : decode cX9_sizeOf 1 = .ok (.iconst 0, 1) := by decide +kernel
theorem dX9_sizeOf_2 : decode cX9_sizeOf 2 = .ok (.putfield 60, 3) := by decide +kernel
theorem dX9_sizeOf_5 : decode cX9_sizeOf 5 = .ok (.aload_n 0, 1) := by decide +kernel
theorem dX9_sizeOf_6 : decode cX9_sizeOf 6 = .ok (.aload_n 0, 1) := by decide +kernel
theorem dX9_sizeOf_7 : decode cX9_sizeOf 7 = .ok (.iload_n 1, 1) := by decide +kernel
theorem dX9_sizeOf_8 : decode cX9_sizeOf 8 = .ok (.invokevirtual 97, 3) := by decide +kernel
theorem dX9_sizeOf_11 : decode cX9_sizeOf 11 = .ok (.iconst 1, 1) := by decide +kernel
theorem dX9_sizeOf_12 : decode cX9_sizeOf 12 = .ok (.invokevirtual 89, 3) := by decide +kernel
theorem dX9_sizeOf_15 : decode cX9_sizeOf 15 = .ok (.ifCond .ne 24, 3) := by decide +kernel
theorem dX9_sizeOf_18 : decode cX9_sizeOf 18 = .ok (.aload_n 0, 1) := by decide +kernel
theorem dX9_sizeOf_19 : decode cX9_sizeOf 19 = .ok (.iload_n 2, 1) := by decide +kernel
theorem dX9_sizeOf_20 : decode cX9_sizeOf 20 = .ok (.invokestatic 101, 3) := by decide +kernel
theorem dX9_sizeOf_23 : decode cX9_sizeOf 23 = .ok (.iconst (-1), 1) := by decide +kernel
theorem dX9_sizeOf_24 : decode cX9_sizeOf 24 = .ok (.if_icmp .ne 7, 3) := by decide +kernel
theorem dX9_sizeOf_27 : decode cX9_sizeOf 27 = .ok (.iconst 1, 1) := by decide +kernel
theorem dX9_sizeOf_28 : decode cX9_sizeOf 28 = .ok (.goto 4, 3) := by decide +kernel
theorem dX9_sizeOf_31 : decode cX9_sizeOf 31 = .ok (.iconst 0, 1) := by decide +kernel
theorem dX9_sizeOf_32 : decode cX9_sizeOf 32 = .ok (.iconst 2, 1) := by decide +kernel
theorem dX9_sizeOf_33 : decode cX9_sizeOf 33 = .ok (.invokevirtual 89, 3) := by decide +kernel
theorem dX9_sizeOf_36 : decode cX9_sizeOf 36 = .ok (.ifCond .eq 7, 3) := by decide +kernel
theorem dX9_sizeOf_39 : decode cX9_sizeOf 39 = .ok (.iconst 0, 1) := by decide +kernel
theorem dX9_sizeOf_40 : decode cX9_sizeOf 40 = .ok (.goto 12, 3) := by decide +kernel
theorem dX9_sizeOf_43 : decode cX9_sizeOf 43 = .ok (.aload_n 0, 1) := by decide +kernel
theorem dX9_sizeOf_44 : decode cX9_sizeOf 44 = .ok (.iload_n 1, 1) := by decide +kernel
theorem dX9_sizeOf_45 : decode cX9_sizeOf 45 = .ok (.iload_n 2, 1) := by decide +kernel
theorem dX9_sizeOf_46 : decode cX9_sizeOf 46 = .ok (.invokestatic 101, 3) := by decide +kernel
theorem dX9_sizeOf_49 : decode cX9_sizeOf 49 = .ok (.invokevirtual 79, 3) := by decide +kernel
theorem dX9_sizeOf_52 : decode cX9_sizeOf 52 = .ok (.ireturn, 1) := by decide +kernel
theorem dX9_moveNow_0 : decode cX9_moveNow 0 = .ok (.aload_n 0, 1) := by decide +kernel
theorem dX9_moveNow_1 : decode cX9_moveNow 1 = .ok (.getfield 19, 3) := by decide +kernel
theorem dX9_moveNow_4 : decode cX9_moveNow 4 = .ok (.iload_n 1, 1) := by decide +kernel
theorem dX9_moveNow_5 : decode cX9_moveNow 5 = .ok (.baload, 1) := by decide +kernel
theorem dX9_moveNow_6 : decode cX9_moveNow 6 = .ok (.ifCond .eq 6, 3) := by decide +kernel
theorem dX9_moveNow_9 : decode cX9_moveNow 9 = .ok (.bipush 108, 2) := by decide +kernel
theorem dX9_moveNow_11 : decode cX9_moveNow 11 = .ok (.ireturn, 1) := by decide +kernel
theorem dX9_moveNow_12 : decode cX9_moveNow 12 = .ok (.iconst 0, 1) := by decide +kernel
theorem dX9_moveNow_13 : decode cX9_moveNow 13 = .ok (.iload_n 2, 1) := by decide +kernel
theorem dX9_moveNow_14 : decode cX9_moveNow 14 = .ok (.aload_n 0, 1) := by decide +kernel
theorem dX9_moveNow_15 : decode cX9_moveNow 15 = .ok (.iload_n 1, 1) := by decide +kernel
theorem dX9_moveNow_16 : decode cX9_moveNow 16 = .ok (.iconst 0, 1) := by decide +kernel
theorem dX9_moveNow_17 : decode cX9_moveNow 17 = .ok (.invokevirtual 79, 3) := by decide +kernel
theorem dX9_moveNow_20 : decode cX9_moveNow 20 = .ok (.invokestatic 86, 3) := by decide +kernel
theorem dX9_moveNow_23 : decode cX9_moveNow 23 = .ok (.ifCond .eq 17, 3) := by decide +kernel
theorem dX9_moveNow_26 : decode cX9_moveNow 26 = .ok (.iconst 1, 1) := by decide +kernel
theorem dX9_moveNow_27 : decode cX9_moveNow 27 = .ok (.iload_n 3, 1) := by decide +kernel
theorem dX9_moveNow_28 : decode cX9_moveNow 28 = .ok (.aload_n 0, 1) := by decide +kernel
theorem dX9_moveNow_29 : decode cX9_moveNow 29 = .ok (.iload_n 1, 1) := by decide +kernel
theorem dX9_moveNow_30 : decode cX9_moveNow 30 = .ok (.iconst 1, 1) := by decide +kernel
theorem dX9_moveNow_31 : decode cX9_moveNow 31 = .ok (.invokevirtual 79, 3) := by decide +kernel
theorem dX9_moveNow_34 : decode cX9_moveNow 34 = .ok (.invokestatic 86, 3) := by decide +kernel
theorem dX9_moveNow_37 : decode cX9_moveNow 37 = .ok (.ifCond .ne 6, 3) := by decide +kernel
theorem dX9_moveNow_40 : decode cX9_moveNow 40 = .ok (.bipush 115, 2) := by decide +kernel
theorem dX9_moveNow_42 : decode cX9_moveNow 42 = .ok (.ireturn, 1) := by decide +kernel
theorem dX9_moveNow_43 : decode cX9_moveNow 43 = .ok (.aload_n 0, 1) := by decide +kernel
theorem dX9_moveNow_44 : decode cX9_moveNow 44 = .ok (.iload_n 1, 1) := by decide +kernel
theorem dX9_moveNow_45 : decode cX9_moveNow 45 = .ok (.iload_n 2, 1) := by decide +kernel
theorem dX9_moveNow_46 : decode cX9_moveNow 46 = .ok (.iload_n 3, 1) := by decide +kernel
theorem dX9_moveNow_47 : decode cX9_moveNow 47 = .ok (.aload_n 0, 1) := by decide +kernel
theorem dX9_moveNow_48 : decode cX9_moveNow 48 = .ok (.iload_n 1, 1) := by decide +kernel
theorem dX9_moveNow_49 : decode cX9_moveNow 49 = .ok (.iconst 0, 1) := by decide +kernel
theorem dX9_moveNow_50 : decode cX9_moveNow 50 = .ok (.invokevirtual 79, 3) := by decide +kernel
theorem dX9_moveNow_53 : decode cX9_moveNow 53 = .ok (.aload_n 0, 1) := by decide +kernel
theorem dX9_moveNow_54 : decode cX9_moveNow 54 = .ok (.iload_n 1, 1) := by decide +kernel
theorem dX9_moveNow_55 : decode cX9_moveNow 55 = .ok (.iconst 1, 1) := by decide +kernel
theorem dX9_moveNow_56 : decode cX9_moveNow 56 = .ok (.invokevirtual 79, 3) := by decide +kernel
theorem dX9_moveNow_59 : decode cX9_moveNow 59 = .ok (.invokevirtual 93, 3) := by decide +kernel
theorem dX9_moveNow_62 : decode cX9_moveNow 62 = .ok (.iconst (-1), 1) := by decide +kernel
theorem dX9_moveNow_63 : decode cX9_moveNow 63 = .ok (.if_icmp .ne 8, 3) := by decide +kernel
theorem dX9_moveNow_66 : decode cX9_moveNow 66 = .ok (.bipush 110, 2) := by decide +kernel
theorem dX9_moveNow_68 : decode cX9_moveNow 68 = .ok (.goto 5, 3) := by decide +kernel
theorem dX9_moveNow_71 : decode cX9_moveNow 71 = .ok (.bipush 111, 2) := by decide +kernel
theorem dX9_moveNow_73 : decode cX9_moveNow 73 = .ok (.ireturn, 1) := by decide +kernel
theorem dX9_moveTo_0 : decode cX9_moveTo 0 = .ok (.aload_n 0, 1) := by decide +kernel
theorem dX9_moveTo_1 : decode cX9_moveTo 1 = .ok (.iconst 0, 1) := by decide +kernel
theorem dX9_moveTo_2 : decode cX9_moveTo 2 = .ok (.putfield 60, 3) := by decide +kernel
theorem dX9_moveTo_5 : decode cX9_moveTo 5 = .ok (.aload_n 0, 1) := by decide +kernel
theorem dX9_moveTo_6 : decode cX9_moveTo 6 = .ok (.aload_n 0, 1) := by decide +kernel
theorem dX9_moveTo_7 : decode cX9_moveTo 7 = .ok (.iload_n 1, 1) := by decide +kernel
theorem dX9_moveTo_8 : decode cX9_moveTo 8 = .ok (.invokevirtual 97, 3) := by decide +kernel
theorem dX9_moveTo_11 : decode cX9_moveTo 11 = .ok (.iconst 1, 1) := by decide +kernel
theorem dX9_moveTo_12 : decode cX9_moveTo 12 = .ok (.invokevirtual 89, 3) := by decide +kernel
theorem dX9_moveTo_15 : decode cX9_moveTo 15 = .ok (.ifCond .eq 5, 3) := by decide +kernel
theorem dX9_moveTo_18 : decode cX9_moveTo 18 = .ok (.iconst 0, 1) := by decide +kernel
theorem dX9_moveTo_19 : decode cX9_moveTo 19 = .ok (.ireturn, 1) := by decide +kernel
theorem dX9_moveTo_20 : decode cX9_moveTo 20 = .ok (.aload_n 0, 1) := by decide +kernel
theorem dX9_moveTo_21 : decode cX9_moveTo 21 = .ok (.iload_n 1, 1) := by decide +kernel
theorem dX9_moveTo_22 : decode cX9_moveTo 22 = .ok (.iload_n 2, 1) := by decide +kernel
theorem dX9_moveTo_23 : decode cX9_moveTo 23 = .ok (.iload_n 3, 1) := by decide +kernel
theorem dX9_moveTo_24 : decode cX9_moveTo 24 = .ok (.invokevirtual 105, 3) := by decide +kernel
theorem dX9_moveTo_27 : decode cX9_moveTo 27 = .ok (.istore 4, 2) := by decide +kernel
theorem dX9_moveTo_29 : decode cX9_moveTo 29 = .ok (.aload_n 0, 1) := by decide +kernel
theorem dX9_moveTo_30 : decode cX9_moveTo 30 = .ok (.iload 4, 2) := by decide +kernel
theorem dX9_moveTo_32 : decode cX9_moveTo 32 = .ok (.bipush 108, 2) := by decide +kernel
theorem dX9_moveTo_34 : decode cX9_moveTo 34 = .ok (.if_icmp .ne 7, 3) := by decide +kernel
theorem dX9_moveTo_37 : decode cX9_moveTo 37 = .ok (.iconst 1, 1) := by decide +kernel
theorem dX9_moveTo_38 : decode cX9_moveTo 38 = .ok (.goto 4, 3) := by decide +kernel
theorem dX9_moveTo_41 : decode cX9_moveTo 41 = .ok (.iconst 0, 1) := by decide +kernel
theorem dX9_moveTo_42 : decode cX9_moveTo 42 = .ok (.iconst 2, 1) := by decide +kernel
theorem dX9_moveTo_43 : decode cX9_moveTo 43 = .ok (.invokevirtual 89, 3) := by decide +kernel
theorem dX9_moveTo_46 : decode cX9_moveTo 46 = .ok (.ifCond .ne 43, 3) := by decide +kernel
theorem dX9_moveTo_49 : decode cX9_moveTo 49 = .ok (.aload_n 0, 1) := by decide +kernel
theorem dX9_moveTo_50 : decode cX9_moveTo 50 = .ok (.iload 4, 2) := by decide +kernel
theorem dX9_moveTo_52 : decode cX9_moveTo 52 = .ok (.bipush 115, 2) := by decide +kernel
theorem dX9_moveTo_54 : decode cX9_moveTo 54 = .ok (.if_icmp .ne 7, 3) := by decide +kernel
theorem dX9_moveTo_57 : decode cX9_moveTo 57 = .ok (.iconst 1, 1) := by decide +kernel
theorem dX9_moveTo_58 : decode cX9_moveTo 58 = .ok (.goto 4, 3) := by decide +kernel
theorem dX9_moveTo_61 : decode cX9_moveTo 61 = .ok (.iconst 0, 1) := by decide +kernel
theorem dX9_moveTo_62 : decode cX9_moveTo 62 = .ok (.iconst 3, 1) := by decide +kernel
theorem dX9_moveTo_63 : decode cX9_moveTo 63 = .ok (.invokevirtual 89, 3) := by decide +kernel
theorem dX9_moveTo_66 : decode cX9_moveTo 66 = .ok (.ifCond .ne 23, 3) := by decide +kernel
theorem dX9_moveTo_69 : decode cX9_moveTo 69 = .ok (.aload_n 0, 1) := by decide +kernel
theorem dX9_moveTo_70 : decode cX9_moveTo 70 = .ok (.iload 4, 2) := by decide +kernel
theorem dX9_moveTo_72 : decode cX9_moveTo 72 = .ok (.bipush 111, 2) := by decide +kernel
theorem dX9_moveTo_74 : decode cX9_moveTo 74 = .ok (.if_icmp .ne 7, 3) := by decide +kernel
theorem dX9_moveTo_77 : decode cX9_moveTo 77 = .ok (.iconst 1, 1) := by decide +kernel
theorem dX9_moveTo_78 : decode cX9_moveTo 78 = .ok (.goto 4, 3) := by decide +kernel
theorem dX9_moveTo_81 : decode cX9_moveTo 81 = .ok (.iconst 0, 1) := by decide +kernel
theorem dX9_moveTo_82 : decode cX9_moveTo 82 = .ok (.iconst 4, 1) := by decide +kernel
theorem dX9_moveTo_83 : decode cX9_moveTo 83 = .ok (.invokevirtual 89, 3) := by decide +kernel
theorem dX9_moveTo_86 : decode cX9_moveTo 86 = .ok (.ifCond .eq 5, 3) := by decide +kernel
theorem dX9_moveTo_89 : decode cX9_moveTo 89 = .ok (.iconst 0, 1) := by decide +kernel
theorem dX9_moveTo_90 : decode cX9_moveTo 90 = .ok (.ireturn, 1) := by decide +kernel
theorem dX9_moveTo_91 : decode cX9_moveTo 91 = .ok (.iload_n 2, 1) := by decide +kernel
theorem dX9_moveTo_92 : decode cX9_moveTo 92 = .ok (.aload_n 0, 1) := by decide +kernel
theorem dX9_moveTo_93 : decode cX9_moveTo 93 = .ok (.iload_n 1, 1) := by decide +kernel
theorem dX9_moveTo_94 : decode cX9_moveTo 94 = .ok (.iconst 0, 1) := by decide +kernel
theorem dX9_moveTo_95 : decode cX9_moveTo 95 = .ok (.invokevirtual 75, 3) := by decide +kernel
theorem dX9_moveTo_98 : decode cX9_moveTo 98 = .ok (.isub, 1) := by decide +kernel
theorem dX9_moveTo_99 : decode cX9_moveTo 99 = .ok (.invokestatic 109, 3) := by decide +kernel
theorem dX9_moveTo_102 : decode cX9_moveTo 102 = .ok (.iload_n 3, 1) := by decide +kernel
theorem dX9_moveTo_103 : decode cX9_moveTo 103 = .ok (.aload_n 0, 1) := by decide +kernel
theorem dX9_moveTo_104 : decode cX9_moveTo 104 = .ok (.iload_n 1, 1) := by decide +kernel
theorem dX9_moveTo_105 : decode cX9_moveTo 105 = .ok (.iconst 1, 1) := by decide +kernel
theorem dX9_moveTo_106 : decode cX9_moveTo 106 = .ok (.invokevirtual 75, 3) := by decide +kernel
theorem dX9_moveTo_109 : decode cX9_moveTo 109 = .ok (.isub, 1) := by decide +kernel
theorem dX9_moveTo_110 : decode cX9_moveTo 110 = .ok (.invokestatic 109, 3) := by decide +kernel
theorem dX9_moveTo_113 : decode cX9_moveTo 113 = .ok (.iadd, 1) := by decide +kernel
theorem dX9_moveTo_114 : decode cX9_moveTo 114 = .ok (.istore 5, 2) := by decide +kernel
theorem dX9_moveTo_116 : decode cX9_moveTo 116 = .ok (.aload_n 0, 1) := by decide +kernel
theorem dX9_moveTo_117 : decode cX9_moveTo 117 = .ok (.getfield 7, 3) := by decide +kernel
theorem dX9_moveTo_120 : decode cX9_moveTo 120 = .ok (.iconst 2, 1) := by decide +kernel
theorem dX9_moveTo_121 : decode cX9_moveTo 121 = .ok (.iload_n 1, 1) := by decide +kernel
theorem dX9_moveTo_122 : decode cX9_moveTo 122 = .ok (.imul, 1) := by decide +kernel
theorem dX9_moveTo_123 : decode cX9_moveTo 123 = .ok (.iload_n 2, 1) := by decide +kernel
theorem dX9_moveTo_124 : decode cX9_moveTo 124 = .ok (.iastore, 1) := by decide +kernel
theorem dX9_moveTo_125 : decode cX9_moveTo 125 = .ok (.aload_n 0, 1) := by decide +kernel
theorem dX9_moveTo_126 : decode cX9_moveTo 126 = .ok (.getfield 7, 3) := by decide +kernel
theorem dX9_moveTo_129 : decode cX9_moveTo 129 = .ok (.iconst 2, 1) := by decide +kernel
theorem dX9_moveTo_130 : decode cX9_moveTo 130 = .ok (.iload_n 1, 1) := by decide +kernel
theorem dX9_moveTo_131 : decode cX9_moveTo 131 = .ok (.imul, 1) := by decide +kernel
theorem dX9_moveTo_132 : decode cX9_moveTo 132 = .ok (.iconst 1, 1) := by decide +kernel
theorem dX9_moveTo_133 : decode cX9_moveTo 133 = .ok (.iadd, 1) := by decide +kernel
theorem dX9_moveTo_134 : decode cX9_moveTo 134 = .ok (.iload_n 3, 1) := by decide +kernel
theorem dX9_moveTo_135 : decode cX9_moveTo 135 = .ok (.iastore, 1) := by decide +kernel
theorem dX9_moveTo_136 : decode cX9_moveTo 136 = .ok (.aload_n 0, 1) := by decide +kernel
theorem dX9_moveTo_137 : decode cX9_moveTo 137 = .ok (.dup, 1) := by decide +kernel
theorem dX9_moveTo_138 : decode cX9_moveTo 138 = .ok (.getfield 112, 3) := by decide +kernel
theorem dX9_moveTo_141 : decode cX9_moveTo 141 = .ok (.iload 5, 2) := by decide +kernel
theorem dX9_moveTo_143 : decode cX9_moveTo 143 = .ok (.i2l, 1) := by decide +kernel
theorem dX9_moveTo_144 : decode cX9_moveTo 144 = .ok (.ladd, 1) := by decide +kernel
theorem dX9_moveTo_145 : decode cX9_moveTo 145 = .ok (.putfield 112, 3) := by decide +kernel
theorem dX9_moveTo_148 : decode cX9_moveTo 148 = .ok (.iload 5, 2) := by decide +kernel
theorem dX9_moveTo_150 : decode cX9_moveTo 150 = .ok (.ireturn, 1) := by decide +kernel
theorem dX9_moveReason_0 : decode cX9_moveReason 0 = .ok (.aload_n 0, 1) := by decide +kernel
theorem dX9_moveReason_1 : decode cX9_moveReason 1 = .ok (.iconst 0, 1) := by decide +kernel
theorem dX9_moveReason_2 : decode cX9_moveReason 2 = .ok (.putfield 60, 3) := by decide +kernel
theorem dX9_moveReason_5 : decode cX9_moveReason 5 = .ok (.aload_n 0, 1) := by decide +kernel
theorem dX9_moveReason_6 : decode cX9_moveReason 6 = .ok (.aload_n 0, 1) := by decide +kernel
theorem dX9_moveReason_7 : decode cX9_moveReason 7 = .ok (.iload_n 1, 1) := by decide +kernel
theorem dX9_moveReason_8 : decode cX9_moveReason 8 = .ok (.invokevirtual 97, 3) := by decide +kernel
theorem dX9_moveReason_11 : decode cX9_moveReason 11 = .ok (.iconst 1, 1) := by decide +kernel
theorem dX9_moveReason_12 : decode cX9_moveReason 12 = .ok (.invokevirtual 89, 3) := by decide +kernel
theorem dX9_moveReason_15 : decode cX9_moveReason 15 = .ok (.ifCond .eq 7, 3) := by decide +kernel
theorem dX9_moveReason_18 : decode cX9_moveReason 18 = .ok (.iconst 0, 1) := by decide +kernel
theorem dX9_moveReason_19 : decode cX9_moveReason 19 = .ok (.goto 10, 3) := by decide +kernel
theorem dX9_moveReason_22 : decode cX9_moveReason 22 = .ok (.aload_n 0, 1) := by decide +kernel
theorem dX9_moveReason_23 : decode cX9_moveReason 23 = .ok (.iload_n 1, 1) := by decide +kernel
theorem dX9_moveReason_24 : decode cX9_moveReason 24 = .ok (.iload_n 2, 1) := by decide +kernel
theorem dX9_moveReason_25 : decode cX9_moveReason 25 = .ok (.iload_n 3, 1) := by decide +kernel
theorem dX9_moveReason_26 : decode cX9_moveReason 26 = .ok (.invokevirtual 105, 3) := by decide +kernel
theorem dX9_moveReason_29 : decode cX9_moveReason 29 = .ok (.ireturn, 1) := by decide +kernel
theorem dX9_needed_0 : decode cX9_needed 0 = .ok (.aload_n 0, 1) := by decide +kernel
theorem dX9_needed_1 : decode cX9_needed 1 = .ok (.iload_n 1, 1) := by decide +kernel
theorem dX9_needed_2 : decode cX9_needed 2 = .ok (.iconst 0, 1) := by decide +kernel
theorem dX9_needed_3 : decode cX9_needed 3 = .ok (.invokevirtual 79, 3) := by decide +kernel
theorem dX9_needed_6 : decode cX9_needed 6 = .ok (.iconst 2, 1) := by decide +kernel
theorem dX9_needed_7 : decode cX9_needed 7 = .ok (.idiv, 1) := by decide +kernel
theorem dX9_needed_8 : decode cX9_needed 8 = .ok (.istore_n 2, 1) := by decide +kernel
theorem dX9_needed_9 : decode cX9_needed 9 = .ok (.iconst 5, 1) := by decide +kernel
theorem dX9_needed_10 : decode cX9_needed 10 = .ok (.aload_n 0, 1) := by decide +kernel
theorem dX9_needed_11 : decode cX9_needed 11 = .ok (.getfield 16, 3) := by decide +kernel
theorem dX9_needed_14 : decode cX9_needed 14 = .ok (.iload_n 1, 1) := by decide +kernel
theorem dX9_needed_15 : decode cX9_needed 15 = .ok (.iaload, 1) := by decide +kernel
theorem dX9_needed_16 : decode cX9_needed 16 = .ok (.iload_n 2, 1) := by decide +kernel
theorem dX9_needed_17 : decode cX9_needed 17 = .ok (.iadd, 1) := by decide +kernel
theorem dX9_needed_18 : decode cX9_needed 18 = .ok (.iconst 1, 1) := by decide +kernel
theorem dX9_needed_19 : decode cX9_needed 19 = .ok (.isub, 1) := by decide +kernel
theorem dX9_needed_20 : decode cX9_needed 20 = .ok (.iload_n 2, 1) := by decide +kernel
theorem dX9_needed_21 : decode cX9_needed 21 = .ok (.idiv, 1) := by decide +kernel
theorem dX9_needed_22 : decode cX9_needed 22 = .ok (.imul, 1) := by decide +kernel
theorem dX9_needed_23 : decode cX9_needed 23 = .ok (.ireturn, 1) := by decide +kernel
theorem dX9_fitsNow_0 : decode cX9_fitsNow 0 = .ok (.aload_n 0, 1) := by decide +kernel
theorem dX9_fitsNow_1 : decode cX9_fitsNow 1 = .ok (.iload_n 1, 1) := by decide +kernel
theorem dX9_fitsNow_2 : decode cX9_fitsNow 2 = .ok (.invokevirtual 116, 3) := by decide +kernel
theorem dX9_fitsNow_5 : decode cX9_fitsNow 5 = .ok (.aload_n 0, 1) := by decide +kernel
theorem dX9_fitsNow_6 : decode cX9_fitsNow 6 = .ok (.iload_n 1, 1) := by decide +kernel
theorem dX9_fitsNow_7 : decode cX9_fitsNow 7 = .ok (.iconst 1, 1) := by decide +kernel
theorem dX9_fitsNow_8 : decode cX9_fitsNow 8 = .ok (.invokevirtual 79, 3) := by decide +kernel
theorem dX9_fitsNow_11 : decode cX9_fitsNow 11 = .ok (.if_icmp .gt 7, 3) := by decide +kernel
theorem dX9_fitsNow_14 : decode cX9_fitsNow 14 = .ok (.iconst 1, 1) := by decide +kernel
theorem dX9_fitsNow_15 : decode cX9_fitsNow 15 = .ok (.goto 4, 3) := by decide +kernel
theorem dX9_fitsNow_18 : decode cX9_fitsNow 18 = .ok (.iconst 0, 1) := by decide +kernel
theorem dX9_fitsNow_19 : decode cX9_fitsNow 19 = .ok (.ireturn, 1) := by decide +kernel
theorem dX9_setText_0 : decode cX9_setText 0 = .ok (.aload_n 0, 1) := by decide +kernel
theorem dX9_setText_1 : decode cX9_setText 1 = .ok (.iconst 0, 1) := by decide +kernel
theorem dX9_setText_2 : decode cX9_setText 2 = .ok (.putfield 60, 3) := by decide +kernel
theorem dX9_setText_5 : decode cX9_setText 5 = .ok (.aload_n 0, 1) := by decide +kernel
theorem dX9_setText_6 : decode cX9_setText 6 = .ok (.aload_n 0, 1) := by decide +kernel
theorem dX9_setText_7 : decode cX9_setText 7 = .ok (.iload_n 1, 1) := by decide +kernel
theorem dX9_setText_8 : decode cX9_setText 8 = .ok (.invokevirtual 97, 3) := by decide +kernel
theorem dX9_setText_11 : decode cX9_setText 11 = .ok (.iconst 1, 1) := by decide +kernel
theorem dX9_setText_12 : decode cX9_setText 12 = .ok (.invokevirtual 89, 3) := by decide +kernel
theorem dX9_setText_15 : decode cX9_setText 15 = .ok (.ifCond .ne 27, 3) := by decide +kernel
theorem dX9_setText_18 : decode cX9_setText 18 = .ok (.aload_n 0, 1) := by decide +kernel
theorem dX9_setText_19 : decode cX9_setText 19 = .ok (.iload_n 2, 1) := by decide +kernel
theorem dX9_setText_20 : decode cX9_setText 20 = .ok (.iconst 0, 1) := by decide +kernel
theorem dX9_setText_21 : decode cX9_setText 21 = .ok (.sipush 400, 3) := by decide +kernel
theorem dX9_setText_24 : decode cX9_setText 24 = .ok (.invokestatic 67, 3) := by decide +kernel
theorem dX9_setText_27 : decode cX9_setText 27 = .ok (.ifCond .ne 7, 3) := by decide +kernel
theorem dX9_setText_30 : decode cX9_setText 30 = .ok (.iconst 1, 1) := by decide +kernel
theorem dX9_setText_31 : decode cX9_setText 31 = .ok (.goto 4, 3) := by decide +kernel
theorem dX9_setText_34 : decode cX9_setText 34 = .ok (.iconst 0, 1) := by decide +kernel
theorem dX9_setText_35 : decode cX9_setText 35 = .ok (.iconst 2, 1) := by decide +kernel
theorem dX9_setText_36 : decode cX9_setText 36 = .ok (.invokevirtual 89, 3) := by decide +kernel
theorem dX9_setText_39 : decode cX9_setText 39 = .ok (.ifCond .eq 5, 3) := by decide +kernel
theorem dX9_setText_42 : decode cX9_setText 42 = .ok (.iconst 0, 1) := by decide +kernel
theorem dX9_setText_43 : decode cX9_setText 43 = .ok (.ireturn, 1) := by decide +kernel
theorem dX9_setText_44 : decode cX9_setText 44 = .ok (.aload_n 0, 1) := by decide +kernel
theorem dX9_setText_45 : decode cX9_setText 45 = .ok (.getfield 16, 3) := by decide +kernel
theorem dX9_setText_48 : decode cX9_setText 48 = .ok (.iload_n 1, 1) := by decide +kernel
theorem dX9_setText_49 : decode cX9_setText 49 = .ok (.iload_n 2, 1) := by decide +kernel
theorem dX9_setText_50 : decode cX9_setText 50 = .ok (.iastore, 1) := by decide +kernel
theorem dX9_setText_51 : decode cX9_setText 51 = .ok (.aload_n 0, 1) := by decide +kernel
theorem dX9_setText_52 : decode cX9_setText 52 = .ok (.iload_n 1, 1) := by decide +kernel
theorem dX9_setText_53 : decode cX9_setText 53 = .ok (.invokevirtual 116, 3) := by decide +kernel
theorem dX9_setText_56 : decode cX9_setText 56 = .ok (.ireturn, 1) := by decide +kernel
theorem dX9_fits_0 : decode cX9_fits 0 = .ok (.aload_n 0, 1) := by decide +kernel
theorem dX9_fits_1 : decode cX9_fits 1 = .ok (.iconst 0, 1) := by decide +kernel
theorem dX9_fits_2 : decode cX9_fits 2 = .ok (.putfield 60, 3) := by decide +kernel
theorem dX9_fits_5 : decode cX9_fits 5 = .ok (.aload_n 0, 1) := by decide +kernel
theorem dX9_fits_6 : decode cX9_fits 6 = .ok (.aload_n 0, 1) := by decide +kernel
theorem dX9_fits_7 : decode cX9_fits 7 = .ok (.iload_n 1, 1) := by decide +kernel
theorem dX9_fits_8 : decode cX9_fits 8 = .ok (.invokevirtual 97, 3) := by decide +kernel
theorem dX9_fits_11 : decode cX9_fits 11 = .ok (.iconst 1, 1) := by decide +kernel
theorem dX9_fits_12 : decode cX9_fits 12 = .ok (.invokevirtual 89, 3) := by decide +kernel
theorem dX9_fits_15 : decode cX9_fits 15 = .ok (.ifCond .ne 15, 3) := by decide +kernel
theorem dX9_fits_18 : decode cX9_fits 18 = .ok (.aload_n 0, 1) := by decide +kernel
theorem dX9_fits_19 : decode cX9_fits 19 = .ok (.iload_n 1, 1) := by decide +kernel
theorem dX9_fits_20 : decode cX9_fits 20 = .ok (.invokevirtual 119, 3) := by decide +kernel
theorem dX9_fits_23 : decode cX9_fits 23 = .ok (.ifCond .eq 7, 3) := by decide +kernel
theorem dX9_fits_26 : decode cX9_fits 26 = .ok (.iconst 1, 1) := by decide +kernel
theorem dX9_fits_27 : decode cX9_fits 27 = .ok (.goto 4, 3) := by decide +kernel
theorem dX9_fits_30 : decode cX9_fits 30 = .ok (.iconst 0, 1) := by decide +kernel
theorem dX9_fits_31 : decode cX9_fits 31 = .ok (.ireturn, 1) := by decide +kernel
theorem dX9_way_0 : decode cX9_way 0 = .ok (.aload_n 0, 1) := by decide +kernel
theorem dX9_way_1 : decode cX9_way 1 = .ok (.iload_n 1, 1) := by decide +kernel
theorem dX9_way_2 : decode cX9_way 2 = .ok (.aload_n 0, 1) := by decide +kernel
theorem dX9_way_3 : decode cX9_way 3 = .ok (.iload_n 1, 1) := by decide +kernel
theorem dX9_way_4 : decode cX9_way 4 = .ok (.iconst 0, 1) := by decide +kernel
theorem dX9_way_5 : decode cX9_way 5 = .ok (.invokevirtual 75, 3) := by decide +kernel
theorem dX9_way_8 : decode cX9_way 8 = .ok (.aload_n 0, 1) := by decide +kernel
theorem dX9_way_9 : decode cX9_way 9 = .ok (.iload_n 1, 1) := by decide +kernel
theorem dX9_way_10 : decode cX9_way 10 = .ok (.iconst 1, 1) := by decide +kernel
theorem dX9_way_11 : decode cX9_way 11 = .ok (.invokevirtual 75, 3) := by decide +kernel
theorem dX9_way_14 : decode cX9_way 14 = .ok (.aload_n 0, 1) := by decide +kernel
theorem dX9_way_15 : decode cX9_way 15 = .ok (.iload_n 1, 1) := by decide +kernel
theorem dX9_way_16 : decode cX9_way 16 = .ok (.iconst 0, 1) := by decide +kernel
theorem dX9_way_17 : decode cX9_way 17 = .ok (.invokevirtual 79, 3) := by decide +kernel
theorem dX9_way_20 : decode cX9_way 20 = .ok (.aload_n 0, 1) := by decide +kernel
theorem dX9_way_21 : decode cX9_way 21 = .ok (.iload_n 1, 1) := by decide +kernel
theorem dX9_way_22 : decode cX9_way 22 = .ok (.invokevirtual 116, 3) := by decide +kernel
theorem dX9_way_25 : decode cX9_way 25 = .ok (.invokevirtual 93, 3) := by decide +kernel
theorem dX9_way_28 : decode cX9_way 28 = .ok (.ireturn, 1) := by decide +kernel
theorem dX9_growNow_0 : decode cX9_growNow 0 = .ok (.aload_n 0, 1) := by decide +kernel
theorem dX9_growNow_1 : decode cX9_growNow 1 = .ok (.iload_n 1, 1) := by decide +kernel
theorem dX9_growNow_2 : decode cX9_growNow 2 = .ok (.invokevirtual 119, 3) := by decide +kernel
theorem dX9_growNow_5 : decode cX9_growNow 5 = .ok (.ifCond .eq 6, 3) := by decide +kernel
theorem dX9_growNow_8 : decode cX9_growNow 8 = .ok (.bipush 102, 2) := by decide +kernel
theorem dX9_growNow_10 : decode cX9_growNow 10 = .ok (.ireturn, 1) := by decide +kernel
theorem dX9_growNow_11 : decode cX9_growNow 11 = .ok (.aload_n 0, 1) := by decide +kernel
theorem dX9_growNow_12 : decode cX9_growNow 12 = .ok (.getfield 19, 3) := by decide +kernel
theorem dX9_growNow_15 : decode cX9_growNow 15 = .ok (.iload_n 1, 1) := by decide +kernel
theorem dX9_growNow_16 : decode cX9_growNow 16 = .ok (.baload, 1) := by decide +kernel
theorem dX9_growNow_17 : decode cX9_growNow 17 = .ok (.ifCond .eq 6, 3) := by decide +kernel
theorem dX9_growNow_20 : decode cX9_growNow 20 = .ok (.bipush 108, 2) := by decide +kernel
theorem dX9_growNow_22 : decode cX9_growNow 22 = .ok (.ireturn, 1) := by decide +kernel
theorem dX9_growNow_23 : decode cX9_growNow 23 = .ok (.iconst 1, 1) := by decide +kernel
theorem dX9_growNow_24 : decode cX9_growNow 24 = .ok (.aload_n 0, 1) := by decide +kernel
theorem dX9_growNow_25 : decode cX9_growNow 25 = .ok (.iload_n 1, 1) := by decide +kernel
theorem dX9_growNow_26 : decode cX9_growNow 26 = .ok (.iconst 1, 1) := by decide +kernel
theorem dX9_growNow_27 : decode cX9_growNow 27 = .ok (.invokevirtual 75, 3) := by decide +kernel
theorem dX9_growNow_30 : decode cX9_growNow 30 = .ok (.aload_n 0, 1) := by decide +kernel
theorem dX9_growNow_31 : decode cX9_growNow 31 = .ok (.iload_n 1, 1) := by decide +kernel
theorem dX9_growNow_32 : decode cX9_growNow 32 = .ok (.invokevirtual 116, 3) := by decide +kernel
theorem dX9_growNow_35 : decode cX9_growNow 35 = .ok (.invokestatic 86, 3) := by decide +kernel
theorem dX9_growNow_38 : decode cX9_growNow 38 = .ok (.ifCond .ne 8, 3) := by decide +kernel
theorem dX9_growNow_41 : decode cX9_growNow 41 = .ok (.bipush 115, 2) := by decide +kernel
theorem dX9_growNow_43 : decode cX9_growNow 43 = .ok (.goto 19, 3) := by decide +kernel
theorem dX9_growNow_46 : decode cX9_growNow 46 = .ok (.aload_n 0, 1) := by decide +kernel
theorem dX9_growNow_47 : decode cX9_growNow 47 = .ok (.iload_n 1, 1) := by decide +kernel
theorem dX9_growNow_48 : decode cX9_growNow 48 = .ok (.invokevirtual 122, 3) := by decide +kernel
theorem dX9_growNow_51 : decode cX9_growNow 51 = .ok (.iconst (-1), 1) := by decide +kernel
theorem dX9_growNow_52 : decode cX9_growNow 52 = .ok (.if_icmp .ne 8, 3) := by decide +kernel
theorem dX9_growNow_55 : decode cX9_growNow 55 = .ok (.bipush 110, 2) := by decide +kernel
theorem dX9_growNow_57 : decode cX9_growNow 57 = .ok (.goto 5, 3) := by decide +kernel
theorem dX9_growNow_60 : decode cX9_growNow 60 = .ok (.bipush 111, 2) := by decide +kernel
theorem dX9_growNow_62 : decode cX9_growNow 62 = .ok (.ireturn, 1) := by decide +kernel
theorem dX9_grow_0 : decode cX9_grow 0 = .ok (.aload_n 0, 1) := by decide +kernel
theorem dX9_grow_1 : decode cX9_grow 1 = .ok (.iconst 0, 1) := by decide +kernel
theorem dX9_grow_2 : decode cX9_grow 2 = .ok (.putfield 60, 3) := by decide +kernel
theorem dX9_grow_5 : decode cX9_grow 5 = .ok (.aload_n 0, 1) := by decide +kernel
theorem dX9_grow_6 : decode cX9_grow 6 = .ok (.aload_n 0, 1) := by decide +kernel
theorem dX9_grow_7 : decode cX9_grow 7 = .ok (.iload_n 1, 1) := by decide +kernel
theorem dX9_grow_8 : decode cX9_grow 8 = .ok (.invokevirtual 97, 3) := by decide +kernel
theorem dX9_grow_11 : decode cX9_grow 11 = .ok (.iconst 1, 1) := by decide +kernel
theorem dX9_grow_12 : decode cX9_grow 12 = .ok (.invokevirtual 89, 3) := by decide +kernel
theorem dX9_grow_15 : decode cX9_grow 15 = .ok (.ifCond .eq 5, 3) := by decide +kernel
theorem dX9_grow_18 : decode cX9_grow 18 = .ok (.iconst 0, 1) := by decide +kernel
theorem dX9_grow_19 : decode cX9_grow 19 = .ok (.ireturn, 1) := by decide +kernel
theorem dX9_grow_20 : decode cX9_grow 20 = .ok (.aload_n 0, 1) := by decide +kernel
theorem dX9_grow_21 : decode cX9_grow 21 = .ok (.iload_n 1, 1) := by decide +kernel
theorem dX9_grow_22 : decode cX9_grow 22 = .ok (.invokevirtual 125, 3) := by decide +kernel
theorem dX9_grow_25 : decode cX9_grow 25 = .ok (.istore_n 2, 1) := by decide +kernel
theorem dX9_grow_26 : decode cX9_grow 26 = .ok (.aload_n 0, 1) := by decide +kernel
theorem dX9_grow_27 : decode cX9_grow 27 = .ok (.iload_n 2, 1) := by decide +kernel
theorem dX9_grow_28 : decode cX9_grow 28 = .ok (.bipush 102, 2) := by decide +kernel
theorem dX9_grow_30 : decode cX9_grow 30 = .ok (.if_icmp .ne 7, 3) := by decide +kernel
theorem dX9_grow_33 : decode cX9_grow 33 = .ok (.iconst 1, 1) := by decide +kernel
theorem dX9_grow_34 : decode cX9_grow 34 = .ok (.goto 4, 3) := by decide +kernel
theorem dX9_grow_37 : decode cX9_grow 37 = .ok (.iconst 0, 1) := by decide +kernel
theorem dX9_grow_38 : decode cX9_grow 38 = .ok (.iconst 2, 1) := by decide +kernel
theorem dX9_grow_39 : decode cX9_grow 39 = .ok (.invokevirtual 89, 3) := by decide +kernel
theorem dX9_grow_42 : decode cX9_grow 42 = .ok (.ifCond .ne 41, 3) := by decide +kernel
theorem dX9_grow_45 : decode cX9_grow 45 = .ok (.aload_n 0, 1) := by decide +kernel
theorem dX9_grow_46 : decode cX9_grow 46 = .ok (.iload_n 2, 1) := by decide +kernel
theorem dX9_grow_47 : decode cX9_grow 47 = .ok (.bipush 108, 2) := by decide +kernel
theorem dX9_grow_49 : decode cX9_grow 49 = .ok (.if_icmp .ne 7, 3) := by decide +kernel
theorem dX9_grow_52 : decode cX9_grow 52 = .ok (.iconst 1, 1) := by decide +kernel
theorem dX9_grow_53 : decode cX9_grow 53 = .ok (.goto 4, 3) := by decide +kernel
theorem dX9_grow_56 : decode cX9_grow 56 = .ok (.iconst 0, 1) := by decide +kernel
theorem dX9_grow_57 : decode cX9_grow 57 = .ok (.iconst 3, 1) := by decide +kernel
theorem dX9_grow_58 : decode cX9_grow 58 = .ok (.invokevirtual 89, 3) := by decide +kernel
theorem dX9_grow_61 : decode cX9_grow 61 = .ok (.ifCond .ne 22, 3) := by decide +kernel
theorem dX9_grow_64 : decode cX9_grow 64 = .ok (.aload_n 0, 1) := by decide +kernel
theorem dX9_grow_65 : decode cX9_grow 65 = .ok (.iload_n 2, 1) := by decide +kernel
theorem dX9_grow_66 : decode cX9_grow 66 = .ok (.bipush 110, 2) := by decide +kernel
theorem dX9_grow_68 : decode cX9_grow 68 = .ok (.if_icmp .eq 7, 3) := by decide +kernel
theorem dX9_grow_71 : decode cX9_grow 71 = .ok (.iconst 1, 1) := by decide +kernel
theorem dX9_grow_72 : decode cX9_grow 72 = .ok (.goto 4, 3) := by decide +kernel
theorem dX9_grow_75 : decode cX9_grow 75 = .ok (.iconst 0, 1) := by decide +kernel
theorem dX9_grow_76 : decode cX9_grow 76 = .ok (.iconst 4, 1) := by decide +kernel
theorem dX9_grow_77 : decode cX9_grow 77 = .ok (.invokevirtual 89, 3) := by decide +kernel
theorem dX9_grow_80 : decode cX9_grow 80 = .ok (.ifCond .eq 5, 3) := by decide +kernel
theorem dX9_grow_83 : decode cX9_grow 83 = .ok (.iconst 0, 1) := by decide +kernel
theorem dX9_grow_84 : decode cX9_grow 84 = .ok (.ireturn, 1) := by decide +kernel
theorem dX9_grow_85 : decode cX9_grow 85 = .ok (.aload_n 0, 1) := by decide +kernel
theorem dX9_grow_86 : decode cX9_grow 86 = .ok (.getfield 13, 3) := by decide +kernel
theorem dX9_grow_89 : decode cX9_grow 89 = .ok (.iconst 2, 1) := by decide +kernel
theorem dX9_grow_90 : decode cX9_grow 90 = .ok (.iload_n 1, 1) := by decide +kernel
theorem dX9_grow_91 : decode cX9_grow 91 = .ok (.imul, 1) := by decide +kernel
theorem dX9_grow_92 : decode cX9_grow 92 = .ok (.iconst 1, 1) := by decide +kernel
theorem dX9_grow_93 : decode cX9_grow 93 = .ok (.iadd, 1) := by decide +kernel
theorem dX9_grow_94 : decode cX9_grow 94 = .ok (.aload_n 0, 1) := by decide +kernel
theorem dX9_grow_95 : decode cX9_grow 95 = .ok (.iload_n 1, 1) := by decide +kernel
theorem dX9_grow_96 : decode cX9_grow 96 = .ok (.invokevirtual 116, 3) := by decide +kernel
theorem dX9_grow_99 : decode cX9_grow 99 = .ok (.iastore, 1) := by decide +kernel
theorem dX9_grow_100 : decode cX9_grow 100 = .ok (.aload_n 0, 1) := by decide +kernel
theorem dX9_grow_101 : decode cX9_grow 101 = .ok (.iload_n 1, 1) := by decide +kernel
theorem dX9_grow_102 : decode cX9_grow 102 = .ok (.invokevirtual 116, 3) := by decide +kernel
theorem dX9_grow_105 : decode cX9_grow 105 = .ok (.ireturn, 1) := by decide +kernel
theorem dX9_growReason_0 : decode cX9_growReason 0 = .ok (.aload_n 0, 1) := by decide +kernel
theorem dX9_growReason_1 : decode cX9_growReason 1 = .ok (.iconst 0, 1) := by decide +kernel
theorem dX9_growReason_2 : decode cX9_growReason 2 = .ok (.putfield 60, 3) := by decide +kernel
theorem dX9_growReason_5 : decode cX9_growReason 5 = .ok (.aload_n 0, 1) := by decide +kernel
theorem dX9_growReason_6 : decode cX9_growReason 6 = .ok (.aload_n 0, 1) := by decide +kernel
theorem dX9_growReason_7 : decode cX9_growReason 7 = .ok (.iload_n 1, 1) := by decide +kernel
theorem dX9_growReason_8 : decode cX9_growReason 8 = .ok (.invokevirtual 97, 3) := by decide +kernel
theorem dX9_growReason_11 : decode cX9_growReason 11 = .ok (.iconst 1, 1) := by decide +kernel
theorem dX9_growReason_12 : decode cX9_growReason 12 = .ok (.invokevirtual 89, 3) := by decide +kernel
theorem dX9_growReason_15 : decode cX9_growReason 15 = .ok (.ifCond .eq 7, 3) := by decide +kernel
theorem dX9_growReason_18 : decode cX9_growReason 18 = .ok (.iconst 0, 1) := by decide +kernel
theorem dX9_growReason_19 : decode cX9_growReason 19 = .ok (.goto 8, 3) := by decide +kernel
theorem dX9_growReason_22 : decode cX9_growReason 22 = .ok (.aload_n 0, 1) := by decide +kernel
theorem dX9_growReason_23 : decode cX9_growReason 23 = .ok (.iload_n 1, 1) := by decide +kernel
theorem dX9_growReason_24 : decode cX9_growReason 24 = .ok (.invokevirtual 125, 3) := by decide +kernel
theorem dX9_growReason_27 : decode cX9_growReason 27 = .ok (.ireturn, 1) := by decide +kernel
theorem dX9_inTheWay_0 : decode cX9_inTheWay 0 = .ok (.aload_n 0, 1) := by decide +kernel
theorem dX9_inTheWay_1 : decode cX9_inTheWay 1 = .ok (.iconst 0, 1) := by decide +kernel
theorem dX9_inTheWay_2 : decode cX9_inTheWay 2 = .ok (.putfield 60, 3) := by decide +kernel
theorem dX9_inTheWay_5 : decode cX9_inTheWay 5 = .ok (.aload_n 0, 1) := by decide +kernel
theorem dX9_inTheWay_6 : decode cX9_inTheWay 6 = .ok (.aload_n 0, 1) := by decide +kernel
theorem dX9_inTheWay_7 : decode cX9_inTheWay 7 = .ok (.iload_n 1, 1) := by decide +kernel
theorem dX9_inTheWay_8 : decode cX9_inTheWay 8 = .ok (.invokevirtual 97, 3) := by decide +kernel
theorem dX9_inTheWay_11 : decode cX9_inTheWay 11 = .ok (.iconst 1, 1) := by decide +kernel
theorem dX9_inTheWay_12 : decode cX9_inTheWay 12 = .ok (.invokevirtual 89, 3) := by decide +kernel
theorem dX9_inTheWay_15 : decode cX9_inTheWay 15 = .ok (.ifCond .ne 51, 3) := by decide +kernel
theorem dX9_inTheWay_18 : decode cX9_inTheWay 18 = .ok (.aload_n 0, 1) := by decide +kernel
theorem dX9_inTheWay_19 : decode cX9_inTheWay 19 = .ok (.aload_n 0, 1) := by decide +kernel
theorem dX9_inTheWay_20 : decode cX9_inTheWay 20 = .ok (.iload_n 1, 1) := by decide +kernel
theorem dX9_inTheWay_21 : decode cX9_inTheWay 21 = .ok (.invokevirtual 119, 3) := by decide +kernel
theorem dX9_inTheWay_24 : decode cX9_inTheWay 24 = .ok (.ifCond .ne 30, 3) := by decide +kernel
theorem dX9_inTheWay_27 : decode cX9_inTheWay 27 = .ok (.iconst 1, 1) := by decide +kernel
theorem dX9_inTheWay_28 : decode cX9_inTheWay 28 = .ok (.aload_n 0, 1) := by decide +kernel
theorem dX9_inTheWay_29 : decode cX9_inTheWay 29 = .ok (.iload_n 1, 1) := by decide +kernel
theorem dX9_inTheWay_30 : decode cX9_inTheWay 30 = .ok (.iconst 1, 1) := by decide +kernel
theorem dX9_inTheWay_31 : decode cX9_inTheWay 31 = .ok (.invokevirtual 75, 3) := by decide +kernel
theorem dX9_inTheWay_34 : decode cX9_inTheWay 34 = .ok (.aload_n 0, 1) := by decide +kernel
theorem dX9_inTheWay_35 : decode cX9_inTheWay 35 = .ok (.iload_n 1, 1) := by decide +kernel
theorem dX9_inTheWay_36 : decode cX9_inTheWay 36 = .ok (.invokevirtual 116, 3) := by decide +kernel
theorem dX9_inTheWay_39 : decode cX9_inTheWay 39 = .ok (.invokestatic 86, 3) := by decide +kernel
theorem dX9_inTheWay_42 : decode cX9_inTheWay 42 = .ok (.ifCond .eq 12, 3) := by decide +kernel
theorem dX9_inTheWay_45 : decode cX9_inTheWay 45 = .ok (.aload_n 0, 1) := by decide +kernel
theorem dX9_inTheWay_46 : decode cX9_inTheWay 46 = .ok (.iload_n 1, 1) := by decide +kernel
theorem dX9_inTheWay_47 : decode cX9_inTheWay 47 = .ok (.invokevirtual 122, 3) := by decide +kernel
theorem dX9_inTheWay_50 : decode cX9_inTheWay 50 = .ok (.iconst (-1), 1) := by decide +kernel
theorem dX9_inTheWay_51 : decode cX9_inTheWay 51 = .ok (.if_icmp .ne 7, 3) := by decide +kernel
theorem dX9_inTheWay_54 : decode cX9_inTheWay 54 = .ok (.iconst 1, 1) := by decide +kernel
theorem dX9_inTheWay_55 : decode cX9_inTheWay 55 = .ok (.goto 4, 3) := by decide +kernel
theorem dX9_inTheWay_58 : decode cX9_inTheWay 58 = .ok (.iconst 0, 1) := by decide +kernel
theorem dX9_inTheWay_59 : decode cX9_inTheWay 59 = .ok (.iconst 2, 1) := by decide +kernel
theorem dX9_inTheWay_60 : decode cX9_inTheWay 60 = .ok (.invokevirtual 89, 3) := by decide +kernel
theorem dX9_inTheWay_63 : decode cX9_inTheWay 63 = .ok (.ifCond .eq 5, 3) := by decide +kernel
theorem dX9_inTheWay_66 : decode cX9_inTheWay 66 = .ok (.iconst 0, 1) := by decide +kernel
theorem dX9_inTheWay_67 : decode cX9_inTheWay 67 = .ok (.ireturn, 1) := by decide +kernel
theorem dX9_inTheWay_68 : decode cX9_inTheWay 68 = .ok (.aload_n 0, 1) := by decide +kernel
theorem dX9_inTheWay_69 : decode cX9_inTheWay 69 = .ok (.iload_n 1, 1) := by decide +kernel
theorem dX9_inTheWay_70 : decode cX9_inTheWay 70 = .ok (.invokevirtual 122, 3) := by decide +kernel
theorem dX9_inTheWay_73 : decode cX9_inTheWay 73 = .ok (.ireturn, 1) := by decide +kernel
theorem dX9_axisOfKind_0 : decode cX9_axisOfKind 0 = .ok (.iload_n 0, 1) := by decide +kernel
theorem dX9_axisOfKind_1 : decode cX9_axisOfKind 1 = .ok (.bipush 108, 2) := by decide +kernel
theorem dX9_axisOfKind_3 : decode cX9_axisOfKind 3 = .ok (.if_icmp .eq 15, 3) := by decide +kernel
theorem dX9_axisOfKind_6 : decode cX9_axisOfKind 6 = .ok (.iload_n 0, 1) := by decide +kernel
theorem dX9_axisOfKind_7 : decode cX9_axisOfKind 7 = .ok (.bipush 99, 2) := by decide +kernel
theorem dX9_axisOfKind_9 : decode cX9_axisOfKind 9 = .ok (.if_icmp .eq 9, 3) := by decide +kernel
theorem dX9_axisOfKind_12 : decode cX9_axisOfKind 12 = .ok (.iload_n 0, 1) := by decide +kernel
theorem dX9_axisOfKind_13 : decode cX9_axisOfKind 13 = .ok (.bipush 114, 2) := by decide +kernel
theorem dX9_axisOfKind_15 : decode cX9_axisOfKind 15 = .ok (.if_icmp .ne 7, 3) := by decide +kernel
theorem dX9_axisOfKind_18 : decode cX9_axisOfKind 18 = .ok (.iconst 0, 1) := by decide +kernel
theorem dX9_axisOfKind_19 : decode cX9_axisOfKind 19 = .ok (.goto 26, 3) := by decide +kernel
theorem dX9_axisOfKind_22 : decode cX9_axisOfKind 22 = .ok (.iload_n 0, 1) := by decide +kernel
theorem dX9_axisOfKind_23 : decode cX9_axisOfKind 23 = .ok (.bipush 116, 2) := by decide +kernel
theorem dX9_axisOfKind_25 : decode cX9_axisOfKind 25 = .ok (.if_icmp .eq 15, 3) := by decide +kernel
theorem dX9_axisOfKind_28 : decode cX9_axisOfKind 28 = .ok (.iload_n 0, 1) := by decide +kernel
theorem dX9_axisOfKind_29 : decode cX9_axisOfKind 29 = .ok (.bipush 109, 2) := by decide +kernel
theorem dX9_axisOfKind_31 : decode cX9_axisOfKind 31 = .ok (.if_icmp .eq 9, 3) := by decide +kernel
theorem dX9_axisOfKind_34 : decode cX9_axisOfKind 34 = .ok (.iload_n 0, 1) := by decide +kernel
theorem dX9_axisOfKind_35 : decode cX9_axisOfKind 35 = .ok (.bipush 98, 2) := by decide +kernel
theorem dX9_axisOfKind_37 : decode cX9_axisOfKind 37 = .ok (.if_icmp .ne 7, 3) := by decide +kernel
theorem dX9_axisOfKind_40 : decode cX9_axisOfKind 40 = .ok (.iconst 1, 1) := by decide +kernel
theorem dX9_axisOfKind_41 : decode cX9_axisOfKind 41 = .ok (.goto 4, 3) := by decide +kernel
theorem dX9_axisOfKind_44 : decode cX9_axisOfKind 44 = .ok (.iconst (-1), 1) := by decide +kernel
theorem dX9_axisOfKind_45 : decode cX9_axisOfKind 45 = .ok (.ireturn, 1) := by decide +kernel
theorem dX9_addWish_0 : decode cX9_addWish 0 = .ok (.aload_n 0, 1) := by decide +kernel
theorem dX9_addWish_1 : decode cX9_addWish 1 = .ok (.iconst 0, 1) := by decide +kernel
theorem dX9_addWish_2 : decode cX9_addWish 2 = .ok (.putfield 60, 3) := by decide +kernel
theorem dX9_addWish_5 : decode cX9_addWish 5 = .ok (.aload_n 0, 1) := by decide +kernel
theorem dX9_addWish_6 : decode cX9_addWish 6 = .ok (.aload_n 0, 1) := by decide +kernel
theorem dX9_addWish_7 : decode cX9_addWish 7 = .ok (.iload_n 2, 1) := by decide +kernel
theorem dX9_addWish_8 : decode cX9_addWish 8 = .ok (.invokevirtual 97, 3) := by decide +kernel
theorem dX9_addWish_11 : decode cX9_addWish 11 = .ok (.ifCond .ne 11, 3) := by decide +kernel
theorem dX9_addWish_14 : decode cX9_addWish 14 = .ok (.aload_n 0, 1) := by decide +kernel
theorem dX9_addWish_15 : decode cX9_addWish 15 = .ok (.iload_n 3, 1) := by decide +kernel
theorem dX9_addWish_16 : decode cX9_addWish 16 = .ok (.invokevirtual 97, 3) := by decide +kernel
theorem dX9_addWish_19 : decode cX9_addWish 19 = .ok (.ifCond .eq 7, 3) := by decide +kernel
theorem dX9_addWish_22 : decode cX9_addWish 22 = .ok (.iconst 1, 1) := by decide +kernel
theorem dX9_addWish_23 : decode cX9_addWish 23 = .ok (.goto 4, 3) := by decide +kernel
theorem dX9_addWish_26 : decode cX9_addWish 26 = .ok (.iconst 0, 1) := by decide +kernel
theorem dX9_addWish_27 : decode cX9_addWish 27 = .ok (.iconst 1, 1) := by decide +kernel
theorem dX9_addWish_28 : decode cX9_addWish 28 = .ok (.invokevirtual 89, 3) := by decide +kernel
theorem dX9_addWish_31 : decode cX9_addWish 31 = .ok (.ifCond .ne 62, 3) := by decide +kernel
theorem dX9_addWish_34 : decode cX9_addWish 34 = .ok (.aload_n 0, 1) := by decide +kernel
theorem dX9_addWish_35 : decode cX9_addWish 35 = .ok (.iload_n 1, 1) := by decide +kernel
theorem dX9_addWish_36 : decode cX9_addWish 36 = .ok (.invokestatic 129, 3) := by decide +kernel
theorem dX9_addWish_39 : decode cX9_addWish 39 = .ok (.iconst (-1), 1) := by decide +kernel
theorem dX9_addWish_40 : decode cX9_addWish 40 = .ok (.if_icmp .eq 19, 3) := by decide +kernel
theorem dX9_addWish_43 : decode cX9_addWish 43 = .ok (.iload_n 2, 1) := by decide +kernel
theorem dX9_addWish_44 : decode cX9_addWish 44 = .ok (.iload_n 3, 1) := by decide +kernel
theorem dX9_addWish_45 : decode cX9_addWish 45 = .ok (.if_icmp .eq 14, 3) := by decide +kernel
theorem dX9_addWish_48 : decode cX9_addWish 48 = .ok (.iload 4, 2) := by decide +kernel
theorem dX9_addWish_50 : decode cX9_addWish 50 = .ok (.iconst 1, 1) := by decide +kernel
theorem dX9_addWish_51 : decode cX9_addWish 51 = .ok (.bipush 9, 2) := by decide +kernel
theorem dX9_addWish_53 : decode cX9_addWish 53 = .ok (.invokestatic 67, 3) := by decide +kernel
theorem dX9_addWish_56 : decode cX9_addWish 56 = .ok (.ifCond .ne 7, 3) := by decide +kernel
theorem dX9_addWish_59 : decode cX9_addWish 59 = .ok (.iconst 1, 1) := by decide +kernel
theorem dX9_addWish_60 : decode cX9_addWish 60 = .ok (.goto 4, 3) := by decide +kernel
theorem dX9_addWish_63 : decode cX9_addWish 63 = .ok (.iconst 0, 1) := by decide +kernel
theorem dX9_addWish_64 : decode cX9_addWish 64 = .ok (.iconst 2, 1) := by decide +kernel
theorem dX9_addWish_65 : decode cX9_addWish 65 = .ok (.invokevirtual 89, 3) := by decide +kernel
theorem dX9_addWish_68 : decode cX9_addWish 68 = .ok (.ifCond .ne 25, 3) := by decide +kernel
theorem dX9_addWish_71 : decode cX9_addWish 71 = .ok (.aload_n 0, 1) := by decide +kernel
theorem dX9_addWish_72 : decode cX9_addWish 72 = .ok (.aload_n 0, 1) := by decide +kernel
theorem dX9_addWish_73 : decode cX9_addWish 73 = .ok (.getfield 132, 3) := by decide +kernel
theorem dX9_addWish_76 : decode cX9_addWish 76 = .ok (.bipush 8, 2) := by decide +kernel
theorem dX9_addWish_78 : decode cX9_addWish 78 = .ok (.if_icmp .ne 7, 3) := by decide +kernel
theorem dX9_addWish_81 : decode cX9_addWish 81 = .ok (.iconst 1, 1) := by decide +kernel
theorem dX9_addWish_82 : decode cX9_addWish 82 = .ok (.goto 4, 3) := by decide +kernel
theorem dX9_addWish_85 : decode cX9_addWish 85 = .ok (.iconst 0, 1) := by decide +kernel
theorem dX9_addWish_86 : decode cX9_addWish 86 = .ok (.iconst 3, 1) := by decide +kernel
theorem dX9_addWish_87 : decode cX9_addWish 87 = .ok (.invokevirtual 89, 3) := by decide +kernel
theorem dX9_addWish_90 : decode cX9_addWish 90 = .ok (.ifCond .eq 5, 3) := by decide +kernel
theorem dX9_addWish_93 : decode cX9_addWish 93 = .ok (.iconst 0, 1) := by decide +kernel
theorem dX9_addWish_94 : decode cX9_addWish 94 = .ok (.ireturn, 1) := by decide +kernel
theorem dX9_addWish_95 : decode cX9_addWish 95 = .ok (.aload_n 0, 1) := by decide +kernel
theorem dX9_addWish_96 : decode cX9_addWish 96 = .ok (.getfield 23, 3) := by decide +kernel
theorem dX9_addWish_99 : decode cX9_addWish 99 = .ok (.aload_n 0, 1) := by decide +kernel
theorem dX9_addWish_100 : decode cX9_addWish 100 = .ok (.getfield 132, 3) := by decide +kernel
theorem dX9_addWish_103 : decode cX9_addWish 103 = .ok (.iload_n 1, 1) := by decide +kernel
theorem dX9_addWish_104 : decode cX9_addWish 104 = .ok (.castore, 1) := by decide +kernel
theorem dX9_addWish_105 : decode cX9_addWish 105 = .ok (.aload_n 0, 1) := by decide +kernel
theorem dX9_addWish_106 : decode cX9_addWish 106 = .ok (.getfield 27, 3) := by decide +kernel
theorem dX9_addWish_109 : decode cX9_addWish 109 = .ok (.aload_n 0, 1) := by decide +kernel
theorem dX9_addWish_110 : decode cX9_addWish 110 = .ok (.getfield 132, 3) := by decide +kernel
theorem dX9_addWish_113 : decode cX9_addWish 113 = .ok (.iload_n 2, 1) := by decide +kernel
theorem dX9_addWish_114 : decode cX9_addWish 114 = .ok (.iastore, 1) := by decide +kernel
theorem dX9_addWish_115 : decode cX9_addWish 115 = .ok (.aload_n 0, 1) := by decide +kernel
theorem dX9_addWish_116 : decode cX9_addWish 116 = .ok (.getfield 30, 3) := by decide +kernel
theorem dX9_addWish_119 : decode cX9_addWish 119 = .ok (.aload_n 0, 1) := by decide +kernel
theorem dX9_addWish_120 : decode cX9_addWish 120 = .ok (.getfield 132, 3) := by decide +kernel
theorem dX9_addWish_123 : decode cX9_addWish 123 = .ok (.iload_n 3, 1) := by decide +kernel
theorem dX9_addWish_124 : decode cX9_addWish 124 = .ok (.iastore, 1) := by decide +kernel
theorem dX9_addWish_125 : decode cX9_addWish 125 = .ok (.aload_n 0, 1) := by decide +kernel
theorem dX9_addWish_126 : decode cX9_addWish 126 = .ok (.getfield 33, 3) := by decide +kernel
theorem dX9_addWish_129 : decode cX9_addWish 129 = .ok (.aload_n 0, 1) := by decide +kernel
theorem dX9_addWish_130 : decode cX9_addWish 130 = .ok (.getfield 132, 3) := by decide +kernel
theorem dX9_addWish_133 : decode cX9_addWish 133 = .ok (.iload 4, 2) := by decide +kernel
theorem dX9_addWish_135 : decode cX9_addWish 135 = .ok (.iastore, 1) := by decide +kernel
theorem dX9_addWish_136 : decode cX9_addWish 136 = .ok (.aload_n 0, 1) := by decide +kernel
theorem dX9_addWish_137 : decode cX9_addWish 137 = .ok (.dup, 1) := by decide +kernel
theorem dX9_addWish_138 : decode cX9_addWish 138 = .ok (.getfield 132, 3) := by decide +kernel
theorem dX9_addWish_141 : decode cX9_addWish 141 = .ok (.iconst 1, 1) := by decide +kernel
theorem dX9_addWish_142 : decode cX9_addWish 142 = .ok (.iadd, 1) := by decide +kernel
theorem dX9_addWish_143 : decode cX9_addWish 143 = .ok (.putfield 132, 3) := by decide +kernel
theorem dX9_addWish_146 : decode cX9_addWish 146 = .ok (.aload_n 0, 1) := by decide +kernel
theorem dX9_addWish_147 : decode cX9_addWish 147 = .ok (.getfield 132, 3) := by decide +kernel
theorem dX9_addWish_150 : decode cX9_addWish 150 = .ok (.iconst 1, 1) := by decide +kernel
theorem dX9_addWish_151 : decode cX9_addWish 151 = .ok (.isub, 1) := by decide +kernel
theorem dX9_addWish_152 : decode cX9_addWish 152 = .ok (.ireturn, 1) := by decide +kernel
theorem dX9_noWish_0 : decode cX9_noWish 0 = .ok (.iload_n 1, 1) := by decide +kernel
theorem dX9_noWish_1 : decode cX9_noWish 1 = .ok (.iconst 0, 1) := by decide +kernel
theorem dX9_noWish_2 : decode cX9_noWish 2 = .ok (.aload_n 0, 1) := by decide +kernel
theorem dX9_noWish_3 : decode cX9_noWish 3 = .ok (.getfield 132, 3) := by decide +kernel
theorem dX9_noWish_6 : decode cX9_noWish 6 = .ok (.iconst 1, 1) := by decide +kernel
theorem dX9_noWish_7 : decode cX9_noWish 7 = .ok (.isub, 1) := by decide +kernel
theorem dX9_noWish_8 : decode cX9_noWish 8 = .ok (.invokestatic 67, 3) := by decide +kernel
theorem dX9_noWish_11 : decode cX9_noWish 11 = .ok (.ifCond .eq 12, 3) := by decide +kernel
theorem dX9_noWish_14 : decode cX9_noWish 14 = .ok (.aload_n 0, 1) := by decide +kernel
theorem dX9_noWish_15 : decode cX9_noWish 15 = .ok (.getfield 36, 3) := by decide +kernel
theorem dX9_noWish_18 : decode cX9_noWish 18 = .ok (.iload_n 1, 1) := by decide +kernel
theorem dX9_noWish_19 : decode cX9_noWish 19 = .ok (.baload, 1) := by decide +kernel
theorem dX9_noWish_20 : decode cX9_noWish 20 = .ok (.ifCond .eq 7, 3) := by decide +kernel
theorem dX9_noWish_23 : decode cX9_noWish 23 = .ok (.iconst 1, 1) := by decide +kernel
theorem dX9_noWish_24 : decode cX9_noWish 24 = .ok (.goto 4, 3) := by decide +kernel
theorem dX9_noWish_27 : decode cX9_noWish 27 = .ok (.iconst 0, 1) := by decide +kernel
theorem dX9_noWish_28 : decode cX9_noWish 28 = .ok (.ireturn, 1) := by decide +kernel
theorem dX9_dropWish_0 : decode cX9_dropWish 0 = .ok (.aload_n 0, 1) := by decide +kernel
theorem dX9_dropWish_1 : decode cX9_dropWish 1 = .ok (.iconst 0, 1) := by decide +kernel
theorem dX9_dropWish_2 : decode cX9_dropWish 2 = .ok (.putfield 60, 3) := by decide +kernel
theorem dX9_dropWish_5 : decode cX9_dropWish 5 = .ok (.aload_n 0, 1) := by decide +kernel
theorem dX9_dropWish_6 : decode cX9_dropWish 6 = .ok (.aload_n 0, 1) := by decide +kernel
theorem dX9_dropWish_7 : decode cX9_dropWish 7 = .ok (.iload_n 1, 1) := by decide +kernel
theorem dX9_dropWish_8 : decode cX9_dropWish 8 = .ok (.invokevirtual 135, 3) := by decide +kernel
theorem dX9_dropWish_11 : decode cX9_dropWish 11 = .ok (.iconst 1, 1) := by decide +kernel
theorem dX9_dropWish_12 : decode cX9_dropWish 12 = .ok (.invokevirtual 89, 3) := by decide +kernel
theorem dX9_dropWish_15 : decode cX9_dropWish 15 = .ok (.ifCond .eq 5, 3) := by decide +kernel
theorem dX9_dropWish_18 : decode cX9_dropWish 18 = .ok (.iconst 0, 1) := by decide +kernel
theorem dX9_dropWish_19 : decode cX9_dropWish 19 = .ok (.ireturn, 1) := by decide +kernel
theorem dX9_dropWish_20 : decode cX9_dropWish 20 = .ok (.aload_n 0, 1) := by decide +kernel
theorem dX9_dropWish_21 : decode cX9_dropWish 21 = .ok (.getfield 36, 3) := by decide +kernel
theorem dX9_dropWish_24 : decode cX9_dropWish 24 = .ok (.iload_n 1, 1) := by decide +kernel
theorem dX9_dropWish_25 : decode cX9_dropWish 25 = .ok (.iconst 1, 1) := by decide +kernel
theorem dX9_dropWish_26 : decode cX9_dropWish 26 = .ok (.bastore, 1) := by decide +kernel
theorem dX9_dropWish_27 : decode cX9_dropWish 27 = .ok (.iconst 0, 1) := by decide +kernel
theorem dX9_dropWish_28 : decode cX9_dropWish 28 = .ok (.istore_n 2, 1) := by decide +kernel
theorem dX9_dropWish_29 : decode cX9_dropWish 29 = .ok (.iconst 0, 1) := by decide +kernel
theorem dX9_dropWish_30 : decode cX9_dropWish 30 = .ok (.istore_n 3, 1) := by decide +kernel
theorem dX9_dropWish_31 : decode cX9_dropWish 31 = .ok (.iload_n 3, 1) := by decide +kernel
theorem dX9_dropWish_32 : decode cX9_dropWish 32 = .ok (.aload_n 0, 1) := by decide +kernel
theorem dX9_dropWish_33 : decode cX9_dropWish 33 = .ok (.getfield 132, 3) := by decide +kernel
theorem dX9_dropWish_36 : decode cX9_dropWish 36 = .ok (.if_icmp .ge 26, 3) := by decide +kernel
theorem dX9_dropWish_39 : decode cX9_dropWish 39 = .ok (.iload_n 2, 1) := by decide +kernel
theorem dX9_dropWish_40 : decode cX9_dropWish 40 = .ok (.aload_n 0, 1) := by decide +kernel
theorem dX9_dropWish_41 : decode cX9_dropWish 41 = .ok (.getfield 36, 3) := by decide +kernel
theorem dX9_dropWish_44 : decode cX9_dropWish 44 = .ok (.iload_n 3, 1) := by decide +kernel
theorem dX9_dropWish_45 : decode cX9_dropWish 45 = .ok (.baload, 1) := by decide +kernel
theorem dX9_dropWish_46 : decode cX9_dropWish 46 = .ok (.ifCond .eq 7, 3) := by decide +kernel
theorem dX9_dropWish_49 : decode cX9_dropWish 49 = .ok (.iconst 0, 1) := by decide +kernel
theorem dX9_dropWish_50 : decode cX9_dropWish 50 = .ok (.goto 4, 3) := by decide +kernel
theorem dX9_dropWish_53 : decode cX9_dropWish 53 = .ok (.iconst 1, 1) := by decide +kernel
theorem dX9_dropWish_54 : decode cX9_dropWish 54 = .ok (.iadd, 1) := by decide +kernel
theorem dX9_dropWish_55 : decode cX9_dropWish 55 = .ok (.istore_n 2, 1) := by decide +kernel
theorem dX9_dropWish_56 : decode cX9_dropWish 56 = .ok (.iinc 3 1, 3) := by decide +kernel
theorem dX9_dropWish_59 : decode cX9_dropWish 59 = .ok (.goto (-28), 3) := by decide +kernel
theorem dX9_dropWish_62 : decode cX9_dropWish 62 = .ok (.iload_n 2, 1) := by decide +kernel
theorem dX9_dropWish_63 : decode cX9_dropWish 63 = .ok (.ireturn, 1) := by decide +kernel
theorem dX9_feature_0 : decode cX9_feature 0 = .ok (.aload_n 0, 1) := by decide +kernel
theorem dX9_feature_1 : decode cX9_feature 1 = .ok (.iload_n 2, 1) := by decide +kernel
theorem dX9_feature_2 : decode cX9_feature 2 = .ok (.aload_n 0, 1) := by decide +kernel
theorem dX9_feature_3 : decode cX9_feature 3 = .ok (.getfield 23, 3) := by decide +kernel
theorem dX9_feature_6 : decode cX9_feature 6 = .ok (.iload_n 1, 1) := by decide +kernel
theorem dX9_feature_7 : decode cX9_feature 7 = .ok (.caload, 1) := by decide +kernel
theorem dX9_feature_8 : decode cX9_feature 8 = .ok (.invokestatic 129, 3) := by decide +kernel
theorem dX9_feature_11 : decode cX9_feature 11 = .ok (.invokevirtual 79, 3) := by decide +kernel
theorem dX9_feature_14 : decode cX9_feature 14 = .ok (.istore 4, 2) := by decide +kernel
theorem dX9_feature_16 : decode cX9_feature 16 = .ok (.aload_n 0, 1) := by decide +kernel
theorem dX9_feature_17 : decode cX9_feature 17 = .ok (.getfield 23, 3) := by decide +kernel
theorem dX9_feature_20 : decode cX9_feature 20 = .ok (.iload_n 1, 1) := by decide +kernel
theorem dX9_feature_21 : decode cX9_feature 21 = .ok (.caload, 1) := by decide +kernel
theorem dX9_feature_22 : decode cX9_feature 22 = .ok (.bipush 108, 2) := by decide +kernel
theorem dX9_feature_24 : decode cX9_feature 24 = .ok (.if_icmp .eq 14, 3) := by decide +kernel
theorem dX9_feature_27 : decode cX9_feature 27 = .ok (.aload_n 0, 1) := by decide +kernel
theorem dX9_feature_28 : decode cX9_feature 28 = .ok (.getfield 23, 3) := by decide +kernel
theorem dX9_feature_31 : decode cX9_feature 31 = .ok (.iload_n 1, 1) := by decide +kernel
theorem dX9_feature_32 : decode cX9_feature 32 = .ok (.caload, 1) := by decide +kernel
theorem dX9_feature_33 : decode cX9_feature 33 = .ok (.bipush 116, 2) := by decide +kernel
theorem dX9_feature_35 : decode cX9_feature 35 = .ok (.if_icmp .ne 7, 3) := by decide +kernel
theorem dX9_feature_38 : decode cX9_feature 38 = .ok (.iload_n 3, 1) := by decide +kernel
theorem dX9_feature_39 : decode cX9_feature 39 = .ok (.goto 38, 3) := by decide +kernel
theorem dX9_feature_42 : decode cX9_feature 42 = .ok (.aload_n 0, 1) := by decide +kernel
theorem dX9_feature_43 : decode cX9_feature 43 = .ok (.getfield 23, 3) := by decide +kernel
theorem dX9_feature_46 : decode cX9_feature 46 = .ok (.iload_n 1, 1) := by decide +kernel
theorem dX9_feature_47 : decode cX9_feature 47 = .ok (.caload, 1) := by decide +kernel
theorem dX9_feature_48 : decode cX9_feature 48 = .ok (.bipush 99, 2) := by decide +kernel
theorem dX9_feature_50 : decode cX9_feature 50 = .ok (.if_icmp .eq 14, 3) := by decide +kernel
theorem dX9_feature_53 : decode cX9_feature 53 = .ok (.aload_n 0, 1) := by decide +kernel
theorem dX9_feature_54 : decode cX9_feature 54 = .ok (.getfield 23, 3) := by decide +kernel
theorem dX9_feature_57 : decode cX9_feature 57 = .ok (.iload_n 1, 1) := by decide +kernel
theorem dX9_feature_58 : decode cX9_feature 58 = .ok (.caload, 1) := by decide +kernel
theorem dX9_feature_59 : decode cX9_feature 59 = .ok (.bipush 109, 2) := by decide +kernel
theorem dX9_feature_61 : decode cX9_feature 61 = .ok (.if_icmp .ne 12, 3) := by decide +kernel
theorem dX9_feature_64 : decode cX9_feature 64 = .ok (.iconst 2, 1) := by decide +kernel
theorem dX9_feature_65 : decode cX9_feature 65 = .ok (.iload_n 3, 1) := by decide +kernel
theorem dX9_feature_66 : decode cX9_feature 66 = .ok (.imul, 1) := by decide +kernel
theorem dX9_feature_67 : decode cX9_feature 67 = .ok (.iload 4, 2) := by decide +kernel
theorem dX9_feature_69 : decode cX9_feature 69 = .ok (.iadd, 1) := by decide +kernel
theorem dX9_feature_70 : decode cX9_feature 70 = .ok (.goto 7, 3) := by decide +kernel
theorem dX9_feature_73 : decode cX9_feature 73 = .ok (.iload_n 3, 1) := by decide +kernel
theorem dX9_feature_74 : decode cX9_feature 74 = .ok (.iload 4, 2) := by decide +kernel
theorem dX9_feature_76 : decode cX9_feature 76 = .ok (.iadd, 1) := by decide +kernel
theorem dX9_feature_77 : decode cX9_feature 77 = .ok (.ireturn, 1) := by decide +kernel
theorem dX9_isMetWith_0 : decode cX9_isMetWith 0 = .ok (.aload_n 0, 1) := by decide +kernel
theorem dX9_isMetWith_1 : decode cX9_isMetWith 1 = .ok (.iload_n 1, 1) := by decide +kernel
theorem dX9_isMetWith_2 : decode cX9_isMetWith 2 = .ok (.aload_n 0, 1) := by decide +kernel
theorem dX9_isMetWith_3 : decode cX9_isMetWith 3 = .ok (.getfield 27, 3) := by decide +kernel
theorem dX9_isMetWith_6 : decode cX9_isMetWith 6 = .ok (.iload_n 1, 1) := by decide +kernel
theorem dX9_isMetWith_7 : decode cX9_isMetWith 7 = .ok (.iaload, 1) := by decide +kernel
theorem dX9_isMetWith_8 : decode cX9_isMetWith 8 = .ok (.iload_n 2, 1) := by decide +kernel
theorem dX9_isMetWith_9 : decode cX9_isMetWith 9 = .ok (.invokevirtual 138, 3) := by decide +kernel
theorem dX9_isMetWith_12 : decode cX9_isMetWith 12 = .ok (.aload_n 0, 1) := by decide +kernel
theorem dX9_isMetWith_13 : decode cX9_isMetWith 13 = .ok (.iload_n 1, 1) := by decide +kernel
theorem dX9_isMetWith_14 : decode cX9_isMetWith 14 = .ok (.aload_n 0, 1) := by decide +kernel
theorem dX9_isMetWith_15 : decode cX9_isMetWith 15 = .ok (.getfield 30, 3) := by decide +kernel
theorem dX9_isMetWith_18 : decode cX9_isMetWith 18 = .ok (.iload_n 1, 1) := by decide +kernel
theorem dX9_isMetWith_19 : decode cX9_isMetWith 19 = .ok (.iaload, 1) := by decide +kernel
theorem dX9_isMetWith_20 : decode cX9_isMetWith 20 = .ok (.iload_n 3, 1) := by decide +kernel
theorem dX9_isMetWith_21 : decode cX9_isMetWith 21 = .ok (.invokevirtual 138, 3) := by decide +kernel
theorem dX9_isMetWith_24 : decode cX9_isMetWith 24 = .ok (.if_icmp .ne 7, 3) := by decide +kernel
theorem dX9_isMetWith_27 : decode cX9_isMetWith 27 = .ok (.iconst 1, 1) := by decide +kernel
theorem dX9_isMetWith_28 : decode cX9_isMetWith 28 = .ok (.goto 4, 3) := by decide +kernel
theorem dX9_isMetWith_31 : decode cX9_isMetWith 31 = .ok (.iconst 0, 1) := by decide +kernel
theorem dX9_isMetWith_32 : decode cX9_isMetWith 32 = .ok (.ireturn, 1) := by decide +kernel
theorem dX9_isMet_0 : decode cX9_isMet 0 = .ok (.aload_n 0, 1) := by decide +kernel
theorem dX9_isMet_1 : decode cX9_isMet 1 = .ok (.iconst 0, 1) := by decide +kernel
theorem dX9_isMet_2 : decode cX9_isMet 2 = .ok (.putfield 60, 3) := by decide +kernel
theorem dX9_isMet_5 : decode cX9_isMet 5 = .ok (.aload_n 0, 1) := by decide +kernel
theorem dX9_isMet_6 : decode cX9_isMet 6 = .ok (.aload_n 0, 1) := by decide +kernel
theorem dX9_isMet_7 : decode cX9_isMet 7 = .ok (.iload_n 1, 1) := by decide +kernel
theorem dX9_isMet_8 : decode cX9_isMet 8 = .ok (.invokevirtual 135, 3) := by decide +kernel
theorem dX9_isMet_11 : decode cX9_isMet 11 = .ok (.iconst 1, 1) := by decide +kernel
theorem dX9_isMet_12 : decode cX9_isMet 12 = .ok (.invokevirtual 89, 3) := by decide +kernel
theorem dX9_isMet_15 : decode cX9_isMet 15 = .ok (.ifCond .eq 5, 3) := by decide +kernel
theorem dX9_isMet_18 : decode cX9_isMet 18 = .ok (.iconst 0, 1) := by decide +kernel
theorem dX9_isMet_19 : decode cX9_isMet 19 = .ok (.ireturn, 1) := by decide +kernel
theorem dX9_isMet_20 : decode cX9_isMet 20 = .ok (.aload_n 0, 1) := by decide +kernel
theorem dX9_isMet_21 : decode cX9_isMet 21 = .ok (.getfield 23, 3) := by decide +kernel
theorem dX9_isMet_24 : decode cX9_isMet 24 = .ok (.iload_n 1, 1) := by decide +kernel
theorem dX9_isMet_25 : decode cX9_isMet 25 = .ok (.caload, 1) := by decide +kernel
theorem dX9_isMet_26 : decode cX9_isMet 26 = .ok (.invokestatic 129, 3) := by decide +kernel
theorem dX9_isMet_29 : decode cX9_isMet 29 = .ok (.istore_n 2, 1) := by decide +kernel
theorem dX9_isMet_30 : decode cX9_isMet 30 = .ok (.aload_n 0, 1) := by decide +kernel
theorem dX9_isMet_31 : decode cX9_isMet 31 = .ok (.iload_n 1, 1) := by decide +kernel
theorem dX9_isMet_32 : decode cX9_isMet 32 = .ok (.aload_n 0, 1) := by decide +kernel
theorem dX9_isMet_33 : decode cX9_isMet 33 = .ok (.aload_n 0, 1) := by decide +kernel
theorem dX9_isMet_34 : decode cX9_isMet 34 = .ok (.getfield 27, 3) := by decide +kernel
theorem dX9_isMet_37 : decode cX9_isMet 37 = .ok (.iload_n 1, 1) := by decide +kernel
theorem dX9_isMet_38 : decode cX9_isMet 38 = .ok (.iaload, 1) := by decide +kernel
theorem dX9_isMet_39 : decode cX9_isMet 39 = .ok (.iload_n 2, 1) := by decide +kernel
theorem dX9_isMet_40 : decode cX9_isMet 40 = .ok (.invokevirtual 75, 3) := by decide +kernel
theorem dX9_isMet_43 : decode cX9_isMet 43 = .ok (.aload_n 0, 1) := by decide +kernel
theorem dX9_isMet_44 : decode cX9_isMet 44 = .ok (.aload_n 0, 1) := by decide +kernel
theorem dX9_isMet_45 : decode cX9_isMet 45 = .ok (.getfield 30, 3) := by decide +kernel
theorem dX9_isMet_48 : decode cX9_isMet 48 = .ok (.iload_n 1, 1) := by decide +kernel
theorem dX9_isMet_49 : decode cX9_isMet 49 = .ok (.iaload, 1) := by decide +kernel
theorem dX9_isMet_50 : decode cX9_isMet 50 = .ok (.iload_n 2, 1) := by decide +kernel
theorem dX9_isMet_51 : decode cX9_isMet 51 = .ok (.invokevirtual 75, 3) := by decide +kernel
theorem dX9_isMet_54 : decode cX9_isMet 54 = .ok (.invokevirtual 142, 3) := by decide +kernel
theorem dX9_isMet_57 : decode cX9_isMet 57 = .ok (.ireturn, 1) := by decide +kernel
theorem dX9_looksAtPresent_0 : decode cX9_looksAtPresent 0 = .ok (.iconst 0, 1) := by decide +kernel
theorem dX9_looksAtPresent_1 : decode cX9_looksAtPresent 1 = .ok (.istore_n 2, 1) := by decide +kernel
theorem dX9_looksAtPresent_2 : decode cX9_looksAtPresent 2 = .ok (.iload_n 2, 1) := by decide +kernel
theorem dX9_looksAtPresent_3 : decode cX9_looksAtPresent 3 = .ok (.aload_n 0, 1) := by decide +kernel
theorem dX9_looksAtPresent_4 : decode cX9_looksAtPresent 4 = .ok (.getfield 64, 3) := by decide +kernel
theorem dX9_looksAtPresent_7 : decode cX9_looksAtPresent 7 = .ok (.if_icmp .ge 21, 3) := by decide +kernel
theorem dX9_looksAtPresent_10 : decode cX9_looksAtPresent 10 = .ok (.aload_n 0, 1) := by decide +kernel
theorem dX9_looksAtPresent_11 : decode cX9_looksAtPresent 11 = .ok (.getfield 48, 3) := by decide +kernel
theorem dX9_looksAtPresent_14 : decode cX9_looksAtPresent 14 = .ok (.iload_n 2, 1) := by decide +kernel
theorem dX9_looksAtPresent_15 : decode cX9_looksAtPresent 15 = .ok (.aload_n 0, 1) := by decide +kernel
theorem dX9_looksAtPresent_16 : decode cX9_looksAtPresent 16 = .ok (.iload_n 2, 1) := by decide +kernel
theorem dX9_looksAtPresent_17 : decode cX9_looksAtPresent 17 = .ok (.iload_n 1, 1) := by decide +kernel
theorem dX9_looksAtPresent_18 : decode cX9_looksAtPresent 18 = .ok (.invokevirtual 75, 3) := by decide +kernel
theorem dX9_looksAtPresent_21 : decode cX9_looksAtPresent 21 = .ok (.iastore, 1) := by decide +kernel
theorem dX9_looksAtPresent_22 : decode cX9_looksAtPresent 22 = .ok (.iinc 2 1, 3) := by decide +kernel
theorem dX9_looksAtPresent_25 : decode cX9_looksAtPresent 25 = .ok (.goto (-23), 3) := by decide +kernel
theorem dX9_looksAtPresent_28 : decode cX9_looksAtPresent 28 = .ok (.return_, 1) := by decide +kernel
theorem dX9_forceNow_0 : decode cX9_forceNow 0 = .ok (.iconst 0, 1) := by decide +kernel
theorem dX9_forceNow_1 : decode cX9_forceNow 1 = .ok (.istore_n 2, 1) := by decide +kernel
theorem dX9_forceNow_2 : decode cX9_forceNow 2 = .ok (.iconst 0, 1) := by decide +kernel
theorem dX9_forceNow_3 : decode cX9_forceNow 3 = .ok (.istore_n 3, 1) := by decide +kernel
theorem dX9_forceNow_4 : decode cX9_forceNow 4 = .ok (.iload_n 3, 1) := by decide +kernel
theorem dX9_forceNow_5 : decode cX9_forceNow 5 = .ok (.aload_n 0, 1) := by decide +kernel
theorem dX9_forceNow_6 : decode cX9_forceNow 6 = .ok (.getfield 132, 3) := by decide +kernel
theorem dX9_forceNow_9 : decode cX9_forceNow 9 = .ok (.if_icmp .ge 86, 3) := by decide +kernel
theorem dX9_forceNow_12 : decode cX9_forceNow 12 = .ok (.aload_n 0, 1) := by decide +kernel
theorem dX9_forceNow_13 : decode cX9_forceNow 13 = .ok (.getfield 36, 3) := by decide +kernel
theorem dX9_forceNow_16 : decode cX9_forceNow 16 = .ok (.iload_n 3, 1) := by decide +kernel
theorem dX9_forceNow_17 : decode cX9_forceNow 17 = .ok (.baload, 1) := by decide +kernel
theorem dX9_forceNow_18 : decode cX9_forceNow 18 = .ok (.ifCond .ne 50, 3) := by decide +kernel
theorem dX9_forceNow_21 : decode cX9_forceNow 21 = .ok (.aload_n 0, 1) := by decide +kernel
theorem dX9_forceNow_22 : decode cX9_forceNow 22 = .ok (.getfield 23, 3) := by decide +kernel
theorem dX9_forceNow_25 : decode cX9_forceNow 25 = .ok (.iload_n 3, 1) := by decide +kernel
theorem dX9_forceNow_26 : decode cX9_forceNow 26 = .ok (.caload, 1) := by decide +kernel
theorem dX9_forceNow_27 : decode cX9_forceNow 27 = .ok (.invokestatic 129, 3) := by decide +kernel
theorem dX9_forceNow_30 : decode cX9_forceNow 30 = .ok (.iload_n 1, 1) := by decide +kernel
theorem dX9_forceNow_31 : decode cX9_forceNow 31 = .ok (.if_icmp .ne 37, 3) := by decide +kernel
theorem dX9_forceNow_34 : decode cX9_forceNow 34 = .ok (.aload_n 0, 1) := by decide +kernel
theorem dX9_forceNow_35 : decode cX9_forceNow 35 = .ok (.iload_n 3, 1) := by decide +kernel
theorem dX9_forceNow_36 : decode cX9_forceNow 36 = .ok (.aload_n 0, 1) := by decide +kernel
theorem dX9_forceNow_37 : decode cX9_forceNow 37 = .ok (.getfield 48, 3) := by decide +kernel
theorem dX9_forceNow_40 : decode cX9_forceNow 40 = .ok (.aload_n 0, 1) := by decide +kernel
theorem dX9_forceNow_41 : decode cX9_forceNow 41 = .ok (.getfield 27, 3) := by decide +kernel
theorem dX9_forceNow_44 : decode cX9_forceNow 44 = .ok (.iload_n 3, 1) := by decide +kernel
theorem dX9_forceNow_45 : decode cX9_forceNow 45 = .ok (.iaload, 1) := by decide +kernel
theorem dX9_forceNow_46 : decode cX9_forceNow 46 = .ok (.iaload, 1) := by decide +kernel
theorem dX9_forceNow_47 : decode cX9_forceNow 47 = .ok (.aload_n 0, 1) := by decide +kernel
theorem dX9_forceNow_48 : decode cX9_forceNow 48 = .ok (.getfield 48, 3) := by decide +kernel
theorem dX9_forceNow_51 : decode cX9_forceNow 51 = .ok (.aload_n 0, 1) := by decide +kernel
theorem dX9_forceNow_52 : decode cX9_forceNow 52 = .ok (.getfield 30, 3) := by decide +kernel
theorem dX9_forceNow_55 : decode cX9_forceNow 55 = .ok (.iload_n 3, 1) := by decide +kernel
theorem dX9_forceNow_56 : decode cX9_forceNow 56 = .ok (.iaload, 1) := by decide +kernel
theorem dX9_forceNow_57 : decode cX9_forceNow 57 = .ok (.iaload, 1) := by decide +kernel
theorem dX9_forceNow_58 : decode cX9_forceNow 58 = .ok (.invokevirtual 142, 3) := by decide +kernel
theorem dX9_forceNow_61 : decode cX9_forceNow 61 = .ok (.ifCond .eq 7, 3) := by decide +kernel
theorem dX9_forceNow_64 : decode cX9_forceNow 64 = .ok (.iconst 1, 1) := by decide +kernel
theorem dX9_forceNow_65 : decode cX9_forceNow 65 = .ok (.goto 4, 3) := by decide +kernel
theorem dX9_forceNow_68 : decode cX9_forceNow 68 = .ok (.iconst 0, 1) := by decide +kernel
theorem dX9_forceNow_69 : decode cX9_forceNow 69 = .ok (.istore 4, 2) := by decide +kernel
theorem dX9_forceNow_71 : decode cX9_forceNow 71 = .ok (.iload_n 2, 1) := by decide +kernel
theorem dX9_forceNow_72 : decode cX9_forceNow 72 = .ok (.iload 4, 2) := by decide +kernel
theorem dX9_forceNow_74 : decode cX9_forceNow 74 = .ok (.ifCond .eq 12, 3) := by decide +kernel
theorem dX9_forceNow_77 : decode cX9_forceNow 77 = .ok (.aload_n 0, 1) := by decide +kernel
theorem dX9_forceNow_78 : decode cX9_forceNow 78 = .ok (.getfield 33, 3) := by decide +kernel
theorem dX9_forceNow_81 : decode cX9_forceNow 81 = .ok (.iload_n 3, 1) := by decide +kernel
theorem dX9_forceNow_82 : decode cX9_forceNow 82 = .ok (.iaload, 1) := by decide +kernel
theorem dX9_forceNow_83 : decode cX9_forceNow 83 = .ok (.goto 4, 3) := by decide +kernel
theorem dX9_forceNow_86 : decode cX9_forceNow 86 = .ok (.iconst 0, 1) := by decide +kernel
theorem dX9_forceNow_87 : decode cX9_forceNow 87 = .ok (.iadd, 1) := by decide +kernel
theorem dX9_forceNow_88 : decode cX9_forceNow 88 = .ok (.istore_n 2, 1) := by decide +kernel
theorem dX9_forceNow_89 : decode cX9_forceNow 89 = .ok (.iinc 3 1, 3) := by decide +kernel
theorem dX9_forceNow_92 : decode cX9_forceNow 92 = .ok (.goto (-88), 3) := by decide +kernel
theorem dX9_forceNow_95 : decode cX9_forceNow 95 = .ok (.iload_n 2, 1) := by decide +kernel
theorem dX9_forceNow_96 : decode cX9_forceNow 96 = .ok (.ireturn, 1) := by decide +kernel
theorem dX9_strength_0 : decode cX9_strength 0 = .ok (.aload_n 0, 1) := by decide +kernel
theorem dX9_strength_1 : decode cX9_strength 1 = .ok (.iconst 0, 1) := by decide +kernel
theorem dX9_strength_2 : decode cX9_strength 2 = .ok (.putfield 60, 3) := by decide +kernel
theorem dX9_strength_5 : decode cX9_strength 5 = .ok (.aload_n 0, 1) := by decide +kernel
theorem dX9_strength_6 : decode cX9_strength 6 = .ok (.iload_n 1, 1) := by decide +kernel
theorem dX9_strength_7 : decode cX9_strength 7 = .ok (.invokestatic 101, 3) := by decide +kernel
theorem dX9_strength_10 : decode cX9_strength 10 = .ok (.iconst (-1), 1) := by decide +kernel
theorem dX9_strength_11 : decode cX9_strength 11 = .ok (.if_icmp .ne 7, 3) := by decide +kernel
theorem dX9_strength_14 : decode cX9_strength 14 = .ok (.iconst 1, 1) := by decide +kernel
theorem dX9_strength_15 : decode cX9_strength 15 = .ok (.goto 4, 3) := by decide +kernel
theorem dX9_strength_18 : decode cX9_strength 18 = .ok (.iconst 0, 1) := by decide +kernel
theorem dX9_strength_19 : decode cX9_strength 19 = .ok (.iconst 1, 1) := by decide +kernel
theorem dX9_strength_20 : decode cX9_strength 20 = .ok (.invokevirtual 89, 3) := by decide +kernel
theorem dX9_strength_23 : decode cX9_strength 23 = .ok (.ifCond .eq 5, 3) := by decide +kernel
theorem dX9_strength_26 : decode cX9_strength 26 = .ok (.iconst 0, 1) := by decide +kernel
theorem dX9_strength_27 : decode cX9_strength 27 = .ok (.ireturn, 1) := by decide +kernel
theorem dX9_strength_28 : decode cX9_strength 28 = .ok (.aload_n 0, 1) := by decide +kernel
theorem dX9_strength_29 : decode cX9_strength 29 = .ok (.iload_n 1, 1) := by decide +kernel
theorem dX9_strength_30 : decode cX9_strength 30 = .ok (.invokestatic 101, 3) := by decide +kernel
theorem dX9_strength_33 : decode cX9_strength 33 = .ok (.invokevirtual 145, 3) := by decide +kernel
theorem dX9_strength_36 : decode cX9_strength 36 = .ok (.aload_n 0, 1) := by decide +kernel
theorem dX9_strength_37 : decode cX9_strength 37 = .ok (.iload_n 1, 1) := by decide +kernel
theorem dX9_strength_38 : decode cX9_strength 38 = .ok (.invokestatic 101, 3) := by decide +kernel
theorem dX9_strength_41 : decode cX9_strength 41 = .ok (.invokevirtual 149, 3) := by decide +kernel
theorem dX9_strength_44 : decode cX9_strength 44 = .ok (.ireturn, 1) := by decide +kernel
theorem dX9_isAllowed_0 : decode cX9_isAllowed 0 = .ok (.iconst 1, 1) := by decide +kernel
theorem dX9_isAllowed_1 : decode cX9_isAllowed 1 = .ok (.istore_n 2, 1) := by decide +kernel
theorem dX9_isAllowed_2 : decode cX9_isAllowed 2 = .ok (.iconst 1, 1) := by decide +kernel
theorem dX9_isAllowed_3 : decode cX9_isAllowed 3 = .ok (.iload_n 1, 1) := by decide +kernel
theorem dX9_isAllowed_4 : decode cX9_isAllowed 4 = .ok (.isub, 1) := by decide +kernel
theorem dX9_isAllowed_5 : decode cX9_isAllowed 5 = .ok (.istore_n 3, 1) := by decide +kernel
theorem dX9_isAllowed_6 : decode cX9_isAllowed 6 = .ok (.iconst 0, 1) := by decide +kernel
theorem dX9_isAllowed_7 : decode cX9_isAllowed 7 = .ok (.istore 4, 2) := by decide +kernel
theorem dX9_isAllowed_9 : decode cX9_isAllowed 9 = .ok (.iload 4, 2) := by decide +kernel
theorem dX9_isAllowed_11 : decode cX9_isAllowed 11 = .ok (.aload_n 0, 1) := by decide +kernel
theorem dX9_isAllowed_12 : decode cX9_isAllowed 12 = .ok (.getfield 64, 3) := by decide +kernel
theorem dX9_isAllowed_15 : decode cX9_isAllowed 15 = .ok (.if_icmp .ge 161, 3) := by decide +kernel
theorem dX9_isAllowed_18 : decode cX9_isAllowed 18 = .ok (.iload_n 2, 1) := by decide +kernel
theorem dX9_isAllowed_19 : decode cX9_isAllowed 19 = .ok (.ifCond .eq 55, 3) := by decide +kernel
theorem dX9_isAllowed_22 : decode cX9_isAllowed 22 = .ok (.iload_n 1, 1) := by decide +kernel
theorem dX9_isAllowed_23 : decode cX9_isAllowed 23 = .ok (.aload_n 0, 1) := by decide +kernel
theorem dX9_isAllowed_24 : decode cX9_isAllowed 24 = .ok (.getfield 48, 3) := by decide +kernel
theorem dX9_isAllowed_27 : decode cX9_isAllowed 27 = .ok (.iload 4, 2) := by decide +kernel
theorem dX9_isAllowed_29 : decode cX9_isAllowed 29 = .ok (.iaload, 1) := by decide +kernel
theorem dX9_isAllowed_30 : decode cX9_isAllowed 30 = .ok (.aload_n 0, 1) := by decide +kernel
theorem dX9_isAllowed_31 : decode cX9_isAllowed 31 = .ok (.iload 4, 2) := by decide +kernel
theorem dX9_isAllowed_33 : decode cX9_isAllowed 33 = .ok (.iload_n 1, 1) := by decide +kernel
theorem dX9_isAllowed_34 : decode cX9_isAllowed 34 = .ok (.invokevirtual 79, 3) := by decide +kernel
theorem dX9_isAllowed_37 : decode cX9_isAllowed 37 = .ok (.invokestatic 86, 3) := by decide +kernel
theorem dX9_isAllowed_40 : decode cX9_isAllowed 40 = .ok (.ifCond .eq 34, 3) := by decide +kernel
theorem dX9_isAllowed_43 : decode cX9_isAllowed 43 = .ok (.aload_n 0, 1) := by decide +kernel
theorem dX9_isAllowed_44 : decode cX9_isAllowed 44 = .ok (.getfield 19, 3) := by decide +kernel
theorem dX9_isAllowed_47 : decode cX9_isAllowed 47 = .ok (.iload 4, 2) := by decide +kernel
theorem dX9_isAllowed_49 : decode cX9_isAllowed 49 = .ok (.baload, 1) := by decide +kernel
theorem dX9_isAllowed_50 : decode cX9_isAllowed 50 = .ok (.ifCond .eq 20, 3) := by decide +kernel
theorem dX9_isAllowed_53 : decode cX9_isAllowed 53 = .ok (.aload_n 0, 1) := by decide +kernel
theorem dX9_isAllowed_54 : decode cX9_isAllowed 54 = .ok (.getfield 48, 3) := by decide +kernel
theorem dX9_isAllowed_57 : decode cX9_isAllowed 57 = .ok (.iload 4, 2) := by decide +kernel
theorem dX9_isAllowed_59 : decode cX9_isAllowed 59 = .ok (.iaload, 1) := by decide +kernel
theorem dX9_isAllowed_60 : decode cX9_isAllowed 60 = .ok (.aload_n 0, 1) := by decide +kernel
theorem dX9_isAllowed_61 : decode cX9_isAllowed 61 = .ok (.iload 4, 2) := by decide +kernel
theorem dX9_isAllowed_63 : decode cX9_isAllowed 63 = .ok (.iload_n 1, 1) := by decide +kernel
theorem dX9_isAllowed_64 : decode cX9_isAllowed 64 = .ok (.invokevirtual 75, 3) := by decide +kernel
theorem dX9_isAllowed_67 : decode cX9_isAllowed 67 = .ok (.if_icmp .ne 7, 3) := by decide +kernel
theorem dX9_isAllowed_70 : decode cX9_isAllowed 70 = .ok (.iconst 1, 1) := by decide +kernel
theorem dX9_isAllowed_71 : decode cX9_isAllowed 71 = .ok (.goto 4, 3) := by decide +kernel
theorem dX9_isAllowed_74 : decode cX9_isAllowed 74 = .ok (.iconst 0, 1) := by decide +kernel
theorem dX9_isAllowed_75 : decode cX9_isAllowed 75 = .ok (.istore_n 2, 1) := by decide +kernel
theorem dX9_isAllowed_76 : decode cX9_isAllowed 76 = .ok (.iconst 0, 1) := by decide +kernel
theorem dX9_isAllowed_77 : decode cX9_isAllowed 77 = .ok (.istore 5, 2) := by decide +kernel
theorem dX9_isAllowed_79 : decode cX9_isAllowed 79 = .ok (.iload 5, 2) := by decide +kernel
theorem dX9_isAllowed_81 : decode cX9_isAllowed 81 = .ok (.iload 4, 2) := by decide +kernel
theorem dX9_isAllowed_83 : decode cX9_isAllowed 83 = .ok (.if_icmp .ge 87, 3) := by decide +kernel
theorem dX9_isAllowed_86 : decode cX9_isAllowed 86 = .ok (.iload_n 2, 1) := by decide +kernel
theorem dX9_isAllowed_87 : decode cX9_isAllowed 87 = .ok (.ifCond .eq 75, 3) := by decide +kernel
theorem dX9_isAllowed_90 : decode cX9_isAllowed 90 = .ok (.aload_n 0, 1) := by decide +kernel
theorem dX9_isAllowed_91 : decode cX9_isAllowed 91 = .ok (.getfield 48, 3) := by decide +kernel
theorem dX9_isAllowed_94 : decode cX9_isAllowed 94 = .ok (.iload 4, 2) := by decide +kernel
theorem dX9_isAllowed_96 : decode cX9_isAllowed 96 = .ok (.iaload, 1) := by decide +kernel
theorem dX9_isAllowed_97 : decode cX9_isAllowed 97 = .ok (.aload_n 0, 1) := by decide +kernel
theorem dX9_isAllowed_98 : decode cX9_isAllowed 98 = .ok (.iload 4, 2) := by decide +kernel
theorem dX9_isAllowed_100 : decode cX9_isAllowed 100 = .ok (.iload_n 1, 1) := by decide +kernel
theorem dX9_isAllowed_101 : decode cX9_isAllowed 101 = .ok (.invokevirtual 79, 3) := by decide +kernel
theorem dX9_isAllowed_104 : decode cX9_isAllowed 104 = .ok (.aload_n 0, 1) := by decide +kernel
theorem dX9_isAllowed_105 : decode cX9_isAllowed 105 = .ok (.getfield 48, 3) := by decide +kernel
theorem dX9_isAllowed_108 : decode cX9_isAllowed 108 = .ok (.iload 5, 2) := by decide +kernel
theorem dX9_isAllowed_110 : decode cX9_isAllowed 110 = .ok (.iaload, 1) := by decide +kernel
theorem dX9_isAllowed_111 : decode cX9_isAllowed 111 = .ok (.aload_n 0, 1) := by decide +kernel
theorem dX9_isAllowed_112 : decode cX9_isAllowed 112 = .ok (.iload 5, 2) := by decide +kernel
theorem dX9_isAllowed_114 : decode cX9_isAllowed 114 = .ok (.iload_n 1, 1) := by decide +kernel
theorem dX9_isAllowed_115 : decode cX9_isAllowed 115 = .ok (.invokevirtual 79, 3) := by decide +kernel
theorem dX9_isAllowed_118 : decode cX9_isAllowed 118 = .ok (.invokestatic 82, 3) := by decide +kernel
theorem dX9_isAllowed_121 : decode cX9_isAllowed 121 = .ok (.ifCond .eq 37, 3) := by decide +kernel
theorem dX9_isAllowed_124 : decode cX9_isAllowed 124 = .ok (.aload_n 0, 1) := by decide +kernel
theorem dX9_isAllowed_125 : decode cX9_isAllowed 125 = .ok (.iload 4, 2) := by decide +kernel
theorem dX9_isAllowed_127 : decode cX9_isAllowed 127 = .ok (.iload_n 3, 1) := by decide +kernel
theorem dX9_isAllowed_128 : decode cX9_isAllowed 128 = .ok (.invokevirtual 75, 3) := by decide +kernel
theorem dX9_isAllowed_131 : decode cX9_isAllowed 131 = .ok (.aload_n 0, 1) := by decide +kernel
theorem dX9_isAllowed_132 : decode cX9_isAllowed 132 = .ok (.iload 4, 2) := by decide +kernel
theorem dX9_isAllowed_134 : decode cX9_isAllowed 134 = .ok (.iload_n 3, 1) := by decide +kernel
theorem dX9_isAllowed_135 : decode cX9_isAllowed 135 = .ok (.invokevirtual 79, 3) := by decide +kernel
theorem dX9_isAllowed_138 : decode cX9_isAllowed 138 = .ok (.aload_n 0, 1) := by decide +kernel
theorem dX9_isAllowed_139 : decode cX9_isAllowed 139 = .ok (.iload 5, 2) := by decide +kernel
theorem dX9_isAllowed_141 : decode cX9_isAllowed 141 = .ok (.iload_n 3, 1) := by decide +kernel
theorem dX9_isAllowed_142 : decode cX9_isAllowed 142 = .ok (.invokevirtual 75, 3) := by decide +kernel
theorem dX9_isAllowed_145 : decode cX9_isAllowed 145 = .ok (.aload_n 0, 1) := by decide +kernel
theorem dX9_isAllowed_146 : decode cX9_isAllowed 146 = .ok (.iload 5, 2) := by decide +kernel
theorem dX9_isAllowed_148 : decode cX9_isAllowed 148 = .ok (.iload_n 3, 1) := by decide +kernel
theorem dX9_isAllowed_149 : decode cX9_isAllowed 149 = .ok (.invokevirtual 79, 3) := by decide +kernel
theorem dX9_isAllowed_152 : decode cX9_isAllowed 152 = .ok (.invokestatic 82, 3) := by decide +kernel
theorem dX9_isAllowed_155 : decode cX9_isAllowed 155 = .ok (.ifCond .ne 7, 3) := by decide +kernel
theorem dX9_isAllowed_158 : decode cX9_isAllowed 158 = .ok (.iconst 1, 1) := by decide +kernel
theorem dX9_isAllowed_159 : decode cX9_isAllowed 159 = .ok (.goto 4, 3) := by decide +kernel
theorem dX9_isAllowed_162 : decode cX9_isAllowed 162 = .ok (.iconst 0, 1) := by decide +kernel
theorem dX9_isAllowed_163 : decode cX9_isAllowed 163 = .ok (.istore_n 2, 1) := by decide +kernel
theorem dX9_isAllowed_164 : decode cX9_isAllowed 164 = .ok (.iinc 5 1, 3) := by decide +kernel
theorem dX9_isAllowed_167 : decode cX9_isAllowed 167 = .ok (.goto (-88), 3) := by decide +kernel
theorem dX9_isAllowed_170 : decode cX9_isAllowed 170 = .ok (.iinc 4 1, 3) := by decide +kernel
theorem dX9_isAllowed_173 : decode cX9_isAllowed 173 = .ok (.goto (-164), 3) := by decide +kernel
theorem dX9_isAllowed_176 : decode cX9_isAllowed 176 = .ok (.iload_n 2, 1) := by decide +kernel
theorem dX9_isAllowed_177 : decode cX9_isAllowed 177 = .ok (.ireturn, 1) := by decide +kernel
theorem dX9_costNow_0 : decode cX9_costNow 0 = .ok (.iconst 0, 1) := by decide +kernel
theorem dX9_costNow_1 : decode cX9_costNow 1 = .ok (.istore_n 2, 1) := by decide +kernel
theorem dX9_costNow_2 : decode cX9_costNow 2 = .ok (.iconst 0, 1) := by decide +kernel
theorem dX9_costNow_3 : decode cX9_costNow 3 = .ok (.istore_n 3, 1) := by decide +kernel
theorem dX9_costNow_4 : decode cX9_costNow 4 = .ok (.iload_n 3, 1) := by decide +kernel
theorem dX9_costNow_5 : decode cX9_costNow 5 = .ok (.aload_n 0, 1) := by decide +kernel
theorem dX9_costNow_6 : decode cX9_costNow 6 = .ok (.getfield 64, 3) := by decide +kernel
theorem dX9_costNow_9 : decode cX9_costNow 9 = .ok (.if_icmp .ge 28, 3) := by decide +kernel
theorem dX9_costNow_12 : decode cX9_costNow 12 = .ok (.iload_n 2, 1) := by decide +kernel
theorem dX9_costNow_13 : decode cX9_costNow 13 = .ok (.aload_n 0, 1) := by decide +kernel
theorem dX9_costNow_14 : decode cX9_costNow 14 = .ok (.getfield 48, 3) := by decide +kernel
theorem dX9_costNow_17 : decode cX9_costNow 17 = .ok (.iload_n 3, 1) := by decide +kernel
theorem dX9_costNow_18 : decode cX9_costNow 18 = .ok (.iaload, 1) := by decide +kernel
theorem dX9_costNow_19 : decode cX9_costNow 19 = .ok (.aload_n 0, 1) := by decide +kernel
theorem dX9_costNow_20 : decode cX9_costNow 20 = .ok (.iload_n 3, 1) := by decide +kernel
theorem dX9_costNow_21 : decode cX9_costNow 21 = .ok (.iload_n 1, 1) := by decide +kernel
theorem dX9_costNow_22 : decode cX9_costNow 22 = .ok (.invokevirtual 75, 3) := by decide +kernel
theorem dX9_costNow_25 : decode cX9_costNow 25 = .ok (.isub, 1) := by decide +kernel
theorem dX9_costNow_26 : decode cX9_costNow 26 = .ok (.invokestatic 109, 3) := by decide +kernel
theorem dX9_costNow_29 : decode cX9_costNow 29 = .ok (.iadd, 1) := by decide +kernel
theorem dX9_costNow_30 : decode cX9_costNow 30 = .ok (.istore_n 2, 1) := by decide +kernel
theorem dX9_costNow_31 : decode cX9_costNow 31 = .ok (.iinc 3 1, 3) := by decide +kernel
theorem dX9_costNow_34 : decode cX9_costNow 34 = .ok (.goto (-30), 3) := by decide +kernel
theorem dX9_costNow_37 : decode cX9_costNow 37 = .ok (.iload_n 2, 1) := by decide +kernel
theorem dX9_costNow_38 : decode cX9_costNow 38 = .ok (.ireturn, 1) := by decide +kernel
theorem dX9_addSnap_0 : decode cX9_addSnap 0 = .ok (.iconst 0, 1) := by decide +kernel
theorem dX9_addSnap_1 : decode cX9_addSnap 1 = .ok (.istore_n 3, 1) := by decide +kernel
theorem dX9_addSnap_2 : decode cX9_addSnap 2 = .ok (.iload_n 3, 1) := by decide +kernel
theorem dX9_addSnap_3 : decode cX9_addSnap 3 = .ok (.aload_n 0, 1) := by decide +kernel
theorem dX9_addSnap_4 : decode cX9_addSnap 4 = .ok (.getfield 42, 3) := by decide +kernel
theorem dX9_addSnap_7 : decode cX9_addSnap 7 = .ok (.iload_n 1, 1) := by decide +kernel
theorem dX9_addSnap_8 : decode cX9_addSnap 8 = .ok (.iaload, 1) := by decide +kernel
theorem dX9_addSnap_9 : decode cX9_addSnap 9 = .ok (.if_icmp .ge 25, 3) := by decide +kernel
theorem dX9_addSnap_12 : decode cX9_addSnap 12 = .ok (.aload_n 0, 1) := by decide +kernel
theorem dX9_addSnap_13 : decode cX9_addSnap 13 = .ok (.getfield 39, 3) := by decide +kernel
theorem dX9_addSnap_16 : decode cX9_addSnap 16 = .ok (.bipush 10, 2) := by decide +kernel
theorem dX9_addSnap_18 : decode cX9_addSnap 18 = .ok (.iload_n 1, 1) := by decide +kernel
theorem dX9_addSnap_19 : decode cX9_addSnap 19 = .ok (.imul, 1) := by decide +kernel
theorem dX9_addSnap_20 : decode cX9_addSnap 20 = .ok (.iload_n 3, 1) := by decide +kernel
theorem dX9_addSnap_21 : decode cX9_addSnap 21 = .ok (.iadd, 1) := by decide +kernel
theorem dX9_addSnap_22 : decode cX9_addSnap 22 = .ok (.iaload, 1) := by decide +kernel
theorem dX9_addSnap_23 : decode cX9_addSnap 23 = .ok (.iload_n 2, 1) := by decide +kernel
theorem dX9_addSnap_24 : decode cX9_addSnap 24 = .ok (.if_icmp .ne 4, 3) := by decide +kernel
theorem dX9_addSnap_27 : decode cX9_addSnap 27 = .ok (.return_, 1) := by decide +kernel
theorem dX9_addSnap_28 : decode cX9_addSnap 28 = .ok (.iinc 3 1, 3) := by decide +kernel
theorem dX9_addSnap_31 : decode cX9_addSnap 31 = .ok (.goto (-29), 3) := by decide +kernel
theorem dX9_addSnap_34 : decode cX9_addSnap 34 = .ok (.aload_n 0, 1) := by decide +kernel
theorem dX9_addSnap_35 : decode cX9_addSnap 35 = .ok (.getfield 39, 3) := by decide +kernel
theorem dX9_addSnap_38 : decode cX9_addSnap 38 = .ok (.bipush 10, 2) := by decide +kernel
theorem dX9_addSnap_40 : decode cX9_addSnap 40 = .ok (.iload_n 1, 1) := by decide +kernel
theorem dX9_addSnap_41 : decode cX9_addSnap 41 = .ok (.imul, 1) := by decide +kernel
theorem dX9_addSnap_42 : decode cX9_addSnap 42 = .ok (.aload_n 0, 1) := by decide +kernel
theorem dX9_addSnap_43 : decode cX9_addSnap 43 = .ok (.getfield 42, 3) := by decide +kernel
theorem dX9_addSnap_46 : decode cX9_addSnap 46 = .ok (.iload_n 1, 1) := by decide +kernel
theorem dX9_addSnap_47 : decode cX9_addSnap 47 = .ok (.iaload, 1) := by decide +kernel
theorem dX9_addSnap_48 : decode cX9_addSnap 48 = .ok (.iadd, 1) := by decide +kernel
theorem dX9_addSnap_49 : decode cX9_addSnap 49 = .ok (.iload_n 2, 1) := by decide +kernel
theorem dX9_addSnap_50 : decode cX9_addSnap 50 = .ok (.iastore, 1) := by decide +kernel
theorem dX9_addSnap_51 : decode cX9_addSnap 51 = .ok (.aload_n 0, 1) := by decide +kernel
theorem dX9_addSnap_52 : decode cX9_addSnap 52 = .ok (.getfield 42, 3) := by decide +kernel
theorem dX9_addSnap_55 : decode cX9_addSnap 55 = .ok (.iload_n 1, 1) := by decide +kernel
theorem dX9_addSnap_56 : decode cX9_addSnap 56 = .ok (.dup2, 1) := by decide +kernel
theorem dX9_addSnap_57 : decode cX9_addSnap 57 = .ok (.iaload, 1) := by decide +kernel
theorem dX9_addSnap_58 : decode cX9_addSnap 58 = .ok (.iconst 1, 1) := by decide +kernel
theorem dX9_addSnap_59 : decode cX9_addSnap 59 = .ok (.iadd, 1) := by decide +kernel
theorem dX9_addSnap_60 : decode cX9_addSnap 60 = .ok (.iastore, 1) := by decide +kernel
theorem dX9_addSnap_61 : decode cX9_addSnap 61 = .ok (.return_, 1) := by decide +kernel
theorem dX9_findSnaps_0 : decode cX9_findSnaps 0 = .ok (.iconst 0, 1) := by decide +kernel
theorem dX9_findSnaps_1 : decode cX9_findSnaps 1 = .ok (.istore_n 2, 1) := by decide +kernel
theorem dX9_findSnaps_2 : decode cX9_findSnaps 2 = .ok (.iload_n 2, 1) := by decide +kernel
theorem dX9_findSnaps_3 : decode cX9_findSnaps 3 = .ok (.aload_n 0, 1) := by decide +kernel
theorem dX9_findSnaps_4 : decode cX9_findSnaps 4 = .ok (.getfield 64, 3) := by decide +kernel
theorem dX9_findSnaps_7 : decode cX9_findSnaps 7 = .ok (.if_icmp .ge 124, 3) := by decide +kernel
theorem dX9_findSnaps_10 : decode cX9_findSnaps 10 = .ok (.aload_n 0, 1) := by decide +kernel
theorem dX9_findSnaps_11 : decode cX9_findSnaps 11 = .ok (.getfield 42, 3) := by decide +kernel
theorem dX9_findSnaps_14 : decode cX9_findSnaps 14 = .ok (.iload_n 2, 1) := by decide +kernel
theorem dX9_findSnaps_15 : decode cX9_findSnaps 15 = .ok (.iconst 0, 1) := by decide +kernel
theorem dX9_findSnaps_16 : decode cX9_findSnaps 16 = .ok (.iastore, 1) := by decide +kernel
theorem dX9_findSnaps_17 : decode cX9_findSnaps 17 = .ok (.aload_n 0, 1) := by decide +kernel
theorem dX9_findSnaps_18 : decode cX9_findSnaps 18 = .ok (.iload_n 2, 1) := by decide +kernel
theorem dX9_findSnaps_19 : decode cX9_findSnaps 19 = .ok (.aload_n 0, 1) := by decide +kernel
theorem dX9_findSnaps_20 : decode cX9_findSnaps 20 = .ok (.iload_n 2, 1) := by decide +kernel
theorem dX9_findSnaps_21 : decode cX9_findSnaps 21 = .ok (.iload_n 1, 1) := by decide +kernel
theorem dX9_findSnaps_22 : decode cX9_findSnaps 22 = .ok (.invokevirtual 75, 3) := by decide +kernel
theorem dX9_findSnaps_25 : decode cX9_findSnaps 25 = .ok (.invokevirtual 152, 3) := by decide +kernel
theorem dX9_findSnaps_28 : decode cX9_findSnaps 28 = .ok (.iconst 0, 1) := by decide +kernel
theorem dX9_findSnaps_29 : decode cX9_findSnaps 29 = .ok (.istore_n 3, 1) := by decide +kernel
theorem dX9_findSnaps_30 : decode cX9_findSnaps 30 = .ok (.iload_n 3, 1) := by decide +kernel
theorem dX9_findSnaps_31 : decode cX9_findSnaps 31 = .ok (.aload_n 0, 1) := by decide +kernel
theorem dX9_findSnaps_32 : decode cX9_findSnaps 32 = .ok (.getfield 64, 3) := by decide +kernel
theorem dX9_findSnaps_35 : decode cX9_findSnaps 35 = .ok (.if_icmp .ge 90, 3) := by decide +kernel
theorem dX9_findSnaps_38 : decode cX9_findSnaps 38 = .ok (.iload_n 3, 1) := by decide +kernel
theorem dX9_findSnaps_39 : decode cX9_findSnaps 39 = .ok (.iload_n 2, 1) := by decide +kernel
theorem dX9_findSnaps_40 : decode cX9_findSnaps 40 = .ok (.if_icmp .eq 79, 3) := by decide +kernel
theorem dX9_findSnaps_43 : decode cX9_findSnaps 43 = .ok (.iconst 2, 1) := by decide +kernel
theorem dX9_findSnaps_44 : decode cX9_findSnaps 44 = .ok (.aload_n 0, 1) := by decide +kernel
theorem dX9_findSnaps_45 : decode cX9_findSnaps 45 = .ok (.iload_n 3, 1) := by decide +kernel
theorem dX9_findSnaps_46 : decode cX9_findSnaps 46 = .ok (.iload_n 1, 1) := by decide +kernel
theorem dX9_findSnaps_47 : decode cX9_findSnaps 47 = .ok (.invokevirtual 75, 3) := by decide +kernel
theorem dX9_findSnaps_50 : decode cX9_findSnaps 50 = .ok (.imul, 1) := by decide +kernel
theorem dX9_findSnaps_51 : decode cX9_findSnaps 51 = .ok (.aload_n 0, 1) := by decide +kernel
theorem dX9_findSnaps_52 : decode cX9_findSnaps 52 = .ok (.iload_n 3, 1) := by decide +kernel
theorem dX9_findSnaps_53 : decode cX9_findSnaps 53 = .ok (.iload_n 1, 1) := by decide +kernel
theorem dX9_findSnaps_54 : decode cX9_findSnaps 54 = .ok (.invokevirtual 79, 3) := by decide +kernel
theorem dX9_findSnaps_57 : decode cX9_findSnaps 57 = .ok (.iadd, 1) := by decide +kernel
theorem dX9_findSnaps_58 : decode cX9_findSnaps 58 = .ok (.aload_n 0, 1) := by decide +kernel
theorem dX9_findSnaps_59 : decode cX9_findSnaps 59 = .ok (.iload_n 2, 1) := by decide +kernel
theorem dX9_findSnaps_60 : decode cX9_findSnaps 60 = .ok (.iload_n 1, 1) := by decide +kernel
theorem dX9_findSnaps_61 : decode cX9_findSnaps 61 = .ok (.invokevirtual 79, 3) := by decide +kernel
theorem dX9_findSnaps_64 : decode cX9_findSnaps 64 = .ok (.isub, 1) := by decide +kernel
theorem dX9_findSnaps_65 : decode cX9_findSnaps 65 = .ok (.istore 4, 2) := by decide +kernel
theorem dX9_findSnaps_67 : decode cX9_findSnaps 67 = .ok (.aload_n 0, 1) := by decide +kernel
theorem dX9_findSnaps_68 : decode cX9_findSnaps 68 = .ok (.iload_n 2, 1) := by decide +kernel
theorem dX9_findSnaps_69 : decode cX9_findSnaps 69 = .ok (.aload_n 0, 1) := by decide +kernel
theorem dX9_findSnaps_70 : decode cX9_findSnaps 70 = .ok (.iload_n 3, 1) := by decide +kernel
theorem dX9_findSnaps_71 : decode cX9_findSnaps 71 = .ok (.iload_n 1, 1) := by decide +kernel
theorem dX9_findSnaps_72 : decode cX9_findSnaps 72 = .ok (.invokevirtual 75, 3) := by decide +kernel
theorem dX9_findSnaps_75 : decode cX9_findSnaps 75 = .ok (.invokevirtual 152, 3) := by decide +kernel
theorem dX9_findSnaps_78 : decode cX9_findSnaps 78 = .ok (.aload_n 0, 1) := by decide +kernel
theorem dX9_findSnaps_79 : decode cX9_findSnaps 79 = .ok (.iload_n 2, 1) := by decide +kernel
theorem dX9_findSnaps_80 : decode cX9_findSnaps 80 = .ok (.aload_n 0, 1) := by decide +kernel
theorem dX9_findSnaps_81 : decode cX9_findSnaps 81 = .ok (.iload_n 3, 1) := by decide +kernel
theorem dX9_findSnaps_82 : decode cX9_findSnaps 82 = .ok (.iload_n 1, 1) := by decide +kernel
theorem dX9_findSnaps_83 : decode cX9_findSnaps 83 = .ok (.invokevirtual 75, 3) := by decide +kernel
theorem dX9_findSnaps_86 : decode cX9_findSnaps 86 = .ok (.aload_n 0, 1) := by decide +kernel
theorem dX9_findSnaps_87 : decode cX9_findSnaps 87 = .ok (.iload_n 3, 1) := by decide +kernel
theorem dX9_findSnaps_88 : decode cX9_findSnaps 88 = .ok (.iload_n 1, 1) := by decide +kernel
theorem dX9_findSnaps_89 : decode cX9_findSnaps 89 = .ok (.invokevirtual 79, 3) := by decide +kernel
theorem dX9_findSnaps_92 : decode cX9_findSnaps 92 = .ok (.iadd, 1) := by decide +kernel
theorem dX9_findSnaps_93 : decode cX9_findSnaps 93 = .ok (.aload_n 0, 1) := by decide +kernel
theorem dX9_findSnaps_94 : decode cX9_findSnaps 94 = .ok (.iload_n 2, 1) := by decide +kernel
theorem dX9_findSnaps_95 : decode cX9_findSnaps 95 = .ok (.iload_n 1, 1) := by decide +kernel
theorem dX9_findSnaps_96 : decode cX9_findSnaps 96 = .ok (.invokevirtual 79, 3) := by decide +kernel
theorem dX9_findSnaps_99 : decode cX9_findSnaps 99 = .ok (.isub, 1) := by decide +kernel
theorem dX9_findSnaps_100 : decode cX9_findSnaps 100 = .ok (.invokevirtual 152, 3) := by decide +kernel
theorem dX9_findSnaps_103 : decode cX9_findSnaps 103 = .ok (.iload 4, 2) := by decide +kernel
theorem dX9_findSnaps_105 : decode cX9_findSnaps 105 = .ok (.iconst 2, 1) := by decide +kernel
theorem dX9_findSnaps_106 : decode cX9_findSnaps 106 = .ok (.irem, 1) := by decide +kernel
theorem dX9_findSnaps_107 : decode cX9_findSnaps 107 = .ok (.ifCond .ne 12, 3) := by decide +kernel
theorem dX9_findSnaps_110 : decode cX9_findSnaps 110 = .ok (.aload_n 0, 1) := by decide +kernel
theorem dX9_findSnaps_111 : decode cX9_findSnaps 111 = .ok (.iload_n 2, 1) := by decide +kernel
theorem dX9_findSnaps_112 : decode cX9_findSnaps 112 = .ok (.iload 4, 2) := by decide +kernel
theorem dX9_findSnaps_114 : decode cX9_findSnaps 114 = .ok (.iconst 2, 1) := by decide +kernel
theorem dX9_findSnaps_115 : decode cX9_findSnaps 115 = .ok (.idiv, 1) := by decide +kernel
theorem dX9_findSnaps_116 : decode cX9_findSnaps 116 = .ok (.invokevirtual 152, 3) := by decide +kernel
theorem dX9_findSnaps_119 : decode cX9_findSnaps 119 = .ok (.iinc 3 1, 3) := by decide +kernel
theorem dX9_findSnaps_122 : decode cX9_findSnaps 122 = .ok (.goto (-92), 3) := by decide +kernel
theorem dX9_findSnaps_125 : decode cX9_findSnaps 125 = .ok (.iinc 2 1, 3) := by decide +kernel
theorem dX9_findSnaps_128 : decode cX9_findSnaps 128 = .ok (.goto (-126), 3) := by decide +kernel
theorem dX9_findSnaps_131 : decode cX9_findSnaps 131 = .ok (.return_, 1) := by decide +kernel
theorem dX9_snaps_0 : decode cX9_snaps 0 = .ok (.aload_n 0, 1) := by decide +kernel
theorem dX9_snaps_1 : decode cX9_snaps 1 = .ok (.iconst 0, 1) := by decide +kernel
theorem dX9_snaps_2 : decode cX9_snaps 2 = .ok (.putfield 60, 3) := by decide +kernel
theorem dX9_snaps_5 : decode cX9_snaps 5 = .ok (.aload_n 0, 1) := by decide +kernel
theorem dX9_snaps_6 : decode cX9_snaps 6 = .ok (.aload_n 0, 1) := by decide +kernel
theorem dX9_snaps_7 : decode cX9_snaps 7 = .ok (.iload_n 1, 1) := by decide +kernel
theorem dX9_snaps_8 : decode cX9_snaps 8 = .ok (.invokevirtual 97, 3) := by decide +kernel
theorem dX9_snaps_11 : decode cX9_snaps 11 = .ok (.iconst 1, 1) := by decide +kernel
theorem dX9_snaps_12 : decode cX9_snaps 12 = .ok (.invokevirtual 89, 3) := by decide +kernel
theorem dX9_snaps_15 : decode cX9_snaps 15 = .ok (.ifCond .ne 24, 3) := by decide +kernel
theorem dX9_snaps_18 : decode cX9_snaps 18 = .ok (.aload_n 0, 1) := by decide +kernel
theorem dX9_snaps_19 : decode cX9_snaps 19 = .ok (.iload_n 2, 1) := by decide +kernel
theorem dX9_snaps_20 : decode cX9_snaps 20 = .ok (.invokestatic 101, 3) := by decide +kernel
theorem dX9_snaps_23 : decode cX9_snaps 23 = .ok (.iconst (-1), 1) := by decide +kernel
theorem dX9_snaps_24 : decode cX9_snaps 24 = .ok (.if_icmp .ne 7, 3) := by decide +kernel
theorem dX9_snaps_27 : decode cX9_snaps 27 = .ok (.iconst 1, 1) := by decide +kernel
theorem dX9_snaps_28 : decode cX9_snaps 28 = .ok (.goto 4, 3) := by decide +kernel
theorem dX9_snaps_31 : decode cX9_snaps 31 = .ok (.iconst 0, 1) := by decide +kernel
theorem dX9_snaps_32 : decode cX9_snaps 32 = .ok (.iconst 2, 1) := by decide +kernel
theorem dX9_snaps_33 : decode cX9_snaps 33 = .ok (.invokevirtual 89, 3) := by decide +kernel
theorem dX9_snaps_36 : decode cX9_snaps 36 = .ok (.ifCond .eq 5, 3) := by decide +kernel
theorem dX9_snaps_39 : decode cX9_snaps 39 = .ok (.iconst 0, 1) := by decide +kernel
theorem dX9_snaps_40 : decode cX9_snaps 40 = .ok (.ireturn, 1) := by decide +kernel
theorem dX9_snaps_41 : decode cX9_snaps 41 = .ok (.aload_n 0, 1) := by decide +kernel
theorem dX9_snaps_42 : decode cX9_snaps 42 = .ok (.iload_n 2, 1) := by decide +kernel
theorem dX9_snaps_43 : decode cX9_snaps 43 = .ok (.invokestatic 101, 3) := by decide +kernel
theorem dX9_snaps_46 : decode cX9_snaps 46 = .ok (.invokevirtual 156, 3) := by decide +kernel
theorem dX9_snaps_49 : decode cX9_snaps 49 = .ok (.aload_n 0, 1) := by decide +kernel
theorem dX9_snaps_50 : decode cX9_snaps 50 = .ok (.getfield 42, 3) := by decide +kernel
theorem dX9_snaps_53 : decode cX9_snaps 53 = .ok (.iload_n 1, 1) := by decide +kernel
theorem dX9_snaps_54 : decode cX9_snaps 54 = .ok (.iaload, 1) := by decide +kernel
theorem dX9_snaps_55 : decode cX9_snaps 55 = .ok (.ireturn, 1) := by decide +kernel
theorem dX9_isLower_0 : decode cX9_isLower 0 = .ok (.iconst 0, 1) := by decide +kernel
theorem dX9_isLower_1 : decode cX9_isLower 1 = .ok (.istore_n 1, 1) := by decide +kernel
theorem dX9_isLower_2 : decode cX9_isLower 2 = .ok (.iload_n 1, 1) := by decide +kernel
theorem dX9_isLower_3 : decode cX9_isLower 3 = .ok (.aload_n 0, 1) := by decide +kernel
theorem dX9_isLower_4 : decode cX9_isLower 4 = .ok (.getfield 64, 3) := by decide +kernel
theorem dX9_isLower_7 : decode cX9_isLower 7 = .ok (.if_icmp .ge 45, 3) := by decide +kernel
theorem dX9_isLower_10 : decode cX9_isLower 10 = .ok (.aload_n 0, 1) := by decide +kernel
theorem dX9_isLower_11 : decode cX9_isLower 11 = .ok (.getfield 48, 3) := by decide +kernel
theorem dX9_isLower_14 : decode cX9_isLower 14 = .ok (.iload_n 1, 1) := by decide +kernel
theorem dX9_isLower_15 : decode cX9_isLower 15 = .ok (.iaload, 1) := by decide +kernel
theorem dX9_isLower_16 : decode cX9_isLower 16 = .ok (.aload_n 0, 1) := by decide +kernel
theorem dX9_isLower_17 : decode cX9_isLower 17 = .ok (.getfield 51, 3) := by decide +kernel
theorem dX9_isLower_20 : decode cX9_isLower 20 = .ok (.iload_n 1, 1) := by decide +kernel
theorem dX9_isLower_21 : decode cX9_isLower 21 = .ok (.iaload, 1) := by decide +kernel
theorem dX9_isLower_22 : decode cX9_isLower 22 = .ok (.if_icmp .eq 24, 3) := by decide +kernel
theorem dX9_isLower_25 : decode cX9_isLower 25 = .ok (.aload_n 0, 1) := by decide +kernel
theorem dX9_isLower_26 : decode cX9_isLower 26 = .ok (.getfield 48, 3) := by decide +kernel
theorem dX9_isLower_29 : decode cX9_isLower 29 = .ok (.iload_n 1, 1) := by decide +kernel
theorem dX9_isLower_30 : decode cX9_isLower 30 = .ok (.iaload, 1) := by decide +kernel
theorem dX9_isLower_31 : decode cX9_isLower 31 = .ok (.aload_n 0, 1) := by decide +kernel
theorem dX9_isLower_32 : decode cX9_isLower 32 = .ok (.getfield 51, 3) := by decide +kernel
theorem dX9_isLower_35 : decode cX9_isLower 35 = .ok (.iload_n 1, 1) := by decide +kernel
theorem dX9_isLower_36 : decode cX9_isLower 36 = .ok (.iaload, 1) := by decide +kernel
theorem dX9_isLower_37 : decode cX9_isLower 37 = .ok (.if_icmp .ge 7, 3) := by decide +kernel
theorem dX9_isLower_40 : decode cX9_isLower 40 = .ok (.iconst 1, 1) := by decide +kernel
theorem dX9_isLower_41 : decode cX9_isLower 41 = .ok (.goto 4, 3) := by decide +kernel
theorem dX9_isLower_44 : decode cX9_isLower 44 = .ok (.iconst 0, 1) := by decide +kernel
theorem dX9_isLower_45 : decode cX9_isLower 45 = .ok (.ireturn, 1) := by decide +kernel
theorem dX9_isLower_46 : decode cX9_isLower 46 = .ok (.iinc 1 1, 3) := by decide +kernel
theorem dX9_isLower_49 : decode cX9_isLower 49 = .ok (.goto (-47), 3) := by decide +kernel
theorem dX9_isLower_52 : decode cX9_isLower 52 = .ok (.iconst 0, 1) := by decide +kernel
theorem dX9_isLower_53 : decode cX9_isLower 53 = .ok (.ireturn, 1) := by decide +kernel
theorem dX9_keeps_0 : decode cX9_keeps 0 = .ok (.aload_n 0, 1) := by decide +kernel
theorem dX9_keeps_1 : decode cX9_keeps 1 = .ok (.iconst 1, 1) := by decide +kernel
theorem dX9_keeps_2 : decode cX9_keeps 2 = .ok (.putfield 159, 3) := by decide +kernel
theorem dX9_keeps_5 : decode cX9_keeps 5 = .ok (.aload_n 0, 1) := by decide +kernel
theorem dX9_keeps_6 : decode cX9_keeps 6 = .ok (.iload_n 1, 1) := by decide +kernel
theorem dX9_keeps_7 : decode cX9_keeps 7 = .ok (.putfield 163, 3) := by decide +kernel
theorem dX9_keeps_10 : decode cX9_keeps 10 = .ok (.aload_n 0, 1) := by decide +kernel
theorem dX9_keeps_11 : decode cX9_keeps 11 = .ok (.iload_n 2, 1) := by decide +kernel
theorem dX9_keeps_12 : decode cX9_keeps 12 = .ok (.putfield 166, 3) := by decide +kernel
theorem dX9_keeps_15 : decode cX9_keeps 15 = .ok (.aload_n 0, 1) := by decide +kernel
theorem dX9_keeps_16 : decode cX9_keeps 16 = .ok (.iload_n 3, 1) := by decide +kernel
theorem dX9_keeps_17 : decode cX9_keeps 17 = .ok (.putfield 169, 3) := by decide +kernel
theorem dX9_keeps_20 : decode cX9_keeps 20 = .ok (.iconst 0, 1) := by decide +kernel
theorem dX9_keeps_21 : decode cX9_keeps 21 = .ok (.istore 4, 2) := by decide +kernel
theorem dX9_keeps_23 : decode cX9_keeps 23 = .ok (.iload 4, 2) := by decide +kernel
theorem dX9_keeps_25 : decode cX9_keeps 25 = .ok (.aload_n 0, 1) := by decide +kernel
theorem dX9_keeps_26 : decode cX9_keeps 26 = .ok (.getfield 64, 3) := by decide +kernel
theorem dX9_keeps_29 : decode cX9_keeps 29 = .ok (.if_icmp .ge 23, 3) := by decide +kernel
theorem dX9_keeps_32 : decode cX9_keeps 32 = .ok (.aload_n 0, 1) := by decide +kernel
theorem dX9_keeps_33 : decode cX9_keeps 33 = .ok (.getfield 51, 3) := by decide +kernel
theorem dX9_keeps_36 : decode cX9_keeps 36 = .ok (.iload 4, 2) := by decide +kernel
theorem dX9_keeps_38 : decode cX9_keeps 38 = .ok (.aload_n 0, 1) := by decide +kernel
theorem dX9_keeps_39 : decode cX9_keeps 39 = .ok (.getfield 48, 3) := by decide +kernel
theorem dX9_keeps_42 : decode cX9_keeps 42 = .ok (.iload 4, 2) := by decide +kernel
theorem dX9_keeps_44 : decode cX9_keeps 44 = .ok (.iaload, 1) := by decide +kernel
theorem dX9_keeps_45 : decode cX9_keeps 45 = .ok (.iastore, 1) := by decide +kernel
theorem dX9_keeps_46 : decode cX9_keeps 46 = .ok (.iinc 4 1, 3) := by decide +kernel
theorem dX9_keeps_49 : decode cX9_keeps 49 = .ok (.goto (-26), 3) := by decide +kernel
theorem dX9_keeps_52 : decode cX9_keeps 52 = .ok (.return_, 1) := by decide +kernel
theorem dX9_goesOn_0 : decode cX9_goesOn 0 = .ok (.iconst 0, 1) := by decide +kernel
theorem dX9_goesOn_1 : decode cX9_goesOn 1 = .ok (.istore_n 1, 1) := by decide +kernel
theorem dX9_goesOn_2 : decode cX9_goesOn 2 = .ok (.iload_n 1, 1) := by decide +kernel
theorem dX9_goesOn_3 : decode cX9_goesOn 3 = .ok (.aload_n 0, 1) := by decide +kernel
theorem dX9_goesOn_4 : decode cX9_goesOn 4 = .ok (.getfield 64, 3) := by decide +kernel
theorem dX9_goesOn_7 : decode cX9_goesOn 7 = .ok (.if_icmp .ge 43, 3) := by decide +kernel
theorem dX9_goesOn_10 : decode cX9_goesOn 10 = .ok (.aload_n 0, 1) := by decide +kernel
theorem dX9_goesOn_11 : decode cX9_goesOn 11 = .ok (.getfield 45, 3) := by decide +kernel
theorem dX9_goesOn_14 : decode cX9_goesOn 14 = .ok (.iload_n 1, 1) := by decide +kernel
theorem dX9_goesOn_15 : decode cX9_goesOn 15 = .ok (.dup2, 1) := by decide +kernel
theorem dX9_goesOn_16 : decode cX9_goesOn 16 = .ok (.iaload, 1) := by decide +kernel
theorem dX9_goesOn_17 : decode cX9_goesOn 17 = .ok (.iconst 1, 1) := by decide +kernel
theorem dX9_goesOn_18 : decode cX9_goesOn 18 = .ok (.iadd, 1) := by decide +kernel
theorem dX9_goesOn_19 : decode cX9_goesOn 19 = .ok (.iastore, 1) := by decide +kernel
theorem dX9_goesOn_20 : decode cX9_goesOn 20 = .ok (.aload_n 0, 1) := by decide +kernel
theorem dX9_goesOn_21 : decode cX9_goesOn 21 = .ok (.getfield 45, 3) := by decide +kernel
theorem dX9_goesOn_24 : decode cX9_goesOn 24 = .ok (.iload_n 1, 1) := by decide +kernel
theorem dX9_goesOn_25 : decode cX9_goesOn 25 = .ok (.iaload, 1) := by decide +kernel
theorem dX9_goesOn_26 : decode cX9_goesOn 26 = .ok (.aload_n 0, 1) := by decide +kernel
theorem dX9_goesOn_27 : decode cX9_goesOn 27 = .ok (.getfield 42, 3) := by decide +kernel
theorem dX9_goesOn_30 : decode cX9_goesOn 30 = .ok (.iload_n 1, 1) := by decide +kernel
theorem dX9_goesOn_31 : decode cX9_goesOn 31 = .ok (.iaload, 1) := by decide +kernel
theorem dX9_goesOn_32 : decode cX9_goesOn 32 = .ok (.if_icmp .ge 5, 3) := by decide +kernel
theorem dX9_goesOn_35 : decode cX9_goesOn 35 = .ok (.iconst 1, 1) := by decide +kernel
theorem dX9_goesOn_36 : decode cX9_goesOn 36 = .ok (.ireturn, 1) := by decide +kernel
theorem dX9_goesOn_37 : decode cX9_goesOn 37 = .ok (.aload_n 0, 1) := by decide +kernel
theorem dX9_goesOn_38 : decode cX9_goesOn 38 = .ok (.getfield 45, 3) := by decide +kernel
theorem dX9_goesOn_41 : decode cX9_goesOn 41 = .ok (.iload_n 1, 1) := by decide +kernel
theorem dX9_goesOn_42 : decode cX9_goesOn 42 = .ok (.iconst 0, 1) := by decide +kernel
theorem dX9_goesOn_43 : decode cX9_goesOn 43 = .ok (.iastore, 1) := by decide +kernel
theorem dX9_goesOn_44 : decode cX9_goesOn 44 = .ok (.iinc 1 1, 3) := by decide +kernel
theorem dX9_goesOn_47 : decode cX9_goesOn 47 = .ok (.goto (-45), 3) := by decide +kernel
theorem dX9_goesOn_50 : decode cX9_goesOn 50 = .ok (.iconst 0, 1) := by decide +kernel
theorem dX9_goesOn_51 : decode cX9_goesOn 51 = .ok (.ireturn, 1) := by decide +kernel
theorem dX9_findTidiest_0 : decode cX9_findTidiest 0 = .ok (.aload_n 0, 1) := by decide +kernel
theorem dX9_findTidiest_1 : decode cX9_findTidiest 1 = .ok (.iload_n 1, 1) := by decide +kernel
theorem dX9_findTidiest_2 : decode cX9_findTidiest 2 = .ok (.invokevirtual 156, 3) := by decide +kernel
theorem dX9_findTidiest_5 : decode cX9_findTidiest 5 = .ok (.aload_n 0, 1) := by decide +kernel
theorem dX9_findTidiest_6 : decode cX9_findTidiest 6 = .ok (.iconst 0, 1) := by decide +kernel
theorem dX9_findTidiest_7 : decode cX9_findTidiest 7 = .ok (.putfield 159, 3) := by decide +kernel
theorem dX9_findTidiest_10 : decode cX9_findTidiest 10 = .ok (.iconst 0, 1) := by decide +kernel
theorem dX9_findTidiest_11 : decode cX9_findTidiest 11 = .ok (.istore_n 2, 1) := by decide +kernel
theorem dX9_findTidiest_12 : decode cX9_findTidiest 12 = .ok (.iload_n 2, 1) := by decide +kernel
theorem dX9_findTidiest_13 : decode cX9_findTidiest 13 = .ok (.aload_n 0, 1) := by decide +kernel
theorem dX9_findTidiest_14 : decode cX9_findTidiest 14 = .ok (.getfield 64, 3) := by decide +kernel
theorem dX9_findTidiest_17 : decode cX9_findTidiest 17 = .ok (.if_icmp .ge 16, 3) := by decide +kernel
theorem dX9_findTidiest_20 : decode cX9_findTidiest 20 = .ok (.aload_n 0, 1) := by decide +kernel
theorem dX9_findTidiest_21 : decode cX9_findTidiest 21 = .ok (.getfield 45, 3) := by decide +kernel
theorem dX9_findTidiest_24 : decode cX9_findTidiest 24 = .ok (.iload_n 2, 1) := by decide +kernel
theorem dX9_findTidiest_25 : decode cX9_findTidiest 25 = .ok (.iconst 0, 1) := by decide +kernel
theorem dX9_findTidiest_26 : decode cX9_findTidiest 26 = .ok (.iastore, 1) := by decide +kernel
theorem dX9_findTidiest_27 : decode cX9_findTidiest 27 = .ok (.iinc 2 1, 3) := by decide +kernel
theorem dX9_findTidiest_30 : decode cX9_findTidiest 30 = .ok (.goto (-18), 3) := by decide +kernel
theorem dX9_findTidiest_33 : decode cX9_findTidiest 33 = .ok (.iconst 1, 1) := by decide +kernel
theorem dX9_findTidiest_34 : decode cX9_findTidiest 34 = .ok (.istore_n 2, 1) := by decide +kernel
theorem dX9_findTidiest_35 : decode cX9_findTidiest 35 = .ok (.iload_n 2, 1) := by decide +kernel
theorem dX9_findTidiest_36 : decode cX9_findTidiest 36 = .ok (.ifCond .eq 138, 3) := by decide +kernel
theorem dX9_findTidiest_39 : decode cX9_findTidiest 39 = .ok (.iconst 0, 1) := by decide +kernel
theorem dX9_findTidiest_40 : decode cX9_findTidiest 40 = .ok (.istore_n 3, 1) := by decide +kernel
theorem dX9_findTidiest_41 : decode cX9_findTidiest 41 = .ok (.iload_n 3, 1) := by decide +kernel
theorem dX9_findTidiest_42 : decode cX9_findTidiest 42 = .ok (.aload_n 0, 1) := by decide +kernel
theorem dX9_findTidiest_43 : decode cX9_findTidiest 43 = .ok (.getfield 64, 3) := by decide +kernel
theorem dX9_findTidiest_46 : decode cX9_findTidiest 46 = .ok (.if_icmp .ge 31, 3) := by decide +kernel
theorem dX9_findTidiest_49 : decode cX9_findTidiest 49 = .ok (.aload_n 0, 1) := by decide +kernel
theorem dX9_findTidiest_50 : decode cX9_findTidiest 50 = .ok (.getfield 48, 3) := by decide +kernel
theorem dX9_findTidiest_53 : decode cX9_findTidiest 53 = .ok (.iload_n 3, 1) := by decide +kernel
theorem dX9_findTidiest_54 : decode cX9_findTidiest 54 = .ok (.aload_n 0, 1) := by decide +kernel
theorem dX9_findTidiest_55 : decode cX9_findTidiest 55 = .ok (.getfield 39, 3) := by decide +kernel
theorem dX9_findTidiest_58 : decode cX9_findTidiest 58 = .ok (.bipush 10, 2) := by decide +kernel
theorem dX9_findTidiest_60 : decode cX9_findTidiest 60 = .ok (.iload_n 3, 1) := by decide +kernel
theorem dX9_findTidiest_61 : decode cX9_findTidiest 61 = .ok (.imul, 1) := by decide +kernel
theorem dX9_findTidiest_62 : decode cX9_findTidiest 62 = .ok (.aload_n 0, 1) := by decide +kernel
theorem dX9_findTidiest_63 : decode cX9_findTidiest 63 = .ok (.getfield 45, 3) := by decide +kernel
theorem dX9_findTidiest_66 : decode cX9_findTidiest 66 = .ok (.iload_n 3, 1) := by decide +kernel
theorem dX9_findTidiest_67 : decode cX9_findTidiest 67 = .ok (.iaload, 1) := by decide +kernel
theorem dX9_findTidiest_68 : decode cX9_findTidiest 68 = .ok (.iadd, 1) := by decide +kernel
theorem dX9_findTidiest_69 : decode cX9_findTidiest 69 = .ok (.iaload, 1) := by decide +kernel
theorem dX9_findTidiest_70 : decode cX9_findTidiest 70 = .ok (.iastore, 1) := by decide +kernel
theorem dX9_findTidiest_71 : decode cX9_findTidiest 71 = .ok (.iinc 3 1, 3) := by decide +kernel
theorem dX9_findTidiest_74 : decode cX9_findTidiest 74 = .ok (.goto (-33), 3) := by decide +kernel
theorem dX9_findTidiest_77 : decode cX9_findTidiest 77 = .ok (.aload_n 0, 1) := by decide +kernel
theorem dX9_findTidiest_78 : decode cX9_findTidiest 78 = .ok (.iload_n 1, 1) := by decide +kernel
theorem dX9_findTidiest_79 : decode cX9_findTidiest 79 = .ok (.invokevirtual 172, 3) := by decide +kernel
theorem dX9_findTidiest_82 : decode cX9_findTidiest 82 = .ok (.ifCond .eq 84, 3) := by decide +kernel
theorem dX9_findTidiest_85 : decode cX9_findTidiest 85 = .ok (.aload_n 0, 1) := by decide +kernel
theorem dX9_findTidiest_86 : decode cX9_findTidiest 86 = .ok (.iload_n 1, 1) := by decide +kernel
theorem dX9_findTidiest_87 : decode cX9_findTidiest 87 = .ok (.invokevirtual 175, 3) := by decide +kernel
theorem dX9_findTidiest_90 : decode cX9_findTidiest 90 = .ok (.istore_n 3, 1) := by decide +kernel
theorem dX9_findTidiest_91 : decode cX9_findTidiest 91 = .ok (.aload_n 0, 1) := by decide +kernel
theorem dX9_findTidiest_92 : decode cX9_findTidiest 92 = .ok (.iload_n 1, 1) := by decide +kernel
theorem dX9_findTidiest_93 : decode cX9_findTidiest 93 = .ok (.invokevirtual 149, 3) := by decide +kernel
theorem dX9_findTidiest_96 : decode cX9_findTidiest 96 = .ok (.istore 4, 2) := by decide +kernel
theorem dX9_findTidiest_98 : decode cX9_findTidiest 98 = .ok (.aload_n 0, 1) := by decide +kernel
theorem dX9_findTidiest_99 : decode cX9_findTidiest 99 = .ok (.getfield 159, 3) := by decide +kernel
theorem dX9_findTidiest_102 : decode cX9_findTidiest 102 = .ok (.ifCond .eq 44, 3) := by decide +kernel
theorem dX9_findTidiest_105 : decode cX9_findTidiest 105 = .ok (.iload 4, 2) := by decide +kernel
theorem dX9_findTidiest_107 : decode cX9_findTidiest 107 = .ok (.aload_n 0, 1) := by decide +kernel
theorem dX9_findTidiest_108 : decode cX9_findTidiest 108 = .ok (.getfield 166, 3) := by decide +kernel
theorem dX9_findTidiest_111 : decode cX9_findTidiest 111 = .ok (.if_icmp .gt 35, 3) := by decide +kernel
theorem dX9_findTidiest_114 : decode cX9_findTidiest 114 = .ok (.iload 4, 2) := by decide +kernel
theorem dX9_findTidiest_116 : decode cX9_findTidiest 116 = .ok (.aload_n 0, 1) := by decide +kernel
theorem dX9_findTidiest_117 : decode cX9_findTidiest 117 = .ok (.getfield 166, 3) := by decide +kernel
theorem dX9_findTidiest_120 : decode cX9_findTidiest 120 = .ok (.if_icmp .ne 30, 3) := by decide +kernel
theorem dX9_findTidiest_123 : decode cX9_findTidiest 123 = .ok (.iload_n 3, 1) := by decide +kernel
theorem dX9_findTidiest_124 : decode cX9_findTidiest 124 = .ok (.aload_n 0, 1) := by decide +kernel
theorem dX9_findTidiest_125 : decode cX9_findTidiest 125 = .ok (.getfield 163, 3) := by decide +kernel
theorem dX9_findTidiest_128 : decode cX9_findTidiest 128 = .ok (.if_icmp .lt 18, 3) := by decide +kernel
theorem dX9_findTidiest_131 : decode cX9_findTidiest 131 = .ok (.iload_n 3, 1) := by decide +kernel
theorem dX9_findTidiest_132 : decode cX9_findTidiest 132 = .ok (.aload_n 0, 1) := by decide +kernel
theorem dX9_findTidiest_133 : decode cX9_findTidiest 133 = .ok (.getfield 163, 3) := by decide +kernel
theorem dX9_findTidiest_136 : decode cX9_findTidiest 136 = .ok (.if_icmp .ne 14, 3) := by decide +kernel
theorem dX9_findTidiest_139 : decode cX9_findTidiest 139 = .ok (.aload_n 0, 1) := by decide +kernel
theorem dX9_findTidiest_140 : decode cX9_findTidiest 140 = .ok (.invokevirtual 178, 3) := by decide +kernel
theorem dX9_findTidiest_143 : decode cX9_findTidiest 143 = .ok (.ifCond .eq 7, 3) := by decide +kernel
theorem dX9_findTidiest_146 : decode cX9_findTidiest 146 = .ok (.iconst 1, 1) := by decide +kernel
theorem dX9_findTidiest_147 : decode cX9_findTidiest 147 = .ok (.goto 4, 3) := by decide +kernel
theorem dX9_findTidiest_150 : decode cX9_findTidiest 150 = .ok (.iconst 0, 1) := by decide +kernel
theorem dX9_findTidiest_151 : decode cX9_findTidiest 151 = .ok (.istore 5, 2) := by decide +kernel
theorem dX9_findTidiest_153 : decode cX9_findTidiest 153 = .ok (.iload 5, 2) := by decide +kernel
theorem dX9_findTidiest_155 : decode cX9_findTidiest 155 = .ok (.ifCond .eq 11, 3) := by decide +kernel
theorem dX9_findTidiest_158 : decode cX9_findTidiest 158 = .ok (.aload_n 0, 1) := by decide +kernel
theorem dX9_findTidiest_159 : decode cX9_findTidiest 159 = .ok (.iload_n 3, 1) := by decide +kernel
theorem dX9_findTidiest_160 : decode cX9_findTidiest 160 = .ok (.iload 4, 2) := by decide +kernel
theorem dX9_findTidiest_162 : decode cX9_findTidiest 162 = .ok (.iconst 0, 1) := by decide +kernel
theorem dX9_findTidiest_163 : decode cX9_findTidiest 163 = .ok (.invokevirtual 182, 3) := by decide +kernel
theorem dX9_findTidiest_166 : decode cX9_findTidiest 166 = .ok (.aload_n 0, 1) := by decide +kernel
theorem dX9_findTidiest_167 : decode cX9_findTidiest 167 = .ok (.invokevirtual 186, 3) := by decide +kernel
theorem dX9_findTidiest_170 : decode cX9_findTidiest 170 = .ok (.istore_n 2, 1) := by decide +kernel
theorem dX9_findTidiest_171 : decode cX9_findTidiest 171 = .ok (.goto (-136), 3) := by decide +kernel
theorem dX9_findTidiest_174 : decode cX9_findTidiest 174 = .ok (.return_, 1) := by decide +kernel
theorem dX9_tidies_0 : decode cX9_tidies 0 = .ok (.aload_n 0, 1) := by decide +kernel
theorem dX9_tidies_1 : decode cX9_tidies 1 = .ok (.iconst 0, 1) := by decide +kernel
theorem dX9_tidies_2 : decode cX9_tidies 2 = .ok (.putfield 60, 3) := by decide +kernel
theorem dX9_tidies_5 : decode cX9_tidies 5 = .ok (.aload_n 0, 1) := by decide +kernel
theorem dX9_tidies_6 : decode cX9_tidies 6 = .ok (.iload_n 1, 1) := by decide +kernel
theorem dX9_tidies_7 : decode cX9_tidies 7 = .ok (.invokestatic 101, 3) := by decide +kernel
theorem dX9_tidies_10 : decode cX9_tidies 10 = .ok (.iconst (-1), 1) := by decide +kernel
theorem dX9_tidies_11 : decode cX9_tidies 11 = .ok (.if_icmp .ne 7, 3) := by decide +kernel
theorem dX9_tidies_14 : decode cX9_tidies 14 = .ok (.iconst 1, 1) := by decide +kernel
theorem dX9_tidies_15 : decode cX9_tidies 15 = .ok (.goto 4, 3) := by decide +kernel
theorem dX9_tidies_18 : decode cX9_tidies 18 = .ok (.iconst 0, 1) := by decide +kernel
theorem dX9_tidies_19 : decode cX9_tidies 19 = .ok (.iconst 1, 1) := by decide +kernel
theorem dX9_tidies_20 : decode cX9_tidies 20 = .ok (.invokevirtual 89, 3) := by decide +kernel
theorem dX9_tidies_23 : decode cX9_tidies 23 = .ok (.ifCond .eq 5, 3) := by decide +kernel
theorem dX9_tidies_26 : decode cX9_tidies 26 = .ok (.iconst 0, 1) := by decide +kernel
theorem dX9_tidies_27 : decode cX9_tidies 27 = .ok (.ireturn, 1) := by decide +kernel
theorem dX9_tidies_28 : decode cX9_tidies 28 = .ok (.aload_n 0, 1) := by decide +kernel
theorem dX9_tidies_29 : decode cX9_tidies 29 = .ok (.iload_n 1, 1) := by decide +kernel
theorem dX9_tidies_30 : decode cX9_tidies 30 = .ok (.invokestatic 101, 3) := by decide +kernel
theorem dX9_tidies_33 : decode cX9_tidies 33 = .ok (.invokevirtual 189, 3) := by decide +kernel
theorem dX9_tidies_36 : decode cX9_tidies 36 = .ok (.iconst 1, 1) := by decide +kernel
theorem dX9_tidies_37 : decode cX9_tidies 37 = .ok (.ireturn, 1) := by decide +kernel
theorem dX9_bestStrength_0 : decode cX9_bestStrength 0 = .ok (.aload_n 0, 1) := by decide +kernel
theorem dX9_bestStrength_1 : decode cX9_bestStrength 1 = .ok (.iload_n 1, 1) := by decide +kernel
theorem dX9_bestStrength_2 : decode cX9_bestStrength 2 = .ok (.invokevirtual 192, 3) := by decide +kernel
theorem dX9_bestStrength_5 : decode cX9_bestStrength 5 = .ok (.ifCond .eq 10, 3) := by decide +kernel
theorem dX9_bestStrength_8 : decode cX9_bestStrength 8 = .ok (.aload_n 0, 1) := by decide +kernel
theorem dX9_bestStrength_9 : decode cX9_bestStrength 9 = .ok (.getfield 166, 3) := by decide +kernel
theorem dX9_bestStrength_12 : decode cX9_bestStrength 12 = .ok (.goto 4, 3) := by decide +kernel
theorem dX9_bestStrength_15 : decode cX9_bestStrength 15 = .ok (.iconst 0, 1) := by decide +kernel
theorem dX9_bestStrength_16 : decode cX9_bestStrength 16 = .ok (.ireturn, 1) := by decide +kernel
theorem dX9_bestByAll_0 : decode cX9_bestByAll 0 = .ok (.aload_n 0, 1) := by decide +kernel
theorem dX9_bestByAll_1 : decode cX9_bestByAll 1 = .ok (.iload_n 1, 1) := by decide +kernel
theorem dX9_bestByAll_2 : decode cX9_bestByAll 2 = .ok (.invokevirtual 196, 3) := by decide +kernel
theorem dX9_bestByAll_5 : decode cX9_bestByAll 5 = .ok (.ireturn, 1) := by decide +kernel
theorem dX9_tidyCost_0 : decode cX9_tidyCost 0 = .ok (.aload_n 0, 1) := by decide +kernel
theorem dX9_tidyCost_1 : decode cX9_tidyCost 1 = .ok (.iload_n 1, 1) := by decide +kernel
theorem dX9_tidyCost_2 : decode cX9_tidyCost 2 = .ok (.invokevirtual 192, 3) := by decide +kernel
theorem dX9_tidyCost_5 : decode cX9_tidyCost 5 = .ok (.ifCond .eq 10, 3) := by decide +kernel
theorem dX9_tidyCost_8 : decode cX9_tidyCost 8 = .ok (.aload_n 0, 1) := by decide +kernel
theorem dX9_tidyCost_9 : decode cX9_tidyCost 9 = .ok (.getfield 163, 3) := by decide +kernel
theorem dX9_tidyCost_12 : decode cX9_tidyCost 12 = .ok (.goto 4, 3) := by decide +kernel
theorem dX9_tidyCost_15 : decode cX9_tidyCost 15 = .ok (.iconst 0, 1) := by decide +kernel
theorem dX9_tidyCost_16 : decode cX9_tidyCost 16 = .ok (.ireturn, 1) := by decide +kernel
theorem dX9_tidyStart_0 : decode cX9_tidyStart 0 = .ok (.aload_n 0, 1) := by decide +kernel
theorem dX9_tidyStart_1 : decode cX9_tidyStart 1 = .ok (.iconst 0, 1) := by decide +kernel
theorem dX9_tidyStart_2 : decode cX9_tidyStart 2 = .ok (.putfield 60, 3) := by decide +kernel
theorem dX9_tidyStart_5 : decode cX9_tidyStart 5 = .ok (.aload_n 0, 1) := by decide +kernel
theorem dX9_tidyStart_6 : decode cX9_tidyStart 6 = .ok (.aload_n 0, 1) := by decide +kernel
theorem dX9_tidyStart_7 : decode cX9_tidyStart 7 = .ok (.iload_n 1, 1) := by decide +kernel
theorem dX9_tidyStart_8 : decode cX9_tidyStart 8 = .ok (.invokevirtual 97, 3) := by decide +kernel
theorem dX9_tidyStart_11 : decode cX9_tidyStart 11 = .ok (.iconst 1, 1) := by decide +kernel
theorem dX9_tidyStart_12 : decode cX9_tidyStart 12 = .ok (.invokevirtual 89, 3) := by decide +kernel
theorem dX9_tidyStart_15 : decode cX9_tidyStart 15 = .ok (.ifCond .ne 24, 3) := by decide +kernel
theorem dX9_tidyStart_18 : decode cX9_tidyStart 18 = .ok (.aload_n 0, 1) := by decide +kernel
theorem dX9_tidyStart_19 : decode cX9_tidyStart 19 = .ok (.iload_n 2, 1) := by decide +kernel
theorem dX9_tidyStart_20 : decode cX9_tidyStart 20 = .ok (.invokestatic 101, 3) := by decide +kernel
theorem dX9_tidyStart_23 : decode cX9_tidyStart 23 = .ok (.iconst (-1), 1) := by decide +kernel
theorem dX9_tidyStart_24 : decode cX9_tidyStart 24 = .ok (.if_icmp .ne 7, 3) := by decide +kernel
theorem dX9_tidyStart_27 : decode cX9_tidyStart 27 = .ok (.iconst 1, 1) := by decide +kernel
theorem dX9_tidyStart_28 : decode cX9_tidyStart 28 = .ok (.goto 4, 3) := by decide +kernel
theorem dX9_tidyStart_31 : decode cX9_tidyStart 31 = .ok (.iconst 0, 1) := by decide +kernel
theorem dX9_tidyStart_32 : decode cX9_tidyStart 32 = .ok (.iconst 2, 1) := by decide +kernel
theorem dX9_tidyStart_33 : decode cX9_tidyStart 33 = .ok (.invokevirtual 89, 3) := by decide +kernel
theorem dX9_tidyStart_36 : decode cX9_tidyStart 36 = .ok (.ifCond .eq 5, 3) := by decide +kernel
theorem dX9_tidyStart_39 : decode cX9_tidyStart 39 = .ok (.iconst 0, 1) := by decide +kernel
theorem dX9_tidyStart_40 : decode cX9_tidyStart 40 = .ok (.ireturn, 1) := by decide +kernel
theorem dX9_tidyStart_41 : decode cX9_tidyStart 41 = .ok (.aload_n 0, 1) := by decide +kernel
theorem dX9_tidyStart_42 : decode cX9_tidyStart 42 = .ok (.iload_n 2, 1) := by decide +kernel
theorem dX9_tidyStart_43 : decode cX9_tidyStart 43 = .ok (.invokestatic 101, 3) := by decide +kernel
theorem dX9_tidyStart_46 : decode cX9_tidyStart 46 = .ok (.invokevirtual 189, 3) := by decide +kernel
theorem dX9_tidyStart_49 : decode cX9_tidyStart 49 = .ok (.aload_n 0, 1) := by decide +kernel
theorem dX9_tidyStart_50 : decode cX9_tidyStart 50 = .ok (.getfield 51, 3) := by decide +kernel
theorem dX9_tidyStart_53 : decode cX9_tidyStart 53 = .ok (.iload_n 1, 1) := by decide +kernel
theorem dX9_tidyStart_54 : decode cX9_tidyStart 54 = .ok (.iaload, 1) := by decide +kernel
theorem dX9_tidyStart_55 : decode cX9_tidyStart 55 = .ok (.ireturn, 1) := by decide +kernel
theorem dX9_movesToBest_0 : decode cX9_movesToBest 0 = .ok (.iconst 0, 1) := by decide +kernel
theorem dX9_movesToBest_1 : decode cX9_movesToBest 1 = .ok (.istore_n 2, 1) := by decide +kernel
theorem dX9_movesToBest_2 : decode cX9_movesToBest 2 = .ok (.iload_n 2, 1) := by decide +kernel
theorem dX9_movesToBest_3 : decode cX9_movesToBest 3 = .ok (.aload_n 0, 1) := by decide +kernel
theorem dX9_movesToBest_4 : decode cX9_movesToBest 4 = .ok (.getfield 64, 3) := by decide +kernel
theorem dX9_movesToBest_7 : decode cX9_movesToBest 7 = .ok (.if_icmp .ge 25, 3) := by decide +kernel
theorem dX9_movesToBest_10 : decode cX9_movesToBest 10 = .ok (.aload_n 0, 1) := by decide +kernel
theorem dX9_movesToBest_11 : decode cX9_movesToBest 11 = .ok (.getfield 7, 3) := by decide +kernel
theorem dX9_movesToBest_14 : decode cX9_movesToBest 14 = .ok (.iconst 2, 1) := by decide +kernel
theorem dX9_movesToBest_15 : decode cX9_movesToBest 15 = .ok (.iload_n 2, 1) := by decide +kernel
theorem dX9_movesToBest_16 : decode cX9_movesToBest 16 = .ok (.imul, 1) := by decide +kernel
theorem dX9_movesToBest_17 : decode cX9_movesToBest 17 = .ok (.iload_n 1, 1) := by decide +kernel
theorem dX9_movesToBest_18 : decode cX9_movesToBest 18 = .ok (.iadd, 1) := by decide +kernel
theorem dX9_movesToBest_19 : decode cX9_movesToBest 19 = .ok (.aload_n 0, 1) := by decide +kernel
theorem dX9_movesToBest_20 : decode cX9_movesToBest 20 = .ok (.getfield 51, 3) := by decide +kernel
theorem dX9_movesToBest_23 : decode cX9_movesToBest 23 = .ok (.iload_n 2, 1) := by decide +kernel
theorem dX9_movesToBest_24 : decode cX9_movesToBest 24 = .ok (.iaload, 1) := by decide +kernel
theorem dX9_movesToBest_25 : decode cX9_movesToBest 25 = .ok (.iastore, 1) := by decide +kernel
theorem dX9_movesToBest_26 : decode cX9_movesToBest 26 = .ok (.iinc 2 1, 3) := by decide +kernel
theorem dX9_movesToBest_29 : decode cX9_movesToBest 29 = .ok (.goto (-27), 3) := by decide +kernel
theorem dX9_movesToBest_32 : decode cX9_movesToBest 32 = .ok (.aload_n 0, 1) := by decide +kernel
theorem dX9_movesToBest_33 : decode cX9_movesToBest 33 = .ok (.dup, 1) := by decide +kernel
theorem dX9_movesToBest_34 : decode cX9_movesToBest 34 = .ok (.getfield 112, 3) := by decide +kernel
theorem dX9_movesToBest_37 : decode cX9_movesToBest 37 = .ok (.aload_n 0, 1) := by decide +kernel
theorem dX9_movesToBest_38 : decode cX9_movesToBest 38 = .ok (.getfield 163, 3) := by decide +kernel
theorem dX9_movesToBest_41 : decode cX9_movesToBest 41 = .ok (.i2l, 1) := by decide +kernel
theorem dX9_movesToBest_42 : decode cX9_movesToBest 42 = .ok (.ladd, 1) := by decide +kernel
theorem dX9_movesToBest_43 : decode cX9_movesToBest 43 = .ok (.putfield 112, 3) := by decide +kernel
theorem dX9_movesToBest_46 : decode cX9_movesToBest 46 = .ok (.return_, 1) := by decide +kernel
theorem dX9_tidy_0 : decode cX9_tidy 0 = .ok (.aload_n 0, 1) := by decide +kernel
theorem dX9_tidy_1 : decode cX9_tidy 1 = .ok (.iload_n 1, 1) := by decide +kernel
theorem dX9_tidy_2 : decode cX9_tidy 2 = .ok (.invokevirtual 192, 3) := by decide +kernel
theorem dX9_tidy_5 : decode cX9_tidy 5 = .ok (.ifCond .ne 5, 3) := by decide +kernel
theorem dX9_tidy_8 : decode cX9_tidy 8 = .ok (.iconst 0, 1) := by decide +kernel
theorem dX9_tidy_9 : decode cX9_tidy 9 = .ok (.ireturn, 1) := by decide +kernel
theorem dX9_tidy_10 : decode cX9_tidy 10 = .ok (.aload_n 0, 1) := by decide +kernel
theorem dX9_tidy_11 : decode cX9_tidy 11 = .ok (.iload_n 1, 1) := by decide +kernel
theorem dX9_tidy_12 : decode cX9_tidy 12 = .ok (.invokestatic 101, 3) := by decide +kernel
theorem dX9_tidy_15 : decode cX9_tidy 15 = .ok (.invokevirtual 199, 3) := by decide +kernel
theorem dX9_tidy_18 : decode cX9_tidy 18 = .ok (.aload_n 0, 1) := by decide +kernel
theorem dX9_tidy_19 : decode cX9_tidy 19 = .ok (.getfield 163, 3) := by decide +kernel
theorem dX9_tidy_22 : decode cX9_tidy 22 = .ok (.ireturn, 1) := by decide +kernel
theorem dX9_findEvenest_0 : decode cX9_findEvenest 0 = .ok (.aload_n 0, 1) := by decide +kernel
theorem dX9_findEvenest_1 : decode cX9_findEvenest 1 = .ok (.iconst 0, 1) := by decide +kernel
theorem dX9_findEvenest_2 : decode cX9_findEvenest 2 = .ok (.putfield 159, 3) := by decide +kernel
theorem dX9_findEvenest_5 : decode cX9_findEvenest 5 = .ok (.iconst 0, 1) := by decide +kernel
theorem dX9_findEvenest_6 : decode cX9_findEvenest 6 = .ok (.istore_n 2, 1) := by decide +kernel
theorem dX9_findEvenest_7 : decode cX9_findEvenest 7 = .ok (.iload_n 2, 1) := by decide +kernel
theorem dX9_findEvenest_8 : decode cX9_findEvenest 8 = .ok (.aload_n 0, 1) := by decide +kernel
theorem dX9_findEvenest_9 : decode cX9_findEvenest 9 = .ok (.getfield 64, 3) := by decide +kernel
theorem dX9_findEvenest_12 : decode cX9_findEvenest 12 = .ok (.if_icmp .ge 82, 3) := by decide +kernel
theorem dX9_findEvenest_15 : decode cX9_findEvenest 15 = .ok (.iconst 0, 1) := by decide +kernel
theorem dX9_findEvenest_16 : decode cX9_findEvenest 16 = .ok (.istore_n 3, 1) := by decide +kernel
theorem dX9_findEvenest_17 : decode cX9_findEvenest 17 = .ok (.iconst 0, 1) := by decide +kernel
theorem dX9_findEvenest_18 : decode cX9_findEvenest 18 = .ok (.istore 4, 2) := by decide +kernel
theorem dX9_findEvenest_20 : decode cX9_findEvenest 20 = .ok (.iload 4, 2) := by decide +kernel
theorem dX9_findEvenest_22 : decode cX9_findEvenest 22 = .ok (.aload_n 0, 1) := by decide +kernel
theorem dX9_findEvenest_23 : decode cX9_findEvenest 23 = .ok (.getfield 64, 3) := by decide +kernel
theorem dX9_findEvenest_26 : decode cX9_findEvenest 26 = .ok (.if_icmp .ge 55, 3) := by decide +kernel
theorem dX9_findEvenest_29 : decode cX9_findEvenest 29 = .ok (.iload_n 3, 1) := by decide +kernel
theorem dX9_findEvenest_30 : decode cX9_findEvenest 30 = .ok (.aload_n 0, 1) := by decide +kernel
theorem dX9_findEvenest_31 : decode cX9_findEvenest 31 = .ok (.iload 4, 2) := by decide +kernel
theorem dX9_findEvenest_33 : decode cX9_findEvenest 33 = .ok (.iload_n 1, 1) := by decide +kernel
theorem dX9_findEvenest_34 : decode cX9_findEvenest 34 = .ok (.invokevirtual 75, 3) := by decide +kernel
theorem dX9_findEvenest_37 : decode cX9_findEvenest 37 = .ok (.aload_n 0, 1) := by decide +kernel
theorem dX9_findEvenest_38 : decode cX9_findEvenest 38 = .ok (.iload_n 2, 1) := by decide +kernel
theorem dX9_findEvenest_39 : decode cX9_findEvenest 39 = .ok (.iload_n 1, 1) := by decide +kernel
theorem dX9_findEvenest_40 : decode cX9_findEvenest 40 = .ok (.invokevirtual 75, 3) := by decide +kernel
theorem dX9_findEvenest_43 : decode cX9_findEvenest 43 = .ok (.if_icmp .lt 25, 3) := by decide +kernel
theorem dX9_findEvenest_46 : decode cX9_findEvenest 46 = .ok (.aload_n 0, 1) := by decide +kernel
theorem dX9_findEvenest_47 : decode cX9_findEvenest 47 = .ok (.iload 4, 2) := by decide +kernel
theorem dX9_findEvenest_49 : decode cX9_findEvenest 49 = .ok (.iload_n 1, 1) := by decide +kernel
theorem dX9_findEvenest_50 : decode cX9_findEvenest 50 = .ok (.invokevirtual 75, 3) := by decide +kernel
theorem dX9_findEvenest_53 : decode cX9_findEvenest 53 = .ok (.aload_n 0, 1) := by decide +kernel
theorem dX9_findEvenest_54 : decode cX9_findEvenest 54 = .ok (.iload_n 2, 1) := by decide +kernel
theorem dX9_findEvenest_55 : decode cX9_findEvenest 55 = .ok (.iload_n 1, 1) := by decide +kernel
theorem dX9_findEvenest_56 : decode cX9_findEvenest 56 = .ok (.invokevirtual 75, 3) := by decide +kernel
theorem dX9_findEvenest_59 : decode cX9_findEvenest 59 = .ok (.if_icmp .ne 13, 3) := by decide +kernel
theorem dX9_findEvenest_62 : decode cX9_findEvenest 62 = .ok (.iload 4, 2) := by decide +kernel
theorem dX9_findEvenest_64 : decode cX9_findEvenest 64 = .ok (.iload_n 2, 1) := by decide +kernel
theorem dX9_findEvenest_65 : decode cX9_findEvenest 65 = .ok (.if_icmp .ge 7, 3) := by decide +kernel
theorem dX9_findEvenest_68 : decode cX9_findEvenest 68 = .ok (.iconst 1, 1) := by decide +kernel
theorem dX9_findEvenest_69 : decode cX9_findEvenest 69 = .ok (.goto 4, 3) := by decide +kernel
theorem dX9_findEvenest_72 : decode cX9_findEvenest 72 = .ok (.iconst 0, 1) := by decide +kernel
theorem dX9_findEvenest_73 : decode cX9_findEvenest 73 = .ok (.iadd, 1) := by decide +kernel
theorem dX9_findEvenest_74 : decode cX9_findEvenest 74 = .ok (.istore_n 3, 1) := by decide +kernel
theorem dX9_findEvenest_75 : decode cX9_findEvenest 75 = .ok (.iinc 4 1, 3) := by decide +kernel
theorem dX9_findEvenest_78 : decode cX9_findEvenest 78 = .ok (.goto (-58), 3) := by decide +kernel
theorem dX9_findEvenest_81 : decode cX9_findEvenest 81 = .ok (.aload_n 0, 1) := by decide +kernel
theorem dX9_findEvenest_82 : decode cX9_findEvenest 82 = .ok (.getfield 57, 3) := by decide +kernel
theorem dX9_findEvenest_85 : decode cX9_findEvenest 85 = .ok (.iload_n 3, 1) := by decide +kernel
theorem dX9_findEvenest_86 : decode cX9_findEvenest 86 = .ok (.iload_n 2, 1) := by decide +kernel
theorem dX9_findEvenest_87 : decode cX9_findEvenest 87 = .ok (.iastore, 1) := by decide +kernel
theorem dX9_findEvenest_88 : decode cX9_findEvenest 88 = .ok (.iinc 2 1, 3) := by decide +kernel
theorem dX9_findEvenest_91 : decode cX9_findEvenest 91 = .ok (.goto (-84), 3) := by decide +kernel
theorem dX9_findEvenest_94 : decode cX9_findEvenest 94 = .ok (.iconst 0, 1) := by decide +kernel
theorem dX9_findEvenest_95 : decode cX9_findEvenest 95 = .ok (.istore_n 2, 1) := by decide +kernel
theorem dX9_findEvenest_96 : decode cX9_findEvenest 96 = .ok (.iload_n 2, 1) := by decide +kernel
theorem dX9_findEvenest_97 : decode cX9_findEvenest 97 = .ok (.iload_n 1, 1) := by decide +kernel
theorem dX9_findEvenest_98 : decode cX9_findEvenest 98 = .ok (.invokestatic 71, 3) := by decide +kernel
theorem dX9_findEvenest_101 : decode cX9_findEvenest 101 = .ok (.if_icmp .gt 117, 3) := by decide +kernel
theorem dX9_findEvenest_104 : decode cX9_findEvenest 104 = .ok (.iconst 0, 1) := by decide +kernel
theorem dX9_findEvenest_105 : decode cX9_findEvenest 105 = .ok (.istore_n 3, 1) := by decide +kernel
theorem dX9_findEvenest_106 : decode cX9_findEvenest 106 = .ok (.iload_n 3, 1) := by decide +kernel
theorem dX9_findEvenest_107 : decode cX9_findEvenest 107 = .ok (.iload_n 1, 1) := by decide +kernel
theorem dX9_findEvenest_108 : decode cX9_findEvenest 108 = .ok (.invokestatic 71, 3) := by decide +kernel
theorem dX9_findEvenest_111 : decode cX9_findEvenest 111 = .ok (.if_icmp .gt 101, 3) := by decide +kernel
theorem dX9_findEvenest_114 : decode cX9_findEvenest 114 = .ok (.iload_n 3, 1) := by decide +kernel
theorem dX9_findEvenest_115 : decode cX9_findEvenest 115 = .ok (.istore 4, 2) := by decide +kernel
theorem dX9_findEvenest_117 : decode cX9_findEvenest 117 = .ok (.iconst 0, 1) := by decide +kernel
theorem dX9_findEvenest_118 : decode cX9_findEvenest 118 = .ok (.istore 5, 2) := by decide +kernel
theorem dX9_findEvenest_120 : decode cX9_findEvenest 120 = .ok (.iload 5, 2) := by decide +kernel
theorem dX9_findEvenest_122 : decode cX9_findEvenest 122 = .ok (.aload_n 0, 1) := by decide +kernel
theorem dX9_findEvenest_123 : decode cX9_findEvenest 123 = .ok (.getfield 64, 3) := by decide +kernel
theorem dX9_findEvenest_126 : decode cX9_findEvenest 126 = .ok (.if_icmp .ge 42, 3) := by decide +kernel
theorem dX9_findEvenest_129 : decode cX9_findEvenest 129 = .ok (.aload_n 0, 1) := by decide +kernel
theorem dX9_findEvenest_130 : decode cX9_findEvenest 130 = .ok (.getfield 48, 3) := by decide +kernel
theorem dX9_findEvenest_133 : decode cX9_findEvenest 133 = .ok (.aload_n 0, 1) := by decide +kernel
theorem dX9_findEvenest_134 : decode cX9_findEvenest 134 = .ok (.getfield 57, 3) := by decide +kernel
theorem dX9_findEvenest_137 : decode cX9_findEvenest 137 = .ok (.iload 5, 2) := by decide +kernel
theorem dX9_findEvenest_139 : decode cX9_findEvenest 139 = .ok (.iaload, 1) := by decide +kernel
theorem dX9_findEvenest_140 : decode cX9_findEvenest 140 = .ok (.iload 4, 2) := by decide +kernel
theorem dX9_findEvenest_142 : decode cX9_findEvenest 142 = .ok (.iastore, 1) := by decide +kernel
theorem dX9_findEvenest_143 : decode cX9_findEvenest 143 = .ok (.iload 4, 2) := by decide +kernel
theorem dX9_findEvenest_145 : decode cX9_findEvenest 145 = .ok (.aload_n 0, 1) := by decide +kernel
theorem dX9_findEvenest_146 : decode cX9_findEvenest 146 = .ok (.aload_n 0, 1) := by decide +kernel
theorem dX9_findEvenest_147 : decode cX9_findEvenest 147 = .ok (.getfield 57, 3) := by decide +kernel
theorem dX9_findEvenest_150 : decode cX9_findEvenest 150 = .ok (.iload 5, 2) := by decide +kernel
theorem dX9_findEvenest_152 : decode cX9_findEvenest 152 = .ok (.iaload, 1) := by decide +kernel
theorem dX9_findEvenest_153 : decode cX9_findEvenest 153 = .ok (.iload_n 1, 1) := by decide +kernel
theorem dX9_findEvenest_154 : decode cX9_findEvenest 154 = .ok (.invokevirtual 79, 3) := by decide +kernel
theorem dX9_findEvenest_157 : decode cX9_findEvenest 157 = .ok (.iload_n 2, 1) := by decide +kernel
theorem dX9_findEvenest_158 : decode cX9_findEvenest 158 = .ok (.iadd, 1) := by decide +kernel
theorem dX9_findEvenest_159 : decode cX9_findEvenest 159 = .ok (.iadd, 1) := by decide +kernel
theorem dX9_findEvenest_160 : decode cX9_findEvenest 160 = .ok (.istore 4, 2) := by decide +kernel
theorem dX9_findEvenest_162 : decode cX9_findEvenest 162 = .ok (.iinc 5 1, 3) := by decide +kernel
theorem dX9_findEvenest_165 : decode cX9_findEvenest 165 = .ok (.goto (-45), 3) := by decide +kernel
theorem dX9_findEvenest_168 : decode cX9_findEvenest 168 = .ok (.aload_n 0, 1) := by decide +kernel
theorem dX9_findEvenest_169 : decode cX9_findEvenest 169 = .ok (.iload_n 1, 1) := by decide +kernel
theorem dX9_findEvenest_170 : decode cX9_findEvenest 170 = .ok (.invokevirtual 172, 3) := by decide +kernel
theorem dX9_findEvenest_173 : decode cX9_findEvenest 173 = .ok (.ifCond .eq 33, 3) := by decide +kernel
theorem dX9_findEvenest_176 : decode cX9_findEvenest 176 = .ok (.aload_n 0, 1) := by decide +kernel
theorem dX9_findEvenest_177 : decode cX9_findEvenest 177 = .ok (.getfield 159, 3) := by decide +kernel
theorem dX9_findEvenest_180 : decode cX9_findEvenest 180 = .ok (.ifCond .eq 15, 3) := by decide +kernel
theorem dX9_findEvenest_183 : decode cX9_findEvenest 183 = .ok (.aload_n 0, 1) := by decide +kernel
theorem dX9_findEvenest_184 : decode cX9_findEvenest 184 = .ok (.iload_n 1, 1) := by decide +kernel
theorem dX9_findEvenest_185 : decode cX9_findEvenest 185 = .ok (.invokevirtual 175, 3) := by decide +kernel
theorem dX9_findEvenest_188 : decode cX9_findEvenest 188 = .ok (.aload_n 0, 1) := by decide +kernel
theorem dX9_findEvenest_189 : decode cX9_findEvenest 189 = .ok (.getfield 163, 3) := by decide +kernel
theorem dX9_findEvenest_192 : decode cX9_findEvenest 192 = .ok (.if_icmp .ge 14, 3) := by decide +kernel
theorem dX9_findEvenest_195 : decode cX9_findEvenest 195 = .ok (.aload_n 0, 1) := by decide +kernel
theorem dX9_findEvenest_196 : decode cX9_findEvenest 196 = .ok (.aload_n 0, 1) := by decide +kernel
theorem dX9_findEvenest_197 : decode cX9_findEvenest 197 = .ok (.iload_n 1, 1) := by decide +kernel
theorem dX9_findEvenest_198 : decode cX9_findEvenest 198 = .ok (.invokevirtual 175, 3) := by decide +kernel
theorem dX9_findEvenest_201 : decode cX9_findEvenest 201 = .ok (.iconst 0, 1) := by decide +kernel
theorem dX9_findEvenest_202 : decode cX9_findEvenest 202 = .ok (.iload_n 2, 1) := by decide +kernel
theorem dX9_findEvenest_203 : decode cX9_findEvenest 203 = .ok (.invokevirtual 182, 3) := by decide +kernel
theorem dX9_findEvenest_206 : decode cX9_findEvenest 206 = .ok (.iinc 3 1, 3) := by decide +kernel
theorem dX9_findEvenest_209 : decode cX9_findEvenest 209 = .ok (.goto (-103), 3) := by decide +kernel
theorem dX9_findEvenest_212 : decode cX9_findEvenest 212 = .ok (.iinc 2 1, 3) := by decide +kernel
theorem dX9_findEvenest_215 : decode cX9_findEvenest 215 = .ok (.goto (-119), 3) := by decide +kernel
theorem dX9_findEvenest_218 : decode cX9_findEvenest 218 = .ok (.return_, 1) := by decide +kernel
theorem dX9_evens_0 : decode cX9_evens 0 = .ok (.aload_n 0, 1) := by decide +kernel
theorem dX9_evens_1 : decode cX9_evens 1 = .ok (.iconst 0, 1) := by decide +kernel
theorem dX9_evens_2 : decode cX9_evens 2 = .ok (.putfield 60, 3) := by decide +kernel
theorem dX9_evens_5 : decode cX9_evens 5 = .ok (.aload_n 0, 1) := by decide +kernel
theorem dX9_evens_6 : decode cX9_evens 6 = .ok (.iload_n 1, 1) := by decide +kernel
theorem dX9_evens_7 : decode cX9_evens 7 = .ok (.invokestatic 101, 3) := by decide +kernel
theorem dX9_evens_10 : decode cX9_evens 10 = .ok (.iconst (-1), 1) := by decide +kernel
theorem dX9_evens_11 : decode cX9_evens 11 = .ok (.if_icmp .ne 7, 3) := by decide +kernel
theorem dX9_evens_14 : decode cX9_evens 14 = .ok (.iconst 1, 1) := by decide +kernel
theorem dX9_evens_15 : decode cX9_evens 15 = .ok (.goto 4, 3) := by decide +kernel
theorem dX9_evens_18 : decode cX9_evens 18 = .ok (.iconst 0, 1) := by decide +kernel
theorem dX9_evens_19 : decode cX9_evens 19 = .ok (.iconst 1, 1) := by decide +kernel
theorem dX9_evens_20 : decode cX9_evens 20 = .ok (.invokevirtual 89, 3) := by decide +kernel
theorem dX9_evens_23 : decode cX9_evens 23 = .ok (.ifCond .ne 24, 3) := by decide +kernel
theorem dX9_evens_26 : decode cX9_evens 26 = .ok (.aload_n 0, 1) := by decide +kernel
theorem dX9_evens_27 : decode cX9_evens 27 = .ok (.aload_n 0, 1) := by decide +kernel
theorem dX9_evens_28 : decode cX9_evens 28 = .ok (.getfield 64, 3) := by decide +kernel
theorem dX9_evens_31 : decode cX9_evens 31 = .ok (.iconst 2, 1) := by decide +kernel
theorem dX9_evens_32 : decode cX9_evens 32 = .ok (.if_icmp .ge 7, 3) := by decide +kernel
theorem dX9_evens_35 : decode cX9_evens 35 = .ok (.iconst 1, 1) := by decide +kernel
theorem dX9_evens_36 : decode cX9_evens 36 = .ok (.goto 4, 3) := by decide +kernel
theorem dX9_evens_39 : decode cX9_evens 39 = .ok (.iconst 0, 1) := by decide +kernel
theorem dX9_evens_40 : decode cX9_evens 40 = .ok (.iconst 2, 1) := by decide +kernel
theorem dX9_evens_41 : decode cX9_evens 41 = .ok (.invokevirtual 89, 3) := by decide +kernel
theorem dX9_evens_44 : decode cX9_evens 44 = .ok (.ifCond .eq 5, 3) := by decide +kernel
theorem dX9_evens_47 : decode cX9_evens 47 = .ok (.iconst 0, 1) := by decide +kernel
theorem dX9_evens_48 : decode cX9_evens 48 = .ok (.ireturn, 1) := by decide +kernel
theorem dX9_evens_49 : decode cX9_evens 49 = .ok (.aload_n 0, 1) := by decide +kernel
theorem dX9_evens_50 : decode cX9_evens 50 = .ok (.iload_n 1, 1) := by decide +kernel
theorem dX9_evens_51 : decode cX9_evens 51 = .ok (.invokestatic 101, 3) := by decide +kernel
theorem dX9_evens_54 : decode cX9_evens 54 = .ok (.invokevirtual 202, 3) := by decide +kernel
theorem dX9_evens_57 : decode cX9_evens 57 = .ok (.aload_n 0, 1) := by decide +kernel
theorem dX9_evens_58 : decode cX9_evens 58 = .ok (.aload_n 0, 1) := by decide +kernel
theorem dX9_evens_59 : decode cX9_evens 59 = .ok (.getfield 159, 3) := by decide +kernel
theorem dX9_evens_62 : decode cX9_evens 62 = .ok (.ifCond .ne 7, 3) := by decide +kernel
theorem dX9_evens_65 : decode cX9_evens 65 = .ok (.iconst 1, 1) := by decide +kernel
theorem dX9_evens_66 : decode cX9_evens 66 = .ok (.goto 4, 3) := by decide +kernel
theorem dX9_evens_69 : decode cX9_evens 69 = .ok (.iconst 0, 1) := by decide +kernel
theorem dX9_evens_70 : decode cX9_evens 70 = .ok (.iconst 2, 1) := by decide +kernel
theorem dX9_evens_71 : decode cX9_evens 71 = .ok (.invokevirtual 89, 3) := by decide +kernel
theorem dX9_evens_74 : decode cX9_evens 74 = .ok (.ifCond .ne 7, 3) := by decide +kernel
theorem dX9_evens_77 : decode cX9_evens 77 = .ok (.iconst 1, 1) := by decide +kernel
theorem dX9_evens_78 : decode cX9_evens 78 = .ok (.goto 4, 3) := by decide +kernel
theorem dX9_evens_81 : decode cX9_evens 81 = .ok (.iconst 0, 1) := by decide +kernel
theorem dX9_evens_82 : decode cX9_evens 82 = .ok (.ireturn, 1) := by decide +kernel
theorem dX9_evenCost_0 : decode cX9_evenCost 0 = .ok (.aload_n 0, 1) := by decide +kernel
theorem dX9_evenCost_1 : decode cX9_evenCost 1 = .ok (.iload_n 1, 1) := by decide +kernel
theorem dX9_evenCost_2 : decode cX9_evenCost 2 = .ok (.invokevirtual 205, 3) := by decide +kernel
theorem dX9_evenCost_5 : decode cX9_evenCost 5 = .ok (.ifCond .eq 10, 3) := by decide +kernel
theorem dX9_evenCost_8 : decode cX9_evenCost 8 = .ok (.aload_n 0, 1) := by decide +kernel
theorem dX9_evenCost_9 : decode cX9_evenCost 9 = .ok (.getfield 163, 3) := by decide +kernel
theorem dX9_evenCost_12 : decode cX9_evenCost 12 = .ok (.goto 4, 3) := by decide +kernel
theorem dX9_evenCost_15 : decode cX9_evenCost 15 = .ok (.iconst 0, 1) := by decide +kernel
theorem dX9_evenCost_16 : decode cX9_evenCost 16 = .ok (.ireturn, 1) := by decide +kernel
theorem dX9_evenByAll_0 : decode cX9_evenByAll 0 = .ok (.aload_n 0, 1) := by decide +kernel
theorem dX9_evenByAll_1 : decode cX9_evenByAll 1 = .ok (.iload_n 1, 1) := by decide +kernel
theorem dX9_evenByAll_2 : decode cX9_evenByAll 2 = .ok (.invokevirtual 208, 3) := by decide +kernel
theorem dX9_evenByAll_5 : decode cX9_evenByAll 5 = .ok (.ireturn, 1) := by decide +kernel
theorem dX9_spread_0 : decode cX9_spread 0 = .ok (.aload_n 0, 1) := by decide +kernel
theorem dX9_spread_1 : decode cX9_spread 1 = .ok (.iload_n 1, 1) := by decide +kernel
theorem dX9_spread_2 : decode cX9_spread 2 = .ok (.invokevirtual 205, 3) := by decide +kernel
theorem dX9_spread_5 : decode cX9_spread 5 = .ok (.ifCond .ne 5, 3) := by decide +kernel
theorem dX9_spread_8 : decode cX9_spread 8 = .ok (.iconst 0, 1) := by decide +kernel
theorem dX9_spread_9 : decode cX9_spread 9 = .ok (.ireturn, 1) := by decide +kernel
theorem dX9_spread_10 : decode cX9_spread 10 = .ok (.aload_n 0, 1) := by decide +kernel
theorem dX9_spread_11 : decode cX9_spread 11 = .ok (.iload_n 1, 1) := by decide +kernel
theorem dX9_spread_12 : decode cX9_spread 12 = .ok (.invokestatic 101, 3) := by decide +kernel
theorem dX9_spread_15 : decode cX9_spread 15 = .ok (.invokevirtual 199, 3) := by decide +kernel
theorem dX9_spread_18 : decode cX9_spread 18 = .ok (.aload_n 0, 1) := by decide +kernel
theorem dX9_spread_19 : decode cX9_spread 19 = .ok (.getfield 169, 3) := by decide +kernel
theorem dX9_spread_22 : decode cX9_spread 22 = .ok (.ireturn, 1) := by decide +kernel
theorem dX9_hasFeature_0 : decode cX9_hasFeature 0 = .ok (.aload_n 0, 1) := by decide +kernel
theorem dX9_hasFeature_1 : decode cX9_hasFeature 1 = .ok (.iload_n 1, 1) := by decide +kernel
theorem dX9_hasFeature_2 : decode cX9_hasFeature 2 = .ok (.iload_n 2, 1) := by decide +kernel
theorem dX9_hasFeature_3 : decode cX9_hasFeature 3 = .ok (.invokevirtual 75, 3) := by decide +kernel
theorem dX9_hasFeature_6 : decode cX9_hasFeature 6 = .ok (.istore 4, 2) := by decide +kernel
theorem dX9_hasFeature_8 : decode cX9_hasFeature 8 = .ok (.iload 4, 2) := by decide +kernel
theorem dX9_hasFeature_10 : decode cX9_hasFeature 10 = .ok (.aload_n 0, 1) := by decide +kernel
theorem dX9_hasFeature_11 : decode cX9_hasFeature 11 = .ok (.iload_n 1, 1) := by decide +kernel
theorem dX9_hasFeature_12 : decode cX9_hasFeature 12 = .ok (.iload_n 2, 1) := by decide +kernel
theorem dX9_hasFeature_13 : decode cX9_hasFeature 13 = .ok (.invokevirtual 79, 3) := by decide +kernel
theorem dX9_hasFeature_16 : decode cX9_hasFeature 16 = .ok (.iadd, 1) := by decide +kernel
theorem dX9_hasFeature_17 : decode cX9_hasFeature 17 = .ok (.istore 5, 2) := by decide +kernel
theorem dX9_hasFeature_19 : decode cX9_hasFeature 19 = .ok (.iload_n 3, 1) := by decide +kernel
theorem dX9_hasFeature_20 : decode cX9_hasFeature 20 = .ok (.iconst 2, 1) := by decide +kernel
theorem dX9_hasFeature_21 : decode cX9_hasFeature 21 = .ok (.iload 4, 2) := by decide +kernel
theorem dX9_hasFeature_23 : decode cX9_hasFeature 23 = .ok (.imul, 1) := by decide +kernel
theorem dX9_hasFeature_24 : decode cX9_hasFeature 24 = .ok (.if_icmp .eq 20, 3) := by decide +kernel
theorem dX9_hasFeature_27 : decode cX9_hasFeature 27 = .ok (.iload_n 3, 1) := by decide +kernel
theorem dX9_hasFeature_28 : decode cX9_hasFeature 28 = .ok (.iload 4, 2) := by decide +kernel
theorem dX9_hasFeature_30 : decode cX9_hasFeature 30 = .ok (.iload 5, 2) := by decide +kernel
theorem dX9_hasFeature_32 : decode cX9_hasFeature 32 = .ok (.iadd, 1) := by decide +kernel
theorem dX9_hasFeature_33 : decode cX9_hasFeature 33 = .ok (.if_icmp .eq 11, 3) := by decide +kernel
theorem dX9_hasFeature_36 : decode cX9_hasFeature 36 = .ok (.iload_n 3, 1) := by decide +kernel
theorem dX9_hasFeature_37 : decode cX9_hasFeature 37 = .ok (.iconst 2, 1) := by decide +kernel
theorem dX9_hasFeature_38 : decode cX9_hasFeature 38 = .ok (.iload 5, 2) := by decide +kernel
theorem dX9_hasFeature_40 : decode cX9_hasFeature 40 = .ok (.imul, 1) := by decide +kernel
theorem dX9_hasFeature_41 : decode cX9_hasFeature 41 = .ok (.if_icmp .ne 7, 3) := by decide +kernel
theorem dX9_hasFeature_44 : decode cX9_hasFeature 44 = .ok (.iconst 1, 1) := by decide +kernel
theorem dX9_hasFeature_45 : decode cX9_hasFeature 45 = .ok (.goto 4, 3) := by decide +kernel
theorem dX9_hasFeature_48 : decode cX9_hasFeature 48 = .ok (.iconst 0, 1) := by decide +kernel
theorem dX9_hasFeature_49 : decode cX9_hasFeature 49 = .ok (.ireturn, 1) := by decide +kernel
theorem dX9_findGuides_0 : decode cX9_findGuides 0 = .ok (.iconst 0, 1) := by decide +kernel
theorem dX9_findGuides_1 : decode cX9_findGuides 1 = .ok (.istore_n 2, 1) := by decide +kernel
theorem dX9_findGuides_2 : decode cX9_findGuides 2 = .ok (.iconst 0, 1) := by decide +kernel
theorem dX9_findGuides_3 : decode cX9_findGuides 3 = .ok (.istore_n 3, 1) := by decide +kernel
theorem dX9_findGuides_4 : decode cX9_findGuides 4 = .ok (.iload_n 3, 1) := by decide +kernel
theorem dX9_findGuides_5 : decode cX9_findGuides 5 = .ok (.iconst 2, 1) := by decide +kernel
theorem dX9_findGuides_6 : decode cX9_findGuides 6 = .ok (.iload_n 1, 1) := by decide +kernel
theorem dX9_findGuides_7 : decode cX9_findGuides 7 = .ok (.invokestatic 71, 3) := by decide +kernel
theorem dX9_findGuides_10 : decode cX9_findGuides 10 = .ok (.imul, 1) := by decide +kernel
theorem dX9_findGuides_11 : decode cX9_findGuides 11 = .ok (.if_icmp .gt 67, 3) := by decide +kernel
theorem dX9_findGuides_14 : decode cX9_findGuides 14 = .ok (.iconst 0, 1) := by decide +kernel
theorem dX9_findGuides_15 : decode cX9_findGuides 15 = .ok (.istore 4, 2) := by decide +kernel
theorem dX9_findGuides_17 : decode cX9_findGuides 17 = .ok (.iconst 0, 1) := by decide +kernel
theorem dX9_findGuides_18 : decode cX9_findGuides 18 = .ok (.istore 5, 2) := by decide +kernel
theorem dX9_findGuides_20 : decode cX9_findGuides 20 = .ok (.iload 5, 2) := by decide +kernel
theorem dX9_findGuides_22 : decode cX9_findGuides 22 = .ok (.aload_n 0, 1) := by decide +kernel
theorem dX9_findGuides_23 : decode cX9_findGuides 23 = .ok (.getfield 64, 3) := by decide +kernel
theorem dX9_findGuides_26 : decode cX9_findGuides 26 = .ok (.if_icmp .ge 30, 3) := by decide +kernel
theorem dX9_findGuides_29 : decode cX9_findGuides 29 = .ok (.iload 4, 2) := by decide +kernel
theorem dX9_findGuides_31 : decode cX9_findGuides 31 = .ok (.aload_n 0, 1) := by decide +kernel
theorem dX9_findGuides_32 : decode cX9_findGuides 32 = .ok (.iload 5, 2) := by decide +kernel
theorem dX9_findGuides_34 : decode cX9_findGuides 34 = .ok (.iload_n 1, 1) := by decide +kernel
theorem dX9_findGuides_35 : decode cX9_findGuides 35 = .ok (.iload_n 3, 1) := by decide +kernel
theorem dX9_findGuides_36 : decode cX9_findGuides 36 = .ok (.invokevirtual 211, 3) := by decide +kernel
theorem dX9_findGuides_39 : decode cX9_findGuides 39 = .ok (.ifCond .eq 7, 3) := by decide +kernel
theorem dX9_findGuides_42 : decode cX9_findGuides 42 = .ok (.iconst 1, 1) := by decide +kernel
theorem dX9_findGuides_43 : decode cX9_findGuides 43 = .ok (.goto 4, 3) := by decide +kernel
theorem dX9_findGuides_46 : decode cX9_findGuides 46 = .ok (.iconst 0, 1) := by decide +kernel
theorem dX9_findGuides_47 : decode cX9_findGuides 47 = .ok (.iadd, 1) := by decide +kernel
theorem dX9_findGuides_48 : decode cX9_findGuides 48 = .ok (.istore 4, 2) := by decide +kernel
theorem dX9_findGuides_50 : decode cX9_findGuides 50 = .ok (.iinc 5 1, 3) := by decide +kernel
theorem dX9_findGuides_53 : decode cX9_findGuides 53 = .ok (.goto (-33), 3) := by decide +kernel
theorem dX9_findGuides_56 : decode cX9_findGuides 56 = .ok (.iload 4, 2) := by decide +kernel
theorem dX9_findGuides_58 : decode cX9_findGuides 58 = .ok (.iconst 1, 1) := by decide +kernel
theorem dX9_findGuides_59 : decode cX9_findGuides 59 = .ok (.if_icmp .le 13, 3) := by decide +kernel
theorem dX9_findGuides_62 : decode cX9_findGuides 62 = .ok (.aload_n 0, 1) := by decide +kernel
theorem dX9_findGuides_63 : decode cX9_findGuides 63 = .ok (.getfield 54, 3) := by decide +kernel
theorem dX9_findGuides_66 : decode cX9_findGuides 66 = .ok (.iload_n 2, 1) := by decide +kernel
theorem dX9_findGuides_67 : decode cX9_findGuides 67 = .ok (.iload_n 3, 1) := by decide +kernel
theorem dX9_findGuides_68 : decode cX9_findGuides 68 = .ok (.iastore, 1) := by decide +kernel
theorem dX9_findGuides_69 : decode cX9_findGuides 69 = .ok (.iinc 2 1, 3) := by decide +kernel
theorem dX9_findGuides_72 : decode cX9_findGuides 72 = .ok (.iinc 3 1, 3) := by decide +kernel
theorem dX9_findGuides_75 : decode cX9_findGuides 75 = .ok (.goto (-71), 3) := by decide +kernel
theorem dX9_findGuides_78 : decode cX9_findGuides 78 = .ok (.iload_n 2, 1) := by decide +kernel
theorem dX9_findGuides_79 : decode cX9_findGuides 79 = .ok (.ireturn, 1) := by decide +kernel
theorem dX9_guides_0 : decode cX9_guides 0 = .ok (.aload_n 0, 1) := by decide +kernel
theorem dX9_guides_1 : decode cX9_guides 1 = .ok (.iconst 0, 1) := by decide +kernel
theorem dX9_guides_2 : decode cX9_guides 2 = .ok (.putfield 60, 3) := by decide +kernel
theorem dX9_guides_5 : decode cX9_guides 5 = .ok (.aload_n 0, 1) := by decide +kernel
theorem dX9_guides_6 : decode cX9_guides 6 = .ok (.iload_n 1, 1) := by decide +kernel
theorem dX9_guides_7 : decode cX9_guides 7 = .ok (.invokestatic 101, 3) := by decide +kernel
theorem dX9_guides_10 : decode cX9_guides 10 = .ok (.iconst (-1), 1) := by decide +kernel
theorem dX9_guides_11 : decode cX9_guides 11 = .ok (.if_icmp .ne 7, 3) := by decide +kernel
theorem dX9_guides_14 : decode cX9_guides 14 = .ok (.iconst 1, 1) := by decide +kernel
theorem dX9_guides_15 : decode cX9_guides 15 = .ok (.goto 4, 3) := by decide +kernel
theorem dX9_guides_18 : decode cX9_guides 18 = .ok (.iconst 0, 1) := by decide +kernel
theorem dX9_guides_19 : decode cX9_guides 19 = .ok (.iconst 1, 1) := by decide +kernel
theorem dX9_guides_20 : decode cX9_guides 20 = .ok (.invokevirtual 89, 3) := by decide +kernel
theorem dX9_guides_23 : decode cX9_guides 23 = .ok (.ifCond .eq 7, 3) := by decide +kernel
theorem dX9_guides_26 : decode cX9_guides 26 = .ok (.iconst 0, 1) := by decide +kernel
theorem dX9_guides_27 : decode cX9_guides 27 = .ok (.goto 11, 3) := by decide +kernel
theorem dX9_guides_30 : decode cX9_guides 30 = .ok (.aload_n 0, 1) := by decide +kernel
theorem dX9_guides_31 : decode cX9_guides 31 = .ok (.iload_n 1, 1) := by decide +kernel
theorem dX9_guides_32 : decode cX9_guides 32 = .ok (.invokestatic 101, 3) := by decide +kernel
theorem dX9_guides_35 : decode cX9_guides 35 = .ok (.invokevirtual 214, 3) := by decide +kernel
theorem dX9_guides_38 : decode cX9_guides 38 = .ok (.ireturn, 1) := by decide +kernel
theorem dX9_guideAt_0 : decode cX9_guideAt 0 = .ok (.aload_n 0, 1) := by decide +kernel
theorem dX9_guideAt_1 : decode cX9_guideAt 1 = .ok (.iconst 0, 1) := by decide +kernel
theorem dX9_guideAt_2 : decode cX9_guideAt 2 = .ok (.putfield 60, 3) := by decide +kernel
theorem dX9_guideAt_5 : decode cX9_guideAt 5 = .ok (.aload_n 0, 1) := by decide +kernel
theorem dX9_guideAt_6 : decode cX9_guideAt 6 = .ok (.iload_n 1, 1) := by decide +kernel
theorem dX9_guideAt_7 : decode cX9_guideAt 7 = .ok (.invokestatic 101, 3) := by decide +kernel
theorem dX9_guideAt_10 : decode cX9_guideAt 10 = .ok (.iconst (-1), 1) := by decide +kernel
theorem dX9_guideAt_11 : decode cX9_guideAt 11 = .ok (.if_icmp .ne 7, 3) := by decide +kernel
theorem dX9_guideAt_14 : decode cX9_guideAt 14 = .ok (.iconst 1, 1) := by decide +kernel
theorem dX9_guideAt_15 : decode cX9_guideAt 15 = .ok (.goto 4, 3) := by decide +kernel
theorem dX9_guideAt_18 : decode cX9_guideAt 18 = .ok (.iconst 0, 1) := by decide +kernel
theorem dX9_guideAt_19 : decode cX9_guideAt 19 = .ok (.iconst 1, 1) := by decide +kernel
theorem dX9_guideAt_20 : decode cX9_guideAt 20 = .ok (.invokevirtual 89, 3) := by decide +kernel
theorem dX9_guideAt_23 : decode cX9_guideAt 23 = .ok (.ifCond .eq 5, 3) := by decide +kernel
theorem dX9_guideAt_26 : decode cX9_guideAt 26 = .ok (.iconst 0, 1) := by decide +kernel
theorem dX9_guideAt_27 : decode cX9_guideAt 27 = .ok (.ireturn, 1) := by decide +kernel
theorem dX9_guideAt_28 : decode cX9_guideAt 28 = .ok (.aload_n 0, 1) := by decide +kernel
theorem dX9_guideAt_29 : decode cX9_guideAt 29 = .ok (.iload_n 1, 1) := by decide +kernel
theorem dX9_guideAt_30 : decode cX9_guideAt 30 = .ok (.invokestatic 101, 3) := by decide +kernel
theorem dX9_guideAt_33 : decode cX9_guideAt 33 = .ok (.invokevirtual 214, 3) := by decide +kernel
theorem dX9_guideAt_36 : decode cX9_guideAt 36 = .ok (.istore_n 3, 1) := by decide +kernel
theorem dX9_guideAt_37 : decode cX9_guideAt 37 = .ok (.aload_n 0, 1) := by decide +kernel
theorem dX9_guideAt_38 : decode cX9_guideAt 38 = .ok (.iload_n 2, 1) := by decide +kernel
theorem dX9_guideAt_39 : decode cX9_guideAt 39 = .ok (.iconst 0, 1) := by decide +kernel
theorem dX9_guideAt_40 : decode cX9_guideAt 40 = .ok (.iload_n 3, 1) := by decide +kernel
theorem dX9_guideAt_41 : decode cX9_guideAt 41 = .ok (.iconst 1, 1) := by decide +kernel
theorem dX9_guideAt_42 : decode cX9_guideAt 42 = .ok (.isub, 1) := by decide +kernel
theorem dX9_guideAt_43 : decode cX9_guideAt 43 = .ok (.invokestatic 67, 3) := by decide +kernel
theorem dX9_guideAt_46 : decode cX9_guideAt 46 = .ok (.ifCond .ne 7, 3) := by decide +kernel
theorem dX9_guideAt_49 : decode cX9_guideAt 49 = .ok (.iconst 1, 1) := by decide +kernel
theorem dX9_guideAt_50 : decode cX9_guideAt 50 = .ok (.goto 4, 3) := by decide +kernel
theorem dX9_guideAt_53 : decode cX9_guideAt 53 = .ok (.iconst 0, 1) := by decide +kernel
theorem dX9_guideAt_54 : decode cX9_guideAt 54 = .ok (.iconst 2, 1) := by decide +kernel
theorem dX9_guideAt_55 : decode cX9_guideAt 55 = .ok (.invokevirtual 89, 3) := by decide +kernel
theorem dX9_guideAt_58 : decode cX9_guideAt 58 = .ok (.ifCond .eq 7, 3) := by decide +kernel
theorem dX9_guideAt_61 : decode cX9_guideAt 61 = .ok (.iconst 0, 1) := by decide +kernel
theorem dX9_guideAt_62 : decode cX9_guideAt 62 = .ok (.goto 9, 3) := by decide +kernel
theorem dX9_guideAt_65 : decode cX9_guideAt 65 = .ok (.aload_n 0, 1) := by decide +kernel
theorem dX9_guideAt_66 : decode cX9_guideAt 66 = .ok (.getfield 54, 3) := by decide +kernel
theorem dX9_guideAt_69 : decode cX9_guideAt 69 = .ok (.iload_n 2, 1) := by decide +kernel
theorem dX9_guideAt_70 : decode cX9_guideAt 70 = .ok (.iaload, 1) := by decide +kernel
theorem dX9_guideAt_71 : decode cX9_guideAt 71 = .ok (.ireturn, 1) := by decide +kernel
theorem dX9_gapOf_0 : decode cX9_gapOf 0 = .ok (.aload_n 0, 1) := by decide +kernel
theorem dX9_gapOf_1 : decode cX9_gapOf 1 = .ok (.iload_n 2, 1) := by decide +kernel
theorem dX9_gapOf_2 : decode cX9_gapOf 2 = .ok (.iload_n 3, 1) := by decide +kernel
theorem dX9_gapOf_3 : decode cX9_gapOf 3 = .ok (.invokevirtual 75, 3) := by decide +kernel
theorem dX9_gapOf_6 : decode cX9_gapOf 6 = .ok (.aload_n 0, 1) := by decide +kernel
theorem dX9_gapOf_7 : decode cX9_gapOf 7 = .ok (.iload_n 1, 1) := by decide +kernel
theorem dX9_gapOf_8 : decode cX9_gapOf 8 = .ok (.iload_n 3, 1) := by decide +kernel
theorem dX9_gapOf_9 : decode cX9_gapOf 9 = .ok (.invokevirtual 75, 3) := by decide +kernel
theorem dX9_gapOf_12 : decode cX9_gapOf 12 = .ok (.isub, 1) := by decide +kernel
theorem dX9_gapOf_13 : decode cX9_gapOf 13 = .ok (.aload_n 0, 1) := by decide +kernel
theorem dX9_gapOf_14 : decode cX9_gapOf 14 = .ok (.iload_n 1, 1) := by decide +kernel
theorem dX9_gapOf_15 : decode cX9_gapOf 15 = .ok (.iload_n 3, 1) := by decide +kernel
theorem dX9_gapOf_16 : decode cX9_gapOf 16 = .ok (.invokevirtual 79, 3) := by decide +kernel
theorem dX9_gapOf_19 : decode cX9_gapOf 19 = .ok (.isub, 1) := by decide +kernel
theorem dX9_gapOf_20 : decode cX9_gapOf 20 = .ok (.istore 4, 2) := by decide +kernel
theorem dX9_gapOf_22 : decode cX9_gapOf 22 = .ok (.aload_n 0, 1) := by decide +kernel
theorem dX9_gapOf_23 : decode cX9_gapOf 23 = .ok (.iload_n 1, 1) := by decide +kernel
theorem dX9_gapOf_24 : decode cX9_gapOf 24 = .ok (.iload_n 3, 1) := by decide +kernel
theorem dX9_gapOf_25 : decode cX9_gapOf 25 = .ok (.invokevirtual 75, 3) := by decide +kernel
theorem dX9_gapOf_28 : decode cX9_gapOf 28 = .ok (.aload_n 0, 1) := by decide +kernel
theorem dX9_gapOf_29 : decode cX9_gapOf 29 = .ok (.iload_n 2, 1) := by decide +kernel
theorem dX9_gapOf_30 : decode cX9_gapOf 30 = .ok (.iload_n 3, 1) := by decide +kernel
theorem dX9_gapOf_31 : decode cX9_gapOf 31 = .ok (.invokevirtual 75, 3) := by decide +kernel
theorem dX9_gapOf_34 : decode cX9_gapOf 34 = .ok (.isub, 1) := by decide +kernel
theorem dX9_gapOf_35 : decode cX9_gapOf 35 = .ok (.aload_n 0, 1) := by decide +kernel
theorem dX9_gapOf_36 : decode cX9_gapOf 36 = .ok (.iload_n 2, 1) := by decide +kernel
theorem dX9_gapOf_37 : decode cX9_gapOf 37 = .ok (.iload_n 3, 1) := by decide +kernel
theorem dX9_gapOf_38 : decode cX9_gapOf 38 = .ok (.invokevirtual 79, 3) := by decide +kernel
theorem dX9_gapOf_41 : decode cX9_gapOf 41 = .ok (.isub, 1) := by decide +kernel
theorem dX9_gapOf_42 : decode cX9_gapOf 42 = .ok (.istore 5, 2) := by decide +kernel
theorem dX9_gapOf_44 : decode cX9_gapOf 44 = .ok (.iconst 0, 1) := by decide +kernel
theorem dX9_gapOf_45 : decode cX9_gapOf 45 = .ok (.iload 4, 2) := by decide +kernel
theorem dX9_gapOf_47 : decode cX9_gapOf 47 = .ok (.iload 5, 2) := by decide +kernel
theorem dX9_gapOf_49 : decode cX9_gapOf 49 = .ok (.invokestatic 217, 3) := by decide +kernel
theorem dX9_gapOf_52 : decode cX9_gapOf 52 = .ok (.invokestatic 217, 3) := by decide +kernel
theorem dX9_gapOf_55 : decode cX9_gapOf 55 = .ok (.ireturn, 1) := by decide +kernel
theorem dX9_distanceOf_0 : decode cX9_distanceOf 0 = .ok (.aload_n 0, 1) := by decide +kernel
theorem dX9_distanceOf_1 : decode cX9_distanceOf 1 = .ok (.iload_n 1, 1) := by decide +kernel
theorem dX9_distanceOf_2 : decode cX9_distanceOf 2 = .ok (.iload_n 2, 1) := by decide +kernel
theorem dX9_distanceOf_3 : decode cX9_distanceOf 3 = .ok (.iconst 0, 1) := by decide +kernel
theorem dX9_distanceOf_4 : decode cX9_distanceOf 4 = .ok (.invokevirtual 220, 3) := by decide +kernel
theorem dX9_distanceOf_7 : decode cX9_distanceOf 7 = .ok (.aload_n 0, 1) := by decide +kernel
theorem dX9_distanceOf_8 : decode cX9_distanceOf 8 = .ok (.iload_n 1, 1) := by decide +kernel
theorem dX9_distanceOf_9 : decode cX9_distanceOf 9 = .ok (.iload_n 2, 1) := by decide +kernel
theorem dX9_distanceOf_10 : decode cX9_distanceOf 10 = .ok (.iconst 1, 1) := by decide +kernel
theorem dX9_distanceOf_11 : decode cX9_distanceOf 11 = .ok (.invokevirtual 220, 3) := by decide +kernel
theorem dX9_distanceOf_14 : decode cX9_distanceOf 14 = .ok (.invokestatic 217, 3) := by decide +kernel
theorem dX9_distanceOf_17 : decode cX9_distanceOf 17 = .ok (.ireturn, 1) := by decide +kernel
theorem dX9_distance_0 : decode cX9_distance 0 = .ok (.aload_n 0, 1) := by decide +kernel
theorem dX9_distance_1 : decode cX9_distance 1 = .ok (.iconst 0, 1) := by decide +kernel
theorem dX9_distance_2 : decode cX9_distance 2 = .ok (.putfield 60, 3) := by decide +kernel
theorem dX9_distance_5 : decode cX9_distance 5 = .ok (.aload_n 0, 1) := by decide +kernel
theorem dX9_distance_6 : decode cX9_distance 6 = .ok (.aload_n 0, 1) := by decide +kernel
theorem dX9_distance_7 : decode cX9_distance 7 = .ok (.iload_n 1, 1) := by decide +kernel
theorem dX9_distance_8 : decode cX9_distance 8 = .ok (.invokevirtual 97, 3) := by decide +kernel
theorem dX9_distance_11 : decode cX9_distance 11 = .ok (.ifCond .ne 11, 3) := by decide +kernel
theorem dX9_distance_14 : decode cX9_distance 14 = .ok (.aload_n 0, 1) := by decide +kernel
theorem dX9_distance_15 : decode cX9_distance 15 = .ok (.iload_n 2, 1) := by decide +kernel
theorem dX9_distance_16 : decode cX9_distance 16 = .ok (.invokevirtual 97, 3) := by decide +kernel
theorem dX9_distance_19 : decode cX9_distance 19 = .ok (.ifCond .eq 7, 3) := by decide +kernel
theorem dX9_distance_22 : decode cX9_distance 22 = .ok (.iconst 1, 1) := by decide +kernel
theorem dX9_distance_23 : decode cX9_distance 23 = .ok (.goto 4, 3) := by decide +kernel
theorem dX9_distance_26 : decode cX9_distance 26 = .ok (.iconst 0, 1) := by decide +kernel
theorem dX9_distance_27 : decode cX9_distance 27 = .ok (.iconst 1, 1) := by decide +kernel
theorem dX9_distance_28 : decode cX9_distance 28 = .ok (.invokevirtual 89, 3) := by decide +kernel
theorem dX9_distance_31 : decode cX9_distance 31 = .ok (.ifCond .ne 21, 3) := by decide +kernel
theorem dX9_distance_34 : decode cX9_distance 34 = .ok (.aload_n 0, 1) := by decide +kernel
theorem dX9_distance_35 : decode cX9_distance 35 = .ok (.iload_n 1, 1) := by decide +kernel
theorem dX9_distance_36 : decode cX9_distance 36 = .ok (.iload_n 2, 1) := by decide +kernel
theorem dX9_distance_37 : decode cX9_distance 37 = .ok (.if_icmp .ne 7, 3) := by decide +kernel
theorem dX9_distance_40 : decode cX9_distance 40 = .ok (.iconst 1, 1) := by decide +kernel
theorem dX9_distance_41 : decode cX9_distance 41 = .ok (.goto 4, 3) := by decide +kernel
theorem dX9_distance_44 : decode cX9_distance 44 = .ok (.iconst 0, 1) := by decide +kernel
theorem dX9_distance_45 : decode cX9_distance 45 = .ok (.iconst 2, 1) := by decide +kernel
theorem dX9_distance_46 : decode cX9_distance 46 = .ok (.invokevirtual 89, 3) := by decide +kernel
theorem dX9_distance_49 : decode cX9_distance 49 = .ok (.ifCond .eq 7, 3) := by decide +kernel
theorem dX9_distance_52 : decode cX9_distance 52 = .ok (.iconst 0, 1) := by decide +kernel
theorem dX9_distance_53 : decode cX9_distance 53 = .ok (.goto 9, 3) := by decide +kernel
theorem dX9_distance_56 : decode cX9_distance 56 = .ok (.aload_n 0, 1) := by decide +kernel
theorem dX9_distance_57 : decode cX9_distance 57 = .ok (.iload_n 1, 1) := by decide +kernel
theorem dX9_distance_58 : decode cX9_distance 58 = .ok (.iload_n 2, 1) := by decide +kernel
theorem dX9_distance_59 : decode cX9_distance 59 = .ok (.invokevirtual 223, 3) := by decide +kernel
theorem dX9_distance_62 : decode cX9_distance 62 = .ok (.ireturn, 1) := by decide +kernel
theorem dX9_lowest_0 : decode cX9_lowest 0 = .ok (.iconst 1, 1) := by decide +kernel
theorem dX9_lowest_1 : decode cX9_lowest 1 = .ok (.iload_n 1, 1) := by decide +kernel
theorem dX9_lowest_2 : decode cX9_lowest 2 = .ok (.ishl, 1) := by decide +kernel
theorem dX9_lowest_3 : decode cX9_lowest 3 = .ok (.istore_n 3, 1) := by decide +kernel
theorem dX9_lowest_4 : decode cX9_lowest 4 = .ok (.iconst 0, 1) := by decide +kernel
theorem dX9_lowest_5 : decode cX9_lowest 5 = .ok (.istore 4, 2) := by decide +kernel
theorem dX9_lowest_7 : decode cX9_lowest 7 = .ok (.iload 4, 2) := by decide +kernel
theorem dX9_lowest_9 : decode cX9_lowest 9 = .ok (.iconst 4, 1) := by decide +kernel
theorem dX9_lowest_10 : decode cX9_lowest 10 = .ok (.if_icmp .ge 85, 3) := by decide +kernel
theorem dX9_lowest_13 : decode cX9_lowest 13 = .ok (.iconst 0, 1) := by decide +kernel
theorem dX9_lowest_14 : decode cX9_lowest 14 = .ok (.istore 5, 2) := by decide +kernel
theorem dX9_lowest_16 : decode cX9_lowest 16 = .ok (.iload 5, 2) := by decide +kernel
theorem dX9_lowest_18 : decode cX9_lowest 18 = .ok (.aload_n 0, 1) := by decide +kernel
theorem dX9_lowest_19 : decode cX9_lowest 19 = .ok (.getfield 64, 3) := by decide +kernel
theorem dX9_lowest_22 : decode cX9_lowest 22 = .ok (.if_icmp .ge 67, 3) := by decide +kernel
theorem dX9_lowest_25 : decode cX9_lowest 25 = .ok (.iconst 0, 1) := by decide +kernel
theorem dX9_lowest_26 : decode cX9_lowest 26 = .ok (.istore 6, 2) := by decide +kernel
theorem dX9_lowest_28 : decode cX9_lowest 28 = .ok (.iload 6, 2) := by decide +kernel
theorem dX9_lowest_30 : decode cX9_lowest 30 = .ok (.aload_n 0, 1) := by decide +kernel
theorem dX9_lowest_31 : decode cX9_lowest 31 = .ok (.getfield 64, 3) := by decide +kernel
theorem dX9_lowest_34 : decode cX9_lowest 34 = .ok (.if_icmp .ge 49, 3) := by decide +kernel
theorem dX9_lowest_37 : decode cX9_lowest 37 = .ok (.iload_n 3, 1) := by decide +kernel
theorem dX9_lowest_38 : decode cX9_lowest 38 = .ok (.iload_n 3, 1) := by decide +kernel
theorem dX9_lowest_39 : decode cX9_lowest 39 = .ok (.iload 6, 2) := by decide +kernel
theorem dX9_lowest_41 : decode cX9_lowest 41 = .ok (.ishr, 1) := by decide +kernel
theorem dX9_lowest_42 : decode cX9_lowest 42 = .ok (.iconst 1, 1) := by decide +kernel
theorem dX9_lowest_43 : decode cX9_lowest 43 = .ok (.iand, 1) := by decide +kernel
theorem dX9_lowest_44 : decode cX9_lowest 44 = .ok (.iconst 1, 1) := by decide +kernel
theorem dX9_lowest_45 : decode cX9_lowest 45 = .ok (.if_icmp .ne 29, 3) := by decide +kernel
theorem dX9_lowest_48 : decode cX9_lowest 48 = .ok (.iload 5, 2) := by decide +kernel
theorem dX9_lowest_50 : decode cX9_lowest 50 = .ok (.iload 6, 2) := by decide +kernel
theorem dX9_lowest_52 : decode cX9_lowest 52 = .ok (.if_icmp .eq 22, 3) := by decide +kernel
theorem dX9_lowest_55 : decode cX9_lowest 55 = .ok (.aload_n 0, 1) := by decide +kernel
theorem dX9_lowest_56 : decode cX9_lowest 56 = .ok (.iload 5, 2) := by decide +kernel
theorem dX9_lowest_58 : decode cX9_lowest 58 = .ok (.iload 6, 2) := by decide +kernel
theorem dX9_lowest_60 : decode cX9_lowest 60 = .ok (.invokevirtual 223, 3) := by decide +kernel
theorem dX9_lowest_63 : decode cX9_lowest 63 = .ok (.iload_n 2, 1) := by decide +kernel
theorem dX9_lowest_64 : decode cX9_lowest 64 = .ok (.if_icmp .gt 10, 3) := by decide +kernel
theorem dX9_lowest_67 : decode cX9_lowest 67 = .ok (.iconst 1, 1) := by decide +kernel
theorem dX9_lowest_68 : decode cX9_lowest 68 = .ok (.iload 5, 2) := by decide +kernel
theorem dX9_lowest_70 : decode cX9_lowest 70 = .ok (.ishl, 1) := by decide +kernel
theorem dX9_lowest_71 : decode cX9_lowest 71 = .ok (.goto 4, 3) := by decide +kernel
theorem dX9_lowest_74 : decode cX9_lowest 74 = .ok (.iconst 0, 1) := by decide +kernel
theorem dX9_lowest_75 : decode cX9_lowest 75 = .ok (.ior, 1) := by decide +kernel
theorem dX9_lowest_76 : decode cX9_lowest 76 = .ok (.istore_n 3, 1) := by decide +kernel
theorem dX9_lowest_77 : decode cX9_lowest 77 = .ok (.iinc 6 1, 3) := by decide +kernel
theorem dX9_lowest_80 : decode cX9_lowest 80 = .ok (.goto (-52), 3) := by decide +kernel
theorem dX9_lowest_83 : decode cX9_lowest 83 = .ok (.iinc 5 1, 3) := by decide +kernel
theorem dX9_lowest_86 : decode cX9_lowest 86 = .ok (.goto (-70), 3) := by decide +kernel
theorem dX9_lowest_89 : decode cX9_lowest 89 = .ok (.iinc 4 1, 3) := by decide +kernel
theorem dX9_lowest_92 : decode cX9_lowest 92 = .ok (.goto (-85), 3) := by decide +kernel
theorem dX9_lowest_95 : decode cX9_lowest 95 = .ok (.iconst 0, 1) := by decide +kernel
theorem dX9_lowest_96 : decode cX9_lowest 96 = .ok (.istore 4, 2) := by decide +kernel
theorem dX9_lowest_98 : decode cX9_lowest 98 = .ok (.iload_n 3, 1) := by decide +kernel
theorem dX9_lowest_99 : decode cX9_lowest 99 = .ok (.iload 4, 2) := by decide +kernel
theorem dX9_lowest_101 : decode cX9_lowest 101 = .ok (.ishr, 1) := by decide +kernel
theorem dX9_lowest_102 : decode cX9_lowest 102 = .ok (.iconst 1, 1) := by decide +kernel
theorem dX9_lowest_103 : decode cX9_lowest 103 = .ok (.iand, 1) := by decide +kernel
theorem dX9_lowest_104 : decode cX9_lowest 104 = .ok (.ifCond .ne 9, 3) := by decide +kernel
theorem dX9_lowest_107 : decode cX9_lowest 107 = .ok (.iinc 4 1, 3) := by decide +kernel
theorem dX9_lowest_110 : decode cX9_lowest 110 = .ok (.goto (-12), 3) := by decide +kernel
theorem dX9_lowest_113 : decode cX9_lowest 113 = .ok (.iload 4, 2) := by decide +kernel
theorem dX9_lowest_115 : decode cX9_lowest 115 = .ok (.ireturn, 1) := by decide +kernel
theorem dX9_groups_0 : decode cX9_groups 0 = .ok (.aload_n 0, 1) := by decide +kernel
theorem dX9_groups_1 : decode cX9_groups 1 = .ok (.iconst 0, 1) := by decide +kernel
theorem dX9_groups_2 : decode cX9_groups 2 = .ok (.putfield 60, 3) := by decide +kernel
theorem dX9_groups_5 : decode cX9_groups 5 = .ok (.aload_n 0, 1) := by decide +kernel
theorem dX9_groups_6 : decode cX9_groups 6 = .ok (.iload_n 1, 1) := by decide +kernel
theorem dX9_groups_7 : decode cX9_groups 7 = .ok (.iconst 0, 1) := by decide +kernel
theorem dX9_groups_8 : decode cX9_groups 8 = .ok (.sipush 200, 3) := by decide +kernel
theorem dX9_groups_11 : decode cX9_groups 11 = .ok (.invokestatic 67, 3) := by decide +kernel
theorem dX9_groups_14 : decode cX9_groups 14 = .ok (.ifCond .ne 7, 3) := by decide +kernel
theorem dX9_groups_17 : decode cX9_groups 17 = .ok (.iconst 1, 1) := by decide +kernel
theorem dX9_groups_18 : decode cX9_groups 18 = .ok (.goto 4, 3) := by decide +kernel
theorem dX9_groups_21 : decode cX9_groups 21 = .ok (.iconst 0, 1) := by decide +kernel
theorem dX9_groups_22 : decode cX9_groups 22 = .ok (.iconst 1, 1) := by decide +kernel
theorem dX9_groups_23 : decode cX9_groups 23 = .ok (.invokevirtual 89, 3) := by decide +kernel
theorem dX9_groups_26 : decode cX9_groups 26 = .ok (.ifCond .eq 5, 3) := by decide +kernel
theorem dX9_groups_29 : decode cX9_groups 29 = .ok (.iconst 0, 1) := by decide +kernel
theorem dX9_groups_30 : decode cX9_groups 30 = .ok (.ireturn, 1) := by decide +kernel
theorem dX9_groups_31 : decode cX9_groups 31 = .ok (.iconst 0, 1) := by decide +kernel
theorem dX9_groups_32 : decode cX9_groups 32 = .ok (.istore_n 2, 1) := by decide +kernel
theorem dX9_groups_33 : decode cX9_groups 33 = .ok (.iconst 0, 1) := by decide +kernel
theorem dX9_groups_34 : decode cX9_groups 34 = .ok (.istore_n 3, 1) := by decide +kernel
theorem dX9_groups_35 : decode cX9_groups 35 = .ok (.iload_n 3, 1) := by decide +kernel
theorem dX9_groups_36 : decode cX9_groups 36 = .ok (.aload_n 0, 1) := by decide +kernel
theorem dX9_groups_37 : decode cX9_groups 37 = .ok (.getfield 64, 3) := by decide +kernel
theorem dX9_groups_40 : decode cX9_groups 40 = .ok (.if_icmp .ge 27, 3) := by decide +kernel
theorem dX9_groups_43 : decode cX9_groups 43 = .ok (.iload_n 2, 1) := by decide +kernel
theorem dX9_groups_44 : decode cX9_groups 44 = .ok (.aload_n 0, 1) := by decide +kernel
theorem dX9_groups_45 : decode cX9_groups 45 = .ok (.iload_n 3, 1) := by decide +kernel
theorem dX9_groups_46 : decode cX9_groups 46 = .ok (.iload_n 1, 1) := by decide +kernel
theorem dX9_groups_47 : decode cX9_groups 47 = .ok (.invokevirtual 226, 3) := by decide +kernel
theorem dX9_groups_50 : decode cX9_groups 50 = .ok (.iload_n 3, 1) := by decide +kernel
theorem dX9_groups_51 : decode cX9_groups 51 = .ok (.if_icmp .ne 7, 3) := by decide +kernel
theorem dX9_groups_54 : decode cX9_groups 54 = .ok (.iconst 1, 1) := by decide +kernel
theorem dX9_groups_55 : decode cX9_groups 55 = .ok (.goto 4, 3) := by decide +kernel
theorem dX9_groups_58 : decode cX9_groups 58 = .ok (.iconst 0, 1) := by decide +kernel
theorem dX9_groups_59 : decode cX9_groups 59 = .ok (.iadd, 1) := by decide +kernel
theorem dX9_groups_60 : decode cX9_groups 60 = .ok (.istore_n 2, 1) := by decide +kernel
theorem dX9_groups_61 : decode cX9_groups 61 = .ok (.iinc 3 1, 3) := by decide +kernel
theorem dX9_groups_64 : decode cX9_groups 64 = .ok (.goto (-29), 3) := by decide +kernel
theorem dX9_groups_67 : decode cX9_groups 67 = .ok (.iload_n 2, 1) := by decide +kernel
theorem dX9_groups_68 : decode cX9_groups 68 = .ok (.ireturn, 1) := by decide +kernel
theorem dX9_groupsByLinks_0 : decode cX9_groupsByLinks 0 = .ok (.aload_n 0, 1) := by decide +kernel
theorem dX9_groupsByLinks_1 : decode cX9_groupsByLinks 1 = .ok (.iload_n 1, 1) := by decide +kernel
theorem dX9_groupsByLinks_2 : decode cX9_groupsByLinks 2 = .ok (.invokevirtual 229, 3) := by decide +kernel
theorem dX9_groupsByLinks_5 : decode cX9_groupsByLinks 5 = .ok (.ireturn, 1) := by decide +kernel
theorem dX9_groupOf_0 : decode cX9_groupOf 0 = .ok (.aload_n 0, 1) := by decide +kernel
theorem dX9_groupOf_1 : decode cX9_groupOf 1 = .ok (.iconst 0, 1) := by decide +kernel
theorem dX9_groupOf_2 : decode cX9_groupOf 2 = .ok (.putfield 60, 3) := by decide +kernel
theorem dX9_groupOf_5 : decode cX9_groupOf 5 = .ok (.aload_n 0, 1) := by decide +kernel
theorem dX9_groupOf_6 : decode cX9_groupOf 6 = .ok (.aload_n 0, 1) := by decide +kernel
theorem dX9_groupOf_7 : decode cX9_groupOf 7 = .ok (.iload_n 1, 1) := by decide +kernel
theorem dX9_groupOf_8 : decode cX9_groupOf 8 = .ok (.invokevirtual 97, 3) := by decide +kernel
theorem dX9_groupOf_11 : decode cX9_groupOf 11 = .ok (.iconst 1, 1) := by decide +kernel
theorem dX9_groupOf_12 : decode cX9_groupOf 12 = .ok (.invokevirtual 89, 3) := by decide +kernel
theorem dX9_groupOf_15 : decode cX9_groupOf 15 = .ok (.ifCond .ne 27, 3) := by decide +kernel
theorem dX9_groupOf_18 : decode cX9_groupOf 18 = .ok (.aload_n 0, 1) := by decide +kernel
theorem dX9_groupOf_19 : decode cX9_groupOf 19 = .ok (.iload_n 2, 1) := by decide +kernel
theorem dX9_groupOf_20 : decode cX9_groupOf 20 = .ok (.iconst 0, 1) := by decide +kernel
theorem dX9_groupOf_21 : decode cX9_groupOf 21 = .ok (.sipush 200, 3) := by decide +kernel
theorem dX9_groupOf_24 : decode cX9_groupOf 24 = .ok (.invokestatic 67, 3) := by decide +kernel
theorem dX9_groupOf_27 : decode cX9_groupOf 27 = .ok (.ifCond .ne 7, 3) := by decide +kernel
theorem dX9_groupOf_30 : decode cX9_groupOf 30 = .ok (.iconst 1, 1) := by decide +kernel
theorem dX9_groupOf_31 : decode cX9_groupOf 31 = .ok (.goto 4, 3) := by decide +kernel
theorem dX9_groupOf_34 : decode cX9_groupOf 34 = .ok (.iconst 0, 1) := by decide +kernel
theorem dX9_groupOf_35 : decode cX9_groupOf 35 = .ok (.iconst 2, 1) := by decide +kernel
theorem dX9_groupOf_36 : decode cX9_groupOf 36 = .ok (.invokevirtual 89, 3) := by decide +kernel
theorem dX9_groupOf_39 : decode cX9_groupOf 39 = .ok (.ifCond .eq 7, 3) := by decide +kernel
theorem dX9_groupOf_42 : decode cX9_groupOf 42 = .ok (.iconst 0, 1) := by decide +kernel
theorem dX9_groupOf_43 : decode cX9_groupOf 43 = .ok (.goto 9, 3) := by decide +kernel
theorem dX9_groupOf_46 : decode cX9_groupOf 46 = .ok (.aload_n 0, 1) := by decide +kernel
theorem dX9_groupOf_47 : decode cX9_groupOf 47 = .ok (.iload_n 1, 1) := by decide +kernel
theorem dX9_groupOf_48 : decode cX9_groupOf 48 = .ok (.iload_n 2, 1) := by decide +kernel
theorem dX9_groupOf_49 : decode cX9_groupOf 49 = .ok (.invokevirtual 226, 3) := by decide +kernel
theorem dX9_groupOf_52 : decode cX9_groupOf 52 = .ok (.ireturn, 1) := by decide +kernel
theorem dX9_moved_0 : decode cX9_moved 0 = .ok (.aload_n 0, 1) := by decide +kernel
theorem dX9_moved_1 : decode cX9_moved 1 = .ok (.iconst 0, 1) := by decide +kernel
theorem dX9_moved_2 : decode cX9_moved 2 = .ok (.putfield 60, 3) := by decide +kernel
theorem dX9_moved_5 : decode cX9_moved 5 = .ok (.aload_n 0, 1) := by decide +kernel
theorem dX9_moved_6 : decode cX9_moved 6 = .ok (.getfield 112, 3) := by decide +kernel
theorem dX9_moved_9 : decode cX9_moved 9 = .ok (.lreturn, 1) := by decide +kernel
theorem dX9_covered_0 : decode cX9_covered 0 = .ok (.aload_n 0, 1) := by decide +kernel
theorem dX9_covered_1 : decode cX9_covered 1 = .ok (.iconst 0, 1) := by decide +kernel
theorem dX9_covered_2 : decode cX9_covered 2 = .ok (.putfield 60, 3) := by decide +kernel
theorem dX9_covered_5 : decode cX9_covered 5 = .ok (.iconst 0, 1) := by decide +kernel
theorem dX9_covered_6 : decode cX9_covered 6 = .ok (.istore_n 1, 1) := by decide +kernel
theorem dX9_covered_7 : decode cX9_covered 7 = .ok (.iconst 0, 1) := by decide +kernel
theorem dX9_covered_8 : decode cX9_covered 8 = .ok (.istore_n 2, 1) := by decide +kernel
theorem dX9_covered_9 : decode cX9_covered 9 = .ok (.iload_n 2, 1) := by decide +kernel
theorem dX9_covered_10 : decode cX9_covered 10 = .ok (.aload_n 0, 1) := by decide +kernel
theorem dX9_covered_11 : decode cX9_covered 11 = .ok (.getfield 64, 3) := by decide +kernel
theorem dX9_covered_14 : decode cX9_covered 14 = .ok (.if_icmp .ge 25, 3) := by decide +kernel
theorem dX9_covered_17 : decode cX9_covered 17 = .ok (.iload_n 1, 1) := by decide +kernel
theorem dX9_covered_18 : decode cX9_covered 18 = .ok (.aload_n 0, 1) := by decide +kernel
theorem dX9_covered_19 : decode cX9_covered 19 = .ok (.iload_n 2, 1) := by decide +kernel
theorem dX9_covered_20 : decode cX9_covered 20 = .ok (.iconst 0, 1) := by decide +kernel
theorem dX9_covered_21 : decode cX9_covered 21 = .ok (.invokevirtual 79, 3) := by decide +kernel
theorem dX9_covered_24 : decode cX9_covered 24 = .ok (.aload_n 0, 1) := by decide +kernel
theorem dX9_covered_25 : decode cX9_covered 25 = .ok (.iload_n 2, 1) := by decide +kernel
theorem dX9_covered_26 : decode cX9_covered 26 = .ok (.iconst 1, 1) := by decide +kernel
theorem dX9_covered_27 : decode cX9_covered 27 = .ok (.invokevirtual 79, 3) := by decide +kernel
theorem dX9_covered_30 : decode cX9_covered 30 = .ok (.imul, 1) := by decide +kernel
theorem dX9_covered_31 : decode cX9_covered 31 = .ok (.iadd, 1) := by decide +kernel
theorem dX9_covered_32 : decode cX9_covered 32 = .ok (.istore_n 1, 1) := by decide +kernel
theorem dX9_covered_33 : decode cX9_covered 33 = .ok (.iinc 2 1, 3) := by decide +kernel
theorem dX9_covered_36 : decode cX9_covered 36 = .ok (.goto (-27), 3) := by decide +kernel
theorem dX9_covered_39 : decode cX9_covered 39 = .ok (.iload_n 1, 1) := by decide +kernel
theorem dX9_covered_40 : decode cX9_covered 40 = .ok (.i2f, 1) := by decide +kernel
theorem dX9_covered_41 : decode cX9_covered 41 = .ok (.ldc 232, 2) := by decide +kernel
theorem dX9_covered_43 : decode cX9_covered 43 = .ok (.fdiv, 1) := by decide +kernel
theorem dX9_covered_44 : decode cX9_covered 44 = .ok (.freturn, 1) := by decide +kernel
theorem dX9_meanDistance_0 : decode cX9_meanDistance 0 = .ok (.aload_n 0, 1) := by decide +kernel
theorem dX9_meanDistance_1 : decode cX9_meanDistance 1 = .ok (.iconst 0, 1) := by decide +kernel
theorem dX9_meanDistance_2 : decode cX9_meanDistance 2 = .ok (.putfield 60, 3) := by decide +kernel
theorem dX9_meanDistance_5 : decode cX9_meanDistance 5 = .ok (.iconst 0, 1) := by decide +kernel
theorem dX9_meanDistance_6 : decode cX9_meanDistance 6 = .ok (.istore_n 1, 1) := by decide +kernel
theorem dX9_meanDistance_7 : decode cX9_meanDistance 7 = .ok (.iconst 0, 1) := by decide +kernel
theorem dX9_meanDistance_8 : decode cX9_meanDistance 8 = .ok (.istore_n 2, 1) := by decide +kernel
theorem dX9_meanDistance_9 : decode cX9_meanDistance 9 = .ok (.iconst 0, 1) := by decide +kernel
theorem dX9_meanDistance_10 : decode cX9_meanDistance 10 = .ok (.istore_n 3, 1) := by decide +kernel
theorem dX9_meanDistance_11 : decode cX9_meanDistance 11 = .ok (.iload_n 3, 1) := by decide +kernel
theorem dX9_meanDistance_12 : decode cX9_meanDistance 12 = .ok (.aload_n 0, 1) := by decide +kernel
theorem dX9_meanDistance_13 : decode cX9_meanDistance 13 = .ok (.getfield 64, 3) := by decide +kernel
theorem dX9_meanDistance_16 : decode cX9_meanDistance 16 = .ok (.if_icmp .ge 37, 3) := by decide +kernel
theorem dX9_meanDistance_19 : decode cX9_meanDistance 19 = .ok (.iconst 0, 1) := by decide +kernel
theorem dX9_meanDistance_20 : decode cX9_meanDistance 20 = .ok (.istore 4, 2) := by decide +kernel
theorem dX9_meanDistance_22 : decode cX9_meanDistance 22 = .ok (.iload 4, 2) := by decide +kernel
theorem dX9_meanDistance_24 : decode cX9_meanDistance 24 = .ok (.iload_n 3, 1) := by decide +kernel
theorem dX9_meanDistance_25 : decode cX9_meanDistance 25 = .ok (.if_icmp .ge 22, 3) := by decide +kernel
theorem dX9_meanDistance_28 : decode cX9_meanDistance 28 = .ok (.iload_n 1, 1) := by decide +kernel
theorem dX9_meanDistance_29 : decode cX9_meanDistance 29 = .ok (.aload_n 0, 1) := by decide +kernel
theorem dX9_meanDistance_30 : decode cX9_meanDistance 30 = .ok (.iload_n 3, 1) := by decide +kernel
theorem dX9_meanDistance_31 : decode cX9_meanDistance 31 = .ok (.iload 4, 2) := by decide +kernel
theorem dX9_meanDistance_33 : decode cX9_meanDistance 33 = .ok (.invokevirtual 223, 3) := by decide +kernel
theorem dX9_meanDistance_36 : decode cX9_meanDistance 36 = .ok (.iadd, 1) := by decide +kernel
theorem dX9_meanDistance_37 : decode cX9_meanDistance 37 = .ok (.istore_n 1, 1) := by decide +kernel
theorem dX9_meanDistance_38 : decode cX9_meanDistance 38 = .ok (.iinc 2 1, 3) := by decide +kernel
theorem dX9_meanDistance_41 : decode cX9_meanDistance 41 = .ok (.iinc 4 1, 3) := by decide +kernel
theorem dX9_meanDistance_44 : decode cX9_meanDistance 44 = .ok (.goto (-22), 3) := by decide +kernel
theorem dX9_meanDistance_47 : decode cX9_meanDistance 47 = .ok (.iinc 3 1, 3) := by decide +kernel
theorem dX9_meanDistance_50 : decode cX9_meanDistance 50 = .ok (.goto (-39), 3) := by decide +kernel
theorem dX9_meanDistance_53 : decode cX9_meanDistance 53 = .ok (.aload_n 0, 1) := by decide +kernel
theorem dX9_meanDistance_54 : decode cX9_meanDistance 54 = .ok (.iload_n 2, 1) := by decide +kernel
theorem dX9_meanDistance_55 : decode cX9_meanDistance 55 = .ok (.ifCond .ne 7, 3) := by decide +kernel
theorem dX9_meanDistance_58 : decode cX9_meanDistance 58 = .ok (.iconst 1, 1) := by decide +kernel
theorem dX9_meanDistance_59 : decode cX9_meanDistance 59 = .ok (.goto 4, 3) := by decide +kernel
theorem dX9_meanDistance_62 : decode cX9_meanDistance 62 = .ok (.iconst 0, 1) := by decide +kernel
theorem dX9_meanDistance_63 : decode cX9_meanDistance 63 = .ok (.iconst 1, 1) := by decide +kernel
theorem dX9_meanDistance_64 : decode cX9_meanDistance 64 = .ok (.invokevirtual 89, 3) := by decide +kernel
theorem dX9_meanDistance_67 : decode cX9_meanDistance 67 = .ok (.ifCond .eq 7, 3) := by decide +kernel
theorem dX9_meanDistance_70 : decode cX9_meanDistance 70 = .ok (.dconst 0, 1) := by decide +kernel
theorem dX9_meanDistance_71 : decode cX9_meanDistance 71 = .ok (.goto 8, 3) := by decide +kernel
theorem dX9_meanDistance_74 : decode cX9_meanDistance 74 = .ok (.iload_n 1, 1) := by decide +kernel
theorem dX9_meanDistance_75 : decode cX9_meanDistance 75 = .ok (.i2d, 1) := by decide +kernel
theorem dX9_meanDistance_76 : decode cX9_meanDistance 76 = .ok (.iload_n 2, 1) := by decide +kernel
theorem dX9_meanDistance_77 : decode cX9_meanDistance 77 = .ok (.i2d, 1) := by decide +kernel
theorem dX9_meanDistance_78 : decode cX9_meanDistance 78 = .ok (.ddiv, 1) := by decide +kernel
theorem dX9_meanDistance_79 : decode cX9_meanDistance 79 = .ok (.dreturn, 1) := by decide +kernel
theorem dX9_isSound_0 : decode cX9_isSound 0 = .ok (.aload_n 0, 1) := by decide +kernel
theorem dX9_isSound_1 : decode cX9_isSound 1 = .ok (.iconst 0, 1) := by decide +kernel
theorem dX9_isSound_2 : decode cX9_isSound 2 = .ok (.putfield 60, 3) := by decide +kernel
theorem dX9_isSound_5 : decode cX9_isSound 5 = .ok (.iconst 1, 1) := by decide +kernel
theorem dX9_isSound_6 : decode cX9_isSound 6 = .ok (.ireturn, 1) := by decide +kernel
