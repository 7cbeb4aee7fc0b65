theorem dX0_init_0 : decode cX0_init 0 = .ok (.aload_n 0, 1) := by decide +kernel
theorem dX0_init_1 : decode cX0_init 1 = .ok (.invokespecial 3, 3) := by decide +kernel
theorem dX0_init_4 : decode cX0_init 4 = .ok (.aload_n 0, 1) := by decide +kernel
theorem dX0_init_5 : decode cX0_init 5 = .ok (.new 9, 3) := by decide +kernel
theorem dX0_init_8 : decode cX0_init 8 = .ok (.dup, 1) := by decide +kernel
theorem dX0_init_9 : decode cX0_init 9 = .ok (.iconst 4, 1) := by decide +kernel
theorem dX0_init_10 : decode cX0_init 10 = .ok (.invokespecial 11, 3) := by decide +kernel
theorem dX0_init_13 : decode cX0_init 13 = .ok (.putfield 14, 3) := by decide +kernel
theorem dX0_init_16 : decode cX0_init 16 = .ok (.aload_n 0, 1) := by decide +kernel
theorem dX0_init_17 : decode cX0_init 17 = .ok (.new 9, 3) := by decide +kernel
theorem dX0_init_20 : decode cX0_init 20 = .ok (.dup, 1) := by decide +kernel
theorem dX0_init_21 : decode cX0_init 21 = .ok (.iconst 4, 1) := by decide +kernel
theorem dX0_init_22 : decode cX0_init 22 = .ok (.invokespecial 11, 3) := by decide +kernel
theorem dX0_init_25 : decode cX0_init 25 = .ok (.putfield 20, 3) := by decide +kernel
theorem dX0_init_28 : decode cX0_init 28 = .ok (.aload_n 0, 1) := by decide +kernel
theorem dX0_init_29 : decode cX0_init 29 = .ok (.iload_n 1, 1) := by decide +kernel
theorem dX0_init_30 : decode cX0_init 30 = .ok (.putfield 23, 3) := by decide +kernel
theorem dX0_init_33 : decode cX0_init 33 = .ok (.return_, 1) := by decide +kernel
theorem dX0_limit_0 : decode cX0_limit 0 = .ok (.aload_n 0, 1) := by decide +kernel
theorem dX0_limit_1 : decode cX0_limit 1 = .ok (.getfield 23, 3) := by decide +kernel
theorem dX0_limit_4 : decode cX0_limit 4 = .ok (.ireturn, 1) := by decide +kernel
theorem dX0_count_0 : decode cX0_count 0 = .ok (.aload_n 0, 1) := by decide +kernel
theorem dX0_count_1 : decode cX0_count 1 = .ok (.getfield 14, 3) := by decide +kernel
theorem dX0_count_4 : decode cX0_count 4 = .ok (.invokevirtual 27, 3) := by decide +kernel
theorem dX0_count_7 : decode cX0_count 7 = .ok (.ireturn, 1) := by decide +kernel
theorem dX0_append_0 : decode cX0_append 0 = .ok (.aload_n 0, 1) := by decide +kernel
theorem dX0_append_1 : decode cX0_append 1 = .ok (.getfield 14, 3) := by decide +kernel
theorem dX0_append_4 : decode cX0_append 4 = .ok (.iload_n 1, 1) := by decide +kernel
theorem dX0_append_5 : decode cX0_append 5 = .ok (.invokevirtual 31, 3) := by decide +kernel
theorem dX0_append_8 : decode cX0_append 8 = .ok (.aload_n 0, 1) := by decide +kernel
theorem dX0_append_9 : decode cX0_append 9 = .ok (.getfield 20, 3) := by decide +kernel
theorem dX0_append_12 : decode cX0_append 12 = .ok (.iload_n 2, 1) := by decide +kernel
theorem dX0_append_13 : decode cX0_append 13 = .ok (.invokevirtual 31, 3) := by decide +kernel
theorem dX0_append_16 : decode cX0_append 16 = .ok (.return_, 1) := by decide +kernel
theorem dX0_startAt_0 : decode cX0_startAt 0 = .ok (.aload_n 0, 1) := by decide +kernel
theorem dX0_startAt_1 : decode cX0_startAt 1 = .ok (.getfield 14, 3) := by decide +kernel
theorem dX0_startAt_4 : decode cX0_startAt 4 = .ok (.iload_n 1, 1) := by decide +kernel
theorem dX0_startAt_5 : decode cX0_startAt 5 = .ok (.invokevirtual 34, 3) := by decide +kernel
theorem dX0_startAt_8 : decode cX0_startAt 8 = .ok (.ireturn, 1) := by decide +kernel
theorem dX0_sizeAt_0 : decode cX0_sizeAt 0 = .ok (.aload_n 0, 1) := by decide +kernel
theorem dX0_sizeAt_1 : decode cX0_sizeAt 1 = .ok (.getfield 20, 3) := by decide +kernel
theorem dX0_sizeAt_4 : decode cX0_sizeAt 4 = .ok (.iload_n 1, 1) := by decide +kernel
theorem dX0_sizeAt_5 : decode cX0_sizeAt 5 = .ok (.invokevirtual 34, 3) := by decide +kernel
theorem dX0_sizeAt_8 : decode cX0_sizeAt 8 = .ok (.ireturn, 1) := by decide +kernel
theorem dX0_setStart_0 : decode cX0_setStart 0 = .ok (.aload_n 0, 1) := by decide +kernel
theorem dX0_setStart_1 : decode cX0_setStart 1 = .ok (.getfield 14, 3) := by decide +kernel
theorem dX0_setStart_4 : decode cX0_setStart 4 = .ok (.iload_n 1, 1) := by decide +kernel
theorem dX0_setStart_5 : decode cX0_setStart 5 = .ok (.iload_n 2, 1) := by decide +kernel
theorem dX0_setStart_6 : decode cX0_setStart 6 = .ok (.invokevirtual 38, 3) := by decide +kernel
theorem dX0_setStart_9 : decode cX0_setStart 9 = .ok (.return_, 1) := by decide +kernel
theorem dX0_setSize_0 : decode cX0_setSize 0 = .ok (.aload_n 0, 1) := by decide +kernel
theorem dX0_setSize_1 : decode cX0_setSize 1 = .ok (.getfield 20, 3) := by decide +kernel
theorem dX0_setSize_4 : decode cX0_setSize 4 = .ok (.iload_n 1, 1) := by decide +kernel
theorem dX0_setSize_5 : decode cX0_setSize 5 = .ok (.iload_n 2, 1) := by decide +kernel
theorem dX0_setSize_6 : decode cX0_setSize 6 = .ok (.invokevirtual 38, 3) := by decide +kernel
theorem dX0_setSize_9 : decode cX0_setSize 9 = .ok (.return_, 1) := by decide +kernel
theorem dX0_holds_0 : decode cX0_holds 0 = .ok (.iload_n 1, 1) := by decide +kernel
theorem dX0_holds_1 : decode cX0_holds 1 = .ok (.ifCond .lt 17, 3) := by decide +kernel
theorem dX0_holds_4 : decode cX0_holds 4 = .ok (.iload_n 1, 1) := by decide +kernel
theorem dX0_holds_5 : decode cX0_holds 5 = .ok (.aload_n 0, 1) := by decide +kernel
theorem dX0_holds_6 : decode cX0_holds 6 = .ok (.getfield 23, 3) := by decide +kernel
theorem dX0_holds_9 : decode cX0_holds 9 = .ok (.iload_n 2, 1) := by decide +kernel
theorem dX0_holds_10 : decode cX0_holds 10 = .ok (.isub, 1) := by decide +kernel
theorem dX0_holds_11 : decode cX0_holds 11 = .ok (.if_icmp .gt 7, 3) := by decide +kernel
theorem dX0_holds_14 : decode cX0_holds 14 = .ok (.iconst 1, 1) := by decide +kernel
theorem dX0_holds_15 : decode cX0_holds 15 = .ok (.goto 4, 3) := by decide +kernel
theorem dX0_holds_18 : decode cX0_holds 18 = .ok (.iconst 0, 1) := by decide +kernel
theorem dX0_holds_19 : decode cX0_holds 19 = .ok (.ireturn, 1) := by decide +kernel
theorem dX0_meets_0 : decode cX0_meets 0 = .ok (.iload_n 2, 1) := by decide +kernel
theorem dX0_meets_1 : decode cX0_meets 1 = .ok (.aload_n 0, 1) := by decide +kernel
theorem dX0_meets_2 : decode cX0_meets 2 = .ok (.getfield 14, 3) := by decide +kernel
theorem dX0_meets_5 : decode cX0_meets 5 = .ok (.iload_n 1, 1) := by decide +kernel
theorem dX0_meets_6 : decode cX0_meets 6 = .ok (.invokevirtual 34, 3) := by decide +kernel
theorem dX0_meets_9 : decode cX0_meets 9 = .ok (.aload_n 0, 1) := by decide +kernel
theorem dX0_meets_10 : decode cX0_meets 10 = .ok (.getfield 20, 3) := by decide +kernel
theorem dX0_meets_13 : decode cX0_meets 13 = .ok (.iload_n 1, 1) := by decide +kernel
theorem dX0_meets_14 : decode cX0_meets 14 = .ok (.invokevirtual 34, 3) := by decide +kernel
theorem dX0_meets_17 : decode cX0_meets 17 = .ok (.iadd, 1) := by decide +kernel
theorem dX0_meets_18 : decode cX0_meets 18 = .ok (.if_icmp .ge 21, 3) := by decide +kernel
theorem dX0_meets_21 : decode cX0_meets 21 = .ok (.aload_n 0, 1) := by decide +kernel
theorem dX0_meets_22 : decode cX0_meets 22 = .ok (.getfield 14, 3) := by decide +kernel
theorem dX0_meets_25 : decode cX0_meets 25 = .ok (.iload_n 1, 1) := by decide +kernel
theorem dX0_meets_26 : decode cX0_meets 26 = .ok (.invokevirtual 34, 3) := by decide +kernel
theorem dX0_meets_29 : decode cX0_meets 29 = .ok (.iload_n 2, 1) := by decide +kernel
theorem dX0_meets_30 : decode cX0_meets 30 = .ok (.iload_n 3, 1) := by decide +kernel
theorem dX0_meets_31 : decode cX0_meets 31 = .ok (.iadd, 1) := by decide +kernel
theorem dX0_meets_32 : decode cX0_meets 32 = .ok (.if_icmp .ge 7, 3) := by decide +kernel
theorem dX0_meets_35 : decode cX0_meets 35 = .ok (.iconst 1, 1) := by decide +kernel
theorem dX0_meets_36 : decode cX0_meets 36 = .ok (.goto 4, 3) := by decide +kernel
theorem dX0_meets_39 : decode cX0_meets 39 = .ok (.iconst 0, 1) := by decide +kernel
theorem dX0_meets_40 : decode cX0_meets 40 = .ok (.ireturn, 1) := by decide +kernel
theorem dX0_gapBetween_0 : decode cX0_gapBetween 0 = .ok (.aload_n 0, 1) := by decide +kernel
theorem dX0_gapBetween_1 : decode cX0_gapBetween 1 = .ok (.getfield 14, 3) := by decide +kernel
theorem dX0_gapBetween_4 : decode cX0_gapBetween 4 = .ok (.iload_n 1, 1) := by decide +kernel
theorem dX0_gapBetween_5 : decode cX0_gapBetween 5 = .ok (.invokevirtual 34, 3) := by decide +kernel
theorem dX0_gapBetween_8 : decode cX0_gapBetween 8 = .ok (.istore_n 3, 1) := by decide +kernel
theorem dX0_gapBetween_9 : decode cX0_gapBetween 9 = .ok (.aload_n 0, 1) := by decide +kernel
theorem dX0_gapBetween_10 : decode cX0_gapBetween 10 = .ok (.getfield 14, 3) := by decide +kernel
theorem dX0_gapBetween_13 : decode cX0_gapBetween 13 = .ok (.iload_n 2, 1) := by decide +kernel
theorem dX0_gapBetween_14 : decode cX0_gapBetween 14 = .ok (.invokevirtual 34, 3) := by decide +kernel
theorem dX0_gapBetween_17 : decode cX0_gapBetween 17 = .ok (.istore 4, 2) := by decide +kernel
theorem dX0_gapBetween_19 : decode cX0_gapBetween 19 = .ok (.iload 4, 2) := by decide +kernel
theorem dX0_gapBetween_21 : decode cX0_gapBetween 21 = .ok (.iload_n 3, 1) := by decide +kernel
theorem dX0_gapBetween_22 : decode cX0_gapBetween 22 = .ok (.aload_n 0, 1) := by decide +kernel
theorem dX0_gapBetween_23 : decode cX0_gapBetween 23 = .ok (.getfield 20, 3) := by decide +kernel
theorem dX0_gapBetween_26 : decode cX0_gapBetween 26 = .ok (.iload_n 1, 1) := by decide +kernel
theorem dX0_gapBetween_27 : decode cX0_gapBetween 27 = .ok (.invokevirtual 34, 3) := by decide +kernel
theorem dX0_gapBetween_30 : decode cX0_gapBetween 30 = .ok (.iadd, 1) := by decide +kernel
theorem dX0_gapBetween_31 : decode cX0_gapBetween 31 = .ok (.isub, 1) := by decide +kernel
theorem dX0_gapBetween_32 : decode cX0_gapBetween 32 = .ok (.istore 5, 2) := by decide +kernel
theorem dX0_gapBetween_34 : decode cX0_gapBetween 34 = .ok (.iload_n 3, 1) := by decide +kernel
theorem dX0_gapBetween_35 : decode cX0_gapBetween 35 = .ok (.iload 4, 2) := by decide +kernel
theorem dX0_gapBetween_37 : decode cX0_gapBetween 37 = .ok (.aload_n 0, 1) := by decide +kernel
theorem dX0_gapBetween_38 : decode cX0_gapBetween 38 = .ok (.getfield 20, 3) := by decide +kernel
theorem dX0_gapBetween_41 : decode cX0_gapBetween 41 = .ok (.iload_n 2, 1) := by decide +kernel
theorem dX0_gapBetween_42 : decode cX0_gapBetween 42 = .ok (.invokevirtual 34, 3) := by decide +kernel
theorem dX0_gapBetween_45 : decode cX0_gapBetween 45 = .ok (.iadd, 1) := by decide +kernel
theorem dX0_gapBetween_46 : decode cX0_gapBetween 46 = .ok (.isub, 1) := by decide +kernel
theorem dX0_gapBetween_47 : decode cX0_gapBetween 47 = .ok (.istore 6, 2) := by decide +kernel
theorem dX0_gapBetween_49 : decode cX0_gapBetween 49 = .ok (.iconst 0, 1) := by decide +kernel
theorem dX0_gapBetween_50 : decode cX0_gapBetween 50 = .ok (.iload 5, 2) := by decide +kernel
theorem dX0_gapBetween_52 : decode cX0_gapBetween 52 = .ok (.iload 6, 2) := by decide +kernel
theorem dX0_gapBetween_54 : decode cX0_gapBetween 54 = .ok (.invokestatic 42, 3) := by decide +kernel
theorem dX0_gapBetween_57 : decode cX0_gapBetween 57 = .ok (.invokestatic 42, 3) := by decide +kernel
theorem dX0_gapBetween_60 : decode cX0_gapBetween 60 = .ok (.ireturn, 1) := by decide +kernel
theorem dX0_twiceEdge_0 : decode cX0_twiceEdge 0 = .ok (.iconst 2, 1) := by decide +kernel
theorem dX0_twiceEdge_1 : decode cX0_twiceEdge 1 = .ok (.aload_n 0, 1) := by decide +kernel
theorem dX0_twiceEdge_2 : decode cX0_twiceEdge 2 = .ok (.getfield 14, 3) := by decide +kernel
theorem dX0_twiceEdge_5 : decode cX0_twiceEdge 5 = .ok (.iload_n 1, 1) := by decide +kernel
theorem dX0_twiceEdge_6 : decode cX0_twiceEdge 6 = .ok (.invokevirtual 34, 3) := by decide +kernel
theorem dX0_twiceEdge_9 : decode cX0_twiceEdge 9 = .ok (.imul, 1) := by decide +kernel
theorem dX0_twiceEdge_10 : decode cX0_twiceEdge 10 = .ok (.iload_n 2, 1) := by decide +kernel
theorem dX0_twiceEdge_11 : decode cX0_twiceEdge 11 = .ok (.aload_n 0, 1) := by decide +kernel
theorem dX0_twiceEdge_12 : decode cX0_twiceEdge 12 = .ok (.getfield 20, 3) := by decide +kernel
theorem dX0_twiceEdge_15 : decode cX0_twiceEdge 15 = .ok (.iload_n 1, 1) := by decide +kernel
theorem dX0_twiceEdge_16 : decode cX0_twiceEdge 16 = .ok (.invokevirtual 34, 3) := by decide +kernel
theorem dX0_twiceEdge_19 : decode cX0_twiceEdge 19 = .ok (.imul, 1) := by decide +kernel
theorem dX0_twiceEdge_20 : decode cX0_twiceEdge 20 = .ok (.iadd, 1) := by decide +kernel
theorem dX0_twiceEdge_21 : decode cX0_twiceEdge 21 = .ok (.ireturn, 1) := by decide +kernel
theorem dX0_listSnaps_0 : decode cX0_listSnaps 0 = .ok (.aload_n 2, 1) := by decide +kernel
theorem dX0_listSnaps_1 : decode cX0_listSnaps 1 = .ok (.invokevirtual 48, 3) := by decide +kernel
theorem dX0_listSnaps_4 : decode cX0_listSnaps 4 = .ok (.aload_n 2, 1) := by decide +kernel
theorem dX0_listSnaps_5 : decode cX0_listSnaps 5 = .ok (.aload_n 0, 1) := by decide +kernel
theorem dX0_listSnaps_6 : decode cX0_listSnaps 6 = .ok (.getfield 14, 3) := by decide +kernel
theorem dX0_listSnaps_9 : decode cX0_listSnaps 9 = .ok (.iload_n 1, 1) := by decide +kernel
theorem dX0_listSnaps_10 : decode cX0_listSnaps 10 = .ok (.invokevirtual 34, 3) := by decide +kernel
theorem dX0_listSnaps_13 : decode cX0_listSnaps 13 = .ok (.invokevirtual 51, 3) := by decide +kernel
theorem dX0_listSnaps_16 : decode cX0_listSnaps 16 = .ok (.iconst 0, 1) := by decide +kernel
theorem dX0_listSnaps_17 : decode cX0_listSnaps 17 = .ok (.istore_n 3, 1) := by decide +kernel
theorem dX0_listSnaps_18 : decode cX0_listSnaps 18 = .ok (.iload_n 3, 1) := by decide +kernel
theorem dX0_listSnaps_19 : decode cX0_listSnaps 19 = .ok (.aload_n 0, 1) := by decide +kernel
theorem dX0_listSnaps_20 : decode cX0_listSnaps 20 = .ok (.getfield 14, 3) := by decide +kernel
theorem dX0_listSnaps_23 : decode cX0_listSnaps 23 = .ok (.invokevirtual 27, 3) := by decide +kernel
theorem dX0_listSnaps_26 : decode cX0_listSnaps 26 = .ok (.if_icmp .ge 88, 3) := by decide +kernel
theorem dX0_listSnaps_29 : decode cX0_listSnaps 29 = .ok (.iconst 0, 1) := by decide +kernel
theorem dX0_listSnaps_30 : decode cX0_listSnaps 30 = .ok (.istore 4, 2) := by decide +kernel
theorem dX0_listSnaps_32 : decode cX0_listSnaps 32 = .ok (.iload 4, 2) := by decide +kernel
theorem dX0_listSnaps_34 : decode cX0_listSnaps 34 = .ok (.iconst 2, 1) := by decide +kernel
theorem dX0_listSnaps_35 : decode cX0_listSnaps 35 = .ok (.if_icmp .gt 73, 3) := by decide +kernel
theorem dX0_listSnaps_38 : decode cX0_listSnaps 38 = .ok (.iload_n 3, 1) := by decide +kernel
theorem dX0_listSnaps_39 : decode cX0_listSnaps 39 = .ok (.iload_n 1, 1) := by decide +kernel
theorem dX0_listSnaps_40 : decode cX0_listSnaps 40 = .ok (.if_icmp .eq 68, 3) := by decide +kernel
theorem dX0_listSnaps_43 : decode cX0_listSnaps 43 = .ok (.iconst 2, 1) := by decide +kernel
theorem dX0_listSnaps_44 : decode cX0_listSnaps 44 = .ok (.aload_n 0, 1) := by decide +kernel
theorem dX0_listSnaps_45 : decode cX0_listSnaps 45 = .ok (.getfield 14, 3) := by decide +kernel
theorem dX0_listSnaps_48 : decode cX0_listSnaps 48 = .ok (.iload_n 3, 1) := by decide +kernel
theorem dX0_listSnaps_49 : decode cX0_listSnaps 49 = .ok (.invokevirtual 34, 3) := by decide +kernel
theorem dX0_listSnaps_52 : decode cX0_listSnaps 52 = .ok (.imul, 1) := by decide +kernel
theorem dX0_listSnaps_53 : decode cX0_listSnaps 53 = .ok (.iload 4, 2) := by decide +kernel
theorem dX0_listSnaps_55 : decode cX0_listSnaps 55 = .ok (.aload_n 0, 1) := by decide +kernel
theorem dX0_listSnaps_56 : decode cX0_listSnaps 56 = .ok (.getfield 20, 3) := by decide +kernel
theorem dX0_listSnaps_59 : decode cX0_listSnaps 59 = .ok (.iload_n 3, 1) := by decide +kernel
theorem dX0_listSnaps_60 : decode cX0_listSnaps 60 = .ok (.invokevirtual 34, 3) := by decide +kernel
theorem dX0_listSnaps_63 : decode cX0_listSnaps 63 = .ok (.aload_n 0, 1) := by decide +kernel
theorem dX0_listSnaps_64 : decode cX0_listSnaps 64 = .ok (.getfield 20, 3) := by decide +kernel
theorem dX0_listSnaps_67 : decode cX0_listSnaps 67 = .ok (.iload_n 1, 1) := by decide +kernel
theorem dX0_listSnaps_68 : decode cX0_listSnaps 68 = .ok (.invokevirtual 34, 3) := by decide +kernel
theorem dX0_listSnaps_71 : decode cX0_listSnaps 71 = .ok (.isub, 1) := by decide +kernel
theorem dX0_listSnaps_72 : decode cX0_listSnaps 72 = .ok (.imul, 1) := by decide +kernel
theorem dX0_listSnaps_73 : decode cX0_listSnaps 73 = .ok (.iadd, 1) := by decide +kernel
theorem dX0_listSnaps_74 : decode cX0_listSnaps 74 = .ok (.istore 5, 2) := by decide +kernel
theorem dX0_listSnaps_76 : decode cX0_listSnaps 76 = .ok (.iload 5, 2) := by decide +kernel
theorem dX0_listSnaps_78 : decode cX0_listSnaps 78 = .ok (.iconst 2, 1) := by decide +kernel
theorem dX0_listSnaps_79 : decode cX0_listSnaps 79 = .ok (.irem, 1) := by decide +kernel
theorem dX0_listSnaps_80 : decode cX0_listSnaps 80 = .ok (.ifCond .ne 22, 3) := by decide +kernel
theorem dX0_listSnaps_83 : decode cX0_listSnaps 83 = .ok (.aload_n 2, 1) := by decide +kernel
theorem dX0_listSnaps_84 : decode cX0_listSnaps 84 = .ok (.iload 5, 2) := by decide +kernel
theorem dX0_listSnaps_86 : decode cX0_listSnaps 86 = .ok (.iconst 2, 1) := by decide +kernel
theorem dX0_listSnaps_87 : decode cX0_listSnaps 87 = .ok (.idiv, 1) := by decide +kernel
theorem dX0_listSnaps_88 : decode cX0_listSnaps 88 = .ok (.invokevirtual 54, 3) := by decide +kernel
theorem dX0_listSnaps_91 : decode cX0_listSnaps 91 = .ok (.ifCond .ne 11, 3) := by decide +kernel
theorem dX0_listSnaps_94 : decode cX0_listSnaps 94 = .ok (.aload_n 2, 1) := by decide +kernel
theorem dX0_listSnaps_95 : decode cX0_listSnaps 95 = .ok (.iload 5, 2) := by decide +kernel
theorem dX0_listSnaps_97 : decode cX0_listSnaps 97 = .ok (.iconst 2, 1) := by decide +kernel
theorem dX0_listSnaps_98 : decode cX0_listSnaps 98 = .ok (.idiv, 1) := by decide +kernel
theorem dX0_listSnaps_99 : decode cX0_listSnaps 99 = .ok (.invokevirtual 51, 3) := by decide +kernel
theorem dX0_listSnaps_102 : decode cX0_listSnaps 102 = .ok (.iinc 4 1, 3) := by decide +kernel
theorem dX0_listSnaps_105 : decode cX0_listSnaps 105 = .ok (.goto (-73), 3) := by decide +kernel
theorem dX0_listSnaps_108 : decode cX0_listSnaps 108 = .ok (.iinc 3 1, 3) := by decide +kernel
theorem dX0_listSnaps_111 : decode cX0_listSnaps 111 = .ok (.goto (-93), 3) := by decide +kernel
theorem dX0_listSnaps_114 : decode cX0_listSnaps 114 = .ok (.return_, 1) := by decide +kernel
theorem dX0_listGuides_0 : decode cX0_listGuides 0 = .ok (.aload_n 1, 1) := by decide +kernel
theorem dX0_listGuides_1 : decode cX0_listGuides 1 = .ok (.invokevirtual 48, 3) := by decide +kernel
theorem dX0_listGuides_4 : decode cX0_listGuides 4 = .ok (.iconst 0, 1) := by decide +kernel
theorem dX0_listGuides_5 : decode cX0_listGuides 5 = .ok (.istore_n 2, 1) := by decide +kernel
theorem dX0_listGuides_6 : decode cX0_listGuides 6 = .ok (.iload_n 2, 1) := by decide +kernel
theorem dX0_listGuides_7 : decode cX0_listGuides 7 = .ok (.aload_n 0, 1) := by decide +kernel
theorem dX0_listGuides_8 : decode cX0_listGuides 8 = .ok (.getfield 14, 3) := by decide +kernel
theorem dX0_listGuides_11 : decode cX0_listGuides 11 = .ok (.invokevirtual 27, 3) := by decide +kernel
theorem dX0_listGuides_14 : decode cX0_listGuides 14 = .ok (.if_icmp .ge 55, 3) := by decide +kernel
theorem dX0_listGuides_17 : decode cX0_listGuides 17 = .ok (.iconst 0, 1) := by decide +kernel
theorem dX0_listGuides_18 : decode cX0_listGuides 18 = .ok (.istore_n 3, 1) := by decide +kernel
theorem dX0_listGuides_19 : decode cX0_listGuides 19 = .ok (.iload_n 3, 1) := by decide +kernel
theorem dX0_listGuides_20 : decode cX0_listGuides 20 = .ok (.iconst 2, 1) := by decide +kernel
theorem dX0_listGuides_21 : decode cX0_listGuides 21 = .ok (.if_icmp .gt 42, 3) := by decide +kernel
theorem dX0_listGuides_24 : decode cX0_listGuides 24 = .ok (.aload_n 0, 1) := by decide +kernel
theorem dX0_listGuides_25 : decode cX0_listGuides 25 = .ok (.iload_n 2, 1) := by decide +kernel
theorem dX0_listGuides_26 : decode cX0_listGuides 26 = .ok (.iload_n 3, 1) := by decide +kernel
theorem dX0_listGuides_27 : decode cX0_listGuides 27 = .ok (.invokevirtual 58, 3) := by decide +kernel
theorem dX0_listGuides_30 : decode cX0_listGuides 30 = .ok (.istore 4, 2) := by decide +kernel
theorem dX0_listGuides_32 : decode cX0_listGuides 32 = .ok (.aload_n 0, 1) := by decide +kernel
theorem dX0_listGuides_33 : decode cX0_listGuides 33 = .ok (.iload_n 2, 1) := by decide +kernel
theorem dX0_listGuides_34 : decode cX0_listGuides 34 = .ok (.iload 4, 2) := by decide +kernel
theorem dX0_listGuides_36 : decode cX0_listGuides 36 = .ok (.invokevirtual 61, 3) := by decide +kernel
theorem dX0_listGuides_39 : decode cX0_listGuides 39 = .ok (.ifCond .eq 18, 3) := by decide +kernel
theorem dX0_listGuides_42 : decode cX0_listGuides 42 = .ok (.aload_n 1, 1) := by decide +kernel
theorem dX0_listGuides_43 : decode cX0_listGuides 43 = .ok (.iload 4, 2) := by decide +kernel
theorem dX0_listGuides_45 : decode cX0_listGuides 45 = .ok (.invokevirtual 54, 3) := by decide +kernel
theorem dX0_listGuides_48 : decode cX0_listGuides 48 = .ok (.ifCond .ne 9, 3) := by decide +kernel
theorem dX0_listGuides_51 : decode cX0_listGuides 51 = .ok (.aload_n 1, 1) := by decide +kernel
theorem dX0_listGuides_52 : decode cX0_listGuides 52 = .ok (.iload 4, 2) := by decide +kernel
theorem dX0_listGuides_54 : decode cX0_listGuides 54 = .ok (.invokevirtual 51, 3) := by decide +kernel
theorem dX0_listGuides_57 : decode cX0_listGuides 57 = .ok (.iinc 3 1, 3) := by decide +kernel
theorem dX0_listGuides_60 : decode cX0_listGuides 60 = .ok (.goto (-41), 3) := by decide +kernel
theorem dX0_listGuides_63 : decode cX0_listGuides 63 = .ok (.iinc 2 1, 3) := by decide +kernel
theorem dX0_listGuides_66 : decode cX0_listGuides 66 = .ok (.goto (-60), 3) := by decide +kernel
theorem dX0_listGuides_69 : decode cX0_listGuides 69 = .ok (.return_, 1) := by decide +kernel
theorem dX0_isEdgeOfLower_0 : decode cX0_isEdgeOfLower 0 = .ok (.iconst 0, 1) := by decide +kernel
theorem dX0_isEdgeOfLower_1 : decode cX0_isEdgeOfLower 1 = .ok (.istore_n 3, 1) := by decide +kernel
theorem dX0_isEdgeOfLower_2 : decode cX0_isEdgeOfLower 2 = .ok (.iload_n 3, 1) := by decide +kernel
theorem dX0_isEdgeOfLower_3 : decode cX0_isEdgeOfLower 3 = .ok (.iload_n 1, 1) := by decide +kernel
theorem dX0_isEdgeOfLower_4 : decode cX0_isEdgeOfLower 4 = .ok (.if_icmp .ge 37, 3) := by decide +kernel
theorem dX0_isEdgeOfLower_7 : decode cX0_isEdgeOfLower 7 = .ok (.iconst 0, 1) := by decide +kernel
theorem dX0_isEdgeOfLower_8 : decode cX0_isEdgeOfLower 8 = .ok (.istore 4, 2) := by decide +kernel
theorem dX0_isEdgeOfLower_10 : decode cX0_isEdgeOfLower 10 = .ok (.iload 4, 2) := by decide +kernel
theorem dX0_isEdgeOfLower_12 : decode cX0_isEdgeOfLower 12 = .ok (.iconst 2, 1) := by decide +kernel
theorem dX0_isEdgeOfLower_13 : decode cX0_isEdgeOfLower 13 = .ok (.if_icmp .gt 22, 3) := by decide +kernel
theorem dX0_isEdgeOfLower_16 : decode cX0_isEdgeOfLower 16 = .ok (.aload_n 0, 1) := by decide +kernel
theorem dX0_isEdgeOfLower_17 : decode cX0_isEdgeOfLower 17 = .ok (.iload_n 3, 1) := by decide +kernel
theorem dX0_isEdgeOfLower_18 : decode cX0_isEdgeOfLower 18 = .ok (.iload 4, 2) := by decide +kernel
theorem dX0_isEdgeOfLower_20 : decode cX0_isEdgeOfLower 20 = .ok (.invokevirtual 58, 3) := by decide +kernel
theorem dX0_isEdgeOfLower_23 : decode cX0_isEdgeOfLower 23 = .ok (.iload_n 2, 1) := by decide +kernel
theorem dX0_isEdgeOfLower_24 : decode cX0_isEdgeOfLower 24 = .ok (.if_icmp .ne 5, 3) := by decide +kernel
theorem dX0_isEdgeOfLower_27 : decode cX0_isEdgeOfLower 27 = .ok (.iconst 1, 1) := by decide +kernel
theorem dX0_isEdgeOfLower_28 : decode cX0_isEdgeOfLower 28 = .ok (.ireturn, 1) := by decide +kernel
theorem dX0_isEdgeOfLower_29 : decode cX0_isEdgeOfLower 29 = .ok (.iinc 4 1, 3) := by decide +kernel
theorem dX0_isEdgeOfLower_32 : decode cX0_isEdgeOfLower 32 = .ok (.goto (-22), 3) := by decide +kernel
theorem dX0_isEdgeOfLower_35 : decode cX0_isEdgeOfLower 35 = .ok (.iinc 3 1, 3) := by decide +kernel
theorem dX0_isEdgeOfLower_38 : decode cX0_isEdgeOfLower 38 = .ok (.goto (-36), 3) := by decide +kernel
theorem dX0_isEdgeOfLower_41 : decode cX0_isEdgeOfLower 41 = .ok (.iconst 0, 1) := by decide +kernel
theorem dX0_isEdgeOfLower_42 : decode cX0_isEdgeOfLower 42 = .ok (.ireturn, 1) := by decide +kernel
