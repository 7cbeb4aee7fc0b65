theorem dX7_init_0 : decode cX7_init 0 = .ok (.aload_n 0, 1) := by decide +kernel
theorem dX7_init_1 : decode cX7_init 1 = .ok (.invokespecial 3, 3) := by decide +kernel
theorem dX7_init_4 : decode cX7_init 4 = .ok (.aload_n 0, 1) := by decide +kernel
theorem dX7_init_5 : decode cX7_init 5 = .ok (.new 9, 3) := by decide +kernel
theorem dX7_init_8 : decode cX7_init 8 = .ok (.dup, 1) := by decide +kernel
theorem dX7_init_9 : decode cX7_init 9 = .ok (.bipush 8, 2) := by decide +kernel
theorem dX7_init_11 : decode cX7_init 11 = .ok (.invokespecial 11, 3) := by decide +kernel
theorem dX7_init_14 : decode cX7_init 14 = .ok (.putfield 14, 3) := by decide +kernel
theorem dX7_init_17 : decode cX7_init 17 = .ok (.aload_n 0, 1) := by decide +kernel
theorem dX7_init_18 : decode cX7_init 18 = .ok (.new 9, 3) := by decide +kernel
theorem dX7_init_21 : decode cX7_init 21 = .ok (.dup, 1) := by decide +kernel
theorem dX7_init_22 : decode cX7_init 22 = .ok (.bipush 8, 2) := by decide +kernel
theorem dX7_init_24 : decode cX7_init 24 = .ok (.invokespecial 11, 3) := by decide +kernel
theorem dX7_init_27 : decode cX7_init 27 = .ok (.putfield 20, 3) := by decide +kernel
theorem dX7_init_30 : decode cX7_init 30 = .ok (.aload_n 0, 1) := by decide +kernel
theorem dX7_init_31 : decode cX7_init 31 = .ok (.new 9, 3) := by decide +kernel
theorem dX7_init_34 : decode cX7_init 34 = .ok (.dup, 1) := by decide +kernel
theorem dX7_init_35 : decode cX7_init 35 = .ok (.bipush 8, 2) := by decide +kernel
theorem dX7_init_37 : decode cX7_init 37 = .ok (.invokespecial 11, 3) := by decide +kernel
theorem dX7_init_40 : decode cX7_init 40 = .ok (.putfield 23, 3) := by decide +kernel
theorem dX7_init_43 : decode cX7_init 43 = .ok (.aload_n 0, 1) := by decide +kernel
theorem dX7_init_44 : decode cX7_init 44 = .ok (.new 9, 3) := by decide +kernel
theorem dX7_init_47 : decode cX7_init 47 = .ok (.dup, 1) := by decide +kernel
theorem dX7_init_48 : decode cX7_init 48 = .ok (.bipush 8, 2) := by decide +kernel
theorem dX7_init_50 : decode cX7_init 50 = .ok (.invokespecial 11, 3) := by decide +kernel
theorem dX7_init_53 : decode cX7_init 53 = .ok (.putfield 26, 3) := by decide +kernel
theorem dX7_init_56 : decode cX7_init 56 = .ok (.aload_n 0, 1) := by decide +kernel
theorem dX7_init_57 : decode cX7_init 57 = .ok (.new 9, 3) := by decide +kernel
theorem dX7_init_60 : decode cX7_init 60 = .ok (.dup, 1) := by decide +kernel
theorem dX7_init_61 : decode cX7_init 61 = .ok (.bipush 8, 2) := by decide +kernel
theorem dX7_init_63 : decode cX7_init 63 = .ok (.invokespecial 11, 3) := by decide +kernel
theorem dX7_init_66 : decode cX7_init 66 = .ok (.putfield 29, 3) := by decide +kernel
theorem dX7_init_69 : decode cX7_init 69 = .ok (.return_, 1) := by decide +kernel
theorem dX7_isKind_0 : decode cX7_isKind 0 = .ok (.iload_n 0, 1) := by decide +kernel
theorem dX7_isKind_1 : decode cX7_isKind 1 = .ok (.invokestatic 32, 3) := by decide +kernel
theorem dX7_isKind_4 : decode cX7_isKind 4 = .ok (.ifCond .ne 21, 3) := by decide +kernel
theorem dX7_isKind_7 : decode cX7_isKind 7 = .ok (.iload_n 0, 1) := by decide +kernel
theorem dX7_isKind_8 : decode cX7_isKind 8 = .ok (.bipush 116, 2) := by decide +kernel
theorem dX7_isKind_10 : decode cX7_isKind 10 = .ok (.if_icmp .eq 15, 3) := by decide +kernel
theorem dX7_isKind_13 : decode cX7_isKind 13 = .ok (.iload_n 0, 1) := by decide +kernel
theorem dX7_isKind_14 : decode cX7_isKind 14 = .ok (.bipush 109, 2) := by decide +kernel
theorem dX7_isKind_16 : decode cX7_isKind 16 = .ok (.if_icmp .eq 9, 3) := by decide +kernel
theorem dX7_isKind_19 : decode cX7_isKind 19 = .ok (.iload_n 0, 1) := by decide +kernel
theorem dX7_isKind_20 : decode cX7_isKind 20 = .ok (.bipush 98, 2) := by decide +kernel
theorem dX7_isKind_22 : decode cX7_isKind 22 = .ok (.if_icmp .ne 7, 3) := by decide +kernel
theorem dX7_isKind_25 : decode cX7_isKind 25 = .ok (.iconst 1, 1) := by decide +kernel
theorem dX7_isKind_26 : decode cX7_isKind 26 = .ok (.goto 4, 3) := by decide +kernel
theorem dX7_isKind_29 : decode cX7_isKind 29 = .ok (.iconst 0, 1) := by decide +kernel
theorem dX7_isKind_30 : decode cX7_isKind 30 = .ok (.ireturn, 1) := by decide +kernel
theorem dX7_isKindAcross_0 : decode cX7_isKindAcross 0 = .ok (.iload_n 0, 1) := by decide +kernel
theorem dX7_isKindAcross_1 : decode cX7_isKindAcross 1 = .ok (.bipush 108, 2) := by decide +kernel
theorem dX7_isKindAcross_3 : decode cX7_isKindAcross 3 = .ok (.if_icmp .eq 15, 3) := by decide +kernel
theorem dX7_isKindAcross_6 : decode cX7_isKindAcross 6 = .ok (.iload_n 0, 1) := by decide +kernel
theorem dX7_isKindAcross_7 : decode cX7_isKindAcross 7 = .ok (.bipush 99, 2) := by decide +kernel
theorem dX7_isKindAcross_9 : decode cX7_isKindAcross 9 = .ok (.if_icmp .eq 9, 3) := by decide +kernel
theorem dX7_isKindAcross_12 : decode cX7_isKindAcross 12 = .ok (.iload_n 0, 1) := by decide +kernel
theorem dX7_isKindAcross_13 : decode cX7_isKindAcross 13 = .ok (.bipush 114, 2) := by decide +kernel
theorem dX7_isKindAcross_15 : decode cX7_isKindAcross 15 = .ok (.if_icmp .ne 7, 3) := by decide +kernel
theorem dX7_isKindAcross_18 : decode cX7_isKindAcross 18 = .ok (.iconst 1, 1) := by decide +kernel
theorem dX7_isKindAcross_19 : decode cX7_isKindAcross 19 = .ok (.goto 4, 3) := by decide +kernel
theorem dX7_isKindAcross_22 : decode cX7_isKindAcross 22 = .ok (.iconst 0, 1) := by decide +kernel
theorem dX7_isKindAcross_23 : decode cX7_isKindAcross 23 = .ok (.ireturn, 1) := by decide +kernel
theorem dX7_addedCount_0 : decode cX7_addedCount 0 = .ok (.aload_n 0, 1) := by decide +kernel
theorem dX7_addedCount_1 : decode cX7_addedCount 1 = .ok (.getfield 14, 3) := by decide +kernel
theorem dX7_addedCount_4 : decode cX7_addedCount 4 = .ok (.invokevirtual 36, 3) := by decide +kernel
theorem dX7_addedCount_7 : decode cX7_addedCount 7 = .ok (.ireturn, 1) := by decide +kernel
theorem dX7_append_0 : decode cX7_append 0 = .ok (.aload_n 0, 1) := by decide +kernel
theorem dX7_append_1 : decode cX7_append 1 = .ok (.getfield 14, 3) := by decide +kernel
theorem dX7_append_4 : decode cX7_append 4 = .ok (.iload_n 1, 1) := by decide +kernel
theorem dX7_append_5 : decode cX7_append 5 = .ok (.invokevirtual 40, 3) := by decide +kernel
theorem dX7_append_8 : decode cX7_append 8 = .ok (.aload_n 0, 1) := by decide +kernel
theorem dX7_append_9 : decode cX7_append 9 = .ok (.getfield 20, 3) := by decide +kernel
theorem dX7_append_12 : decode cX7_append 12 = .ok (.iload_n 2, 1) := by decide +kernel
theorem dX7_append_13 : decode cX7_append 13 = .ok (.invokevirtual 40, 3) := by decide +kernel
theorem dX7_append_16 : decode cX7_append 16 = .ok (.aload_n 0, 1) := by decide +kernel
theorem dX7_append_17 : decode cX7_append 17 = .ok (.getfield 23, 3) := by decide +kernel
theorem dX7_append_20 : decode cX7_append 20 = .ok (.iload_n 3, 1) := by decide +kernel
theorem dX7_append_21 : decode cX7_append 21 = .ok (.invokevirtual 40, 3) := by decide +kernel
theorem dX7_append_24 : decode cX7_append 24 = .ok (.aload_n 0, 1) := by decide +kernel
theorem dX7_append_25 : decode cX7_append 25 = .ok (.getfield 26, 3) := by decide +kernel
theorem dX7_append_28 : decode cX7_append 28 = .ok (.iload 4, 2) := by decide +kernel
theorem dX7_append_30 : decode cX7_append 30 = .ok (.invokevirtual 40, 3) := by decide +kernel
theorem dX7_append_33 : decode cX7_append 33 = .ok (.aload_n 0, 1) := by decide +kernel
theorem dX7_append_34 : decode cX7_append 34 = .ok (.getfield 29, 3) := by decide +kernel
theorem dX7_append_37 : decode cX7_append 37 = .ok (.iconst 0, 1) := by decide +kernel
theorem dX7_append_38 : decode cX7_append 38 = .ok (.invokevirtual 40, 3) := by decide +kernel
theorem dX7_append_41 : decode cX7_append 41 = .ok (.return_, 1) := by decide +kernel
theorem dX7_remove_0 : decode cX7_remove 0 = .ok (.aload_n 0, 1) := by decide +kernel
theorem dX7_remove_1 : decode cX7_remove 1 = .ok (.getfield 29, 3) := by decide +kernel
theorem dX7_remove_4 : decode cX7_remove 4 = .ok (.iload_n 1, 1) := by decide +kernel
theorem dX7_remove_5 : decode cX7_remove 5 = .ok (.iconst 1, 1) := by decide +kernel
theorem dX7_remove_6 : decode cX7_remove 6 = .ok (.invokevirtual 43, 3) := by decide +kernel
theorem dX7_remove_9 : decode cX7_remove 9 = .ok (.return_, 1) := by decide +kernel
theorem dX7_isThere_0 : decode cX7_isThere 0 = .ok (.iload_n 1, 1) := by decide +kernel
theorem dX7_isThere_1 : decode cX7_isThere 1 = .ok (.ifCond .lt 29, 3) := by decide +kernel
theorem dX7_isThere_4 : decode cX7_isThere 4 = .ok (.iload_n 1, 1) := by decide +kernel
theorem dX7_isThere_5 : decode cX7_isThere 5 = .ok (.aload_n 0, 1) := by decide +kernel
theorem dX7_isThere_6 : decode cX7_isThere 6 = .ok (.getfield 14, 3) := by decide +kernel
theorem dX7_isThere_9 : decode cX7_isThere 9 = .ok (.invokevirtual 36, 3) := by decide +kernel
theorem dX7_isThere_12 : decode cX7_isThere 12 = .ok (.if_icmp .ge 18, 3) := by decide +kernel
theorem dX7_isThere_15 : decode cX7_isThere 15 = .ok (.aload_n 0, 1) := by decide +kernel
theorem dX7_isThere_16 : decode cX7_isThere 16 = .ok (.getfield 29, 3) := by decide +kernel
theorem dX7_isThere_19 : decode cX7_isThere 19 = .ok (.iload_n 1, 1) := by decide +kernel
theorem dX7_isThere_20 : decode cX7_isThere 20 = .ok (.invokevirtual 47, 3) := by decide +kernel
theorem dX7_isThere_23 : decode cX7_isThere 23 = .ok (.ifCond .ne 7, 3) := by decide +kernel
theorem dX7_isThere_26 : decode cX7_isThere 26 = .ok (.iconst 1, 1) := by decide +kernel
theorem dX7_isThere_27 : decode cX7_isThere 27 = .ok (.goto 4, 3) := by decide +kernel
theorem dX7_isThere_30 : decode cX7_isThere 30 = .ok (.iconst 0, 1) := by decide +kernel
theorem dX7_isThere_31 : decode cX7_isThere 31 = .ok (.ireturn, 1) := by decide +kernel
theorem dX7_presentCount_0 : decode cX7_presentCount 0 = .ok (.iconst 0, 1) := by decide +kernel
theorem dX7_presentCount_1 : decode cX7_presentCount 1 = .ok (.istore_n 1, 1) := by decide +kernel
theorem dX7_presentCount_2 : decode cX7_presentCount 2 = .ok (.iconst 0, 1) := by decide +kernel
theorem dX7_presentCount_3 : decode cX7_presentCount 3 = .ok (.istore_n 2, 1) := by decide +kernel
theorem dX7_presentCount_4 : decode cX7_presentCount 4 = .ok (.iload_n 2, 1) := by decide +kernel
theorem dX7_presentCount_5 : decode cX7_presentCount 5 = .ok (.aload_n 0, 1) := by decide +kernel
theorem dX7_presentCount_6 : decode cX7_presentCount 6 = .ok (.invokevirtual 51, 3) := by decide +kernel
theorem dX7_presentCount_9 : decode cX7_presentCount 9 = .ok (.if_icmp .ge 20, 3) := by decide +kernel
theorem dX7_presentCount_12 : decode cX7_presentCount 12 = .ok (.aload_n 0, 1) := by decide +kernel
theorem dX7_presentCount_13 : decode cX7_presentCount 13 = .ok (.iload_n 2, 1) := by decide +kernel
theorem dX7_presentCount_14 : decode cX7_presentCount 14 = .ok (.invokevirtual 54, 3) := by decide +kernel
theorem dX7_presentCount_17 : decode cX7_presentCount 17 = .ok (.ifCond .eq 6, 3) := by decide +kernel
theorem dX7_presentCount_20 : decode cX7_presentCount 20 = .ok (.iinc 1 1, 3) := by decide +kernel
theorem dX7_presentCount_23 : decode cX7_presentCount 23 = .ok (.iinc 2 1, 3) := by decide +kernel
theorem dX7_presentCount_26 : decode cX7_presentCount 26 = .ok (.goto (-22), 3) := by decide +kernel
theorem dX7_presentCount_29 : decode cX7_presentCount 29 = .ok (.iload_n 1, 1) := by decide +kernel
theorem dX7_presentCount_30 : decode cX7_presentCount 30 = .ok (.ireturn, 1) := by decide +kernel
theorem dX7_axisAt_0 : decode cX7_axisAt 0 = .ok (.aload_n 0, 1) := by decide +kernel
theorem dX7_axisAt_1 : decode cX7_axisAt 1 = .ok (.getfield 14, 3) := by decide +kernel
theorem dX7_axisAt_4 : decode cX7_axisAt 4 = .ok (.iload_n 1, 1) := by decide +kernel
theorem dX7_axisAt_5 : decode cX7_axisAt 5 = .ok (.invokevirtual 47, 3) := by decide +kernel
theorem dX7_axisAt_8 : decode cX7_axisAt 8 = .ok (.invokestatic 32, 3) := by decide +kernel
theorem dX7_axisAt_11 : decode cX7_axisAt 11 = .ok (.ifCond .eq 8, 3) := by decide +kernel
theorem dX7_axisAt_14 : decode cX7_axisAt 14 = .ok (.bipush 120, 2) := by decide +kernel
theorem dX7_axisAt_16 : decode cX7_axisAt 16 = .ok (.goto 5, 3) := by decide +kernel
theorem dX7_axisAt_19 : decode cX7_axisAt 19 = .ok (.bipush 121, 2) := by decide +kernel
theorem dX7_axisAt_21 : decode cX7_axisAt 21 = .ok (.ireturn, 1) := by decide +kernel
theorem dX7_edgeAt_0 : decode cX7_edgeAt 0 = .ok (.aload_n 0, 1) := by decide +kernel
theorem dX7_edgeAt_1 : decode cX7_edgeAt 1 = .ok (.getfield 14, 3) := by decide +kernel
theorem dX7_edgeAt_4 : decode cX7_edgeAt 4 = .ok (.iload_n 1, 1) := by decide +kernel
theorem dX7_edgeAt_5 : decode cX7_edgeAt 5 = .ok (.invokevirtual 47, 3) := by decide +kernel
theorem dX7_edgeAt_8 : decode cX7_edgeAt 8 = .ok (.istore_n 2, 1) := by decide +kernel
theorem dX7_edgeAt_9 : decode cX7_edgeAt 9 = .ok (.iload_n 2, 1) := by decide +kernel
theorem dX7_edgeAt_10 : decode cX7_edgeAt 10 = .ok (.bipush 108, 2) := by decide +kernel
theorem dX7_edgeAt_12 : decode cX7_edgeAt 12 = .ok (.if_icmp .eq 9, 3) := by decide +kernel
theorem dX7_edgeAt_15 : decode cX7_edgeAt 15 = .ok (.iload_n 2, 1) := by decide +kernel
theorem dX7_edgeAt_16 : decode cX7_edgeAt 16 = .ok (.bipush 116, 2) := by decide +kernel
theorem dX7_edgeAt_18 : decode cX7_edgeAt 18 = .ok (.if_icmp .ne 5, 3) := by decide +kernel
theorem dX7_edgeAt_21 : decode cX7_edgeAt 21 = .ok (.iconst 0, 1) := by decide +kernel
theorem dX7_edgeAt_22 : decode cX7_edgeAt 22 = .ok (.ireturn, 1) := by decide +kernel
theorem dX7_edgeAt_23 : decode cX7_edgeAt 23 = .ok (.iload_n 2, 1) := by decide +kernel
theorem dX7_edgeAt_24 : decode cX7_edgeAt 24 = .ok (.bipush 99, 2) := by decide +kernel
theorem dX7_edgeAt_26 : decode cX7_edgeAt 26 = .ok (.if_icmp .eq 9, 3) := by decide +kernel
theorem dX7_edgeAt_29 : decode cX7_edgeAt 29 = .ok (.iload_n 2, 1) := by decide +kernel
theorem dX7_edgeAt_30 : decode cX7_edgeAt 30 = .ok (.bipush 109, 2) := by decide +kernel
theorem dX7_edgeAt_32 : decode cX7_edgeAt 32 = .ok (.if_icmp .ne 7, 3) := by decide +kernel
theorem dX7_edgeAt_35 : decode cX7_edgeAt 35 = .ok (.iconst 1, 1) := by decide +kernel
theorem dX7_edgeAt_36 : decode cX7_edgeAt 36 = .ok (.goto 4, 3) := by decide +kernel
theorem dX7_edgeAt_39 : decode cX7_edgeAt 39 = .ok (.iconst 2, 1) := by decide +kernel
theorem dX7_edgeAt_40 : decode cX7_edgeAt 40 = .ok (.ireturn, 1) := by decide +kernel
theorem dX7_shapeAt_0 : decode cX7_shapeAt 0 = .ok (.aload_n 0, 1) := by decide +kernel
theorem dX7_shapeAt_1 : decode cX7_shapeAt 1 = .ok (.getfield 20, 3) := by decide +kernel
theorem dX7_shapeAt_4 : decode cX7_shapeAt 4 = .ok (.iload_n 1, 1) := by decide +kernel
theorem dX7_shapeAt_5 : decode cX7_shapeAt 5 = .ok (.invokevirtual 47, 3) := by decide +kernel
theorem dX7_shapeAt_8 : decode cX7_shapeAt 8 = .ok (.ireturn, 1) := by decide +kernel
theorem dX7_otherAt_0 : decode cX7_otherAt 0 = .ok (.aload_n 0, 1) := by decide +kernel
theorem dX7_otherAt_1 : decode cX7_otherAt 1 = .ok (.getfield 23, 3) := by decide +kernel
theorem dX7_otherAt_4 : decode cX7_otherAt 4 = .ok (.iload_n 1, 1) := by decide +kernel
theorem dX7_otherAt_5 : decode cX7_otherAt 5 = .ok (.invokevirtual 47, 3) := by decide +kernel
theorem dX7_otherAt_8 : decode cX7_otherAt 8 = .ok (.ireturn, 1) := by decide +kernel
theorem dX7_strengthAt_0 : decode cX7_strengthAt 0 = .ok (.aload_n 0, 1) := by decide +kernel
theorem dX7_strengthAt_1 : decode cX7_strengthAt 1 = .ok (.getfield 26, 3) := by decide +kernel
theorem dX7_strengthAt_4 : decode cX7_strengthAt 4 = .ok (.iload_n 1, 1) := by decide +kernel
theorem dX7_strengthAt_5 : decode cX7_strengthAt 5 = .ok (.invokevirtual 47, 3) := by decide +kernel
theorem dX7_strengthAt_8 : decode cX7_strengthAt 8 = .ok (.ireturn, 1) := by decide +kernel
theorem dX7_holdsIn_0 : decode cX7_holdsIn 0 = .ok (.aload_n 0, 1) := by decide +kernel
theorem dX7_holdsIn_1 : decode cX7_holdsIn 1 = .ok (.iload_n 2, 1) := by decide +kernel
theorem dX7_holdsIn_2 : decode cX7_holdsIn 2 = .ok (.invokevirtual 57, 3) := by decide +kernel
theorem dX7_holdsIn_5 : decode cX7_holdsIn 5 = .ok (.istore_n 3, 1) := by decide +kernel
theorem dX7_holdsIn_6 : decode cX7_holdsIn 6 = .ok (.aload_n 1, 1) := by decide +kernel
theorem dX7_holdsIn_7 : decode cX7_holdsIn 7 = .ok (.aload_n 0, 1) := by decide +kernel
theorem dX7_holdsIn_8 : decode cX7_holdsIn 8 = .ok (.iload_n 2, 1) := by decide +kernel
theorem dX7_holdsIn_9 : decode cX7_holdsIn 9 = .ok (.invokevirtual 60, 3) := by decide +kernel
theorem dX7_holdsIn_12 : decode cX7_holdsIn 12 = .ok (.iload_n 3, 1) := by decide +kernel
theorem dX7_holdsIn_13 : decode cX7_holdsIn 13 = .ok (.invokevirtual 63, 3) := by decide +kernel
theorem dX7_holdsIn_16 : decode cX7_holdsIn 16 = .ok (.aload_n 1, 1) := by decide +kernel
theorem dX7_holdsIn_17 : decode cX7_holdsIn 17 = .ok (.aload_n 0, 1) := by decide +kernel
theorem dX7_holdsIn_18 : decode cX7_holdsIn 18 = .ok (.iload_n 2, 1) := by decide +kernel
theorem dX7_holdsIn_19 : decode cX7_holdsIn 19 = .ok (.invokevirtual 69, 3) := by decide +kernel
theorem dX7_holdsIn_22 : decode cX7_holdsIn 22 = .ok (.iload_n 3, 1) := by decide +kernel
theorem dX7_holdsIn_23 : decode cX7_holdsIn 23 = .ok (.invokevirtual 63, 3) := by decide +kernel
theorem dX7_holdsIn_26 : decode cX7_holdsIn 26 = .ok (.if_icmp .ne 7, 3) := by decide +kernel
theorem dX7_holdsIn_29 : decode cX7_holdsIn 29 = .ok (.iconst 1, 1) := by decide +kernel
theorem dX7_holdsIn_30 : decode cX7_holdsIn 30 = .ok (.goto 4, 3) := by decide +kernel
theorem dX7_holdsIn_33 : decode cX7_holdsIn 33 = .ok (.iconst 0, 1) := by decide +kernel
theorem dX7_holdsIn_34 : decode cX7_holdsIn 34 = .ok (.ireturn, 1) := by decide +kernel
