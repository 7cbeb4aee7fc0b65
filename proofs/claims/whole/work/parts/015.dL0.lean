theorem dL_addShape_0 : decode cL_addShape 0 = .ok (.aload 5, 2) := by decide +kernel
theorem dL_addShape_2 : decode cL_addShape 2 = .ok (.iconst 0, 1) := by decide +kernel
theorem dL_addShape_3 : decode cL_addShape 3 = .ok (.aload_n 0, 1) := by decide +kernel
theorem dL_addShape_4 : decode cL_addShape 4 = .ok (.iload_n 1, 1) := by decide +kernel
theorem dL_addShape_5 : decode cL_addShape 5 = .ok (.iload_n 2, 1) := by decide +kernel
theorem dL_addShape_6 : decode cL_addShape 6 = .ok (.iload_n 3, 1) := by decide +kernel
theorem dL_addShape_7 : decode cL_addShape 7 = .ok (.iload 4, 2) := by decide +kernel
theorem dL_addShape_9 : decode cL_addShape 9 = .ok (.invokevirtual 7, 3) := by decide +kernel
theorem dL_addShape_12 : decode cL_addShape 12 = .ok (.i2l, 1) := by decide +kernel
theorem dL_addShape_13 : decode cL_addShape 13 = .ok (.lastore, 1) := by decide +kernel
theorem dL_addShape_14 : decode cL_addShape 14 = .ok (.goto 15, 3) := by decide +kernel
theorem dL_addShape_17 : decode cL_addShape 17 = .ok (.astore 6, 2) := by decide +kernel
theorem dL_addShape_19 : decode cL_addShape 19 = .ok (.iconst 1, 1) := by decide +kernel
theorem dL_addShape_20 : decode cL_addShape 20 = .ok (.ireturn, 1) := by decide +kernel
theorem dL_addShape_21 : decode cL_addShape 21 = .ok (.astore 6, 2) := by decide +kernel
theorem dL_addShape_23 : decode cL_addShape 23 = .ok (.iconst 2, 1) := by decide +kernel
theorem dL_addShape_24 : decode cL_addShape 24 = .ok (.ireturn, 1) := by decide +kernel
theorem dL_addShape_25 : decode cL_addShape 25 = .ok (.astore 6, 2) := by decide +kernel
theorem dL_addShape_27 : decode cL_addShape 27 = .ok (.iconst 3, 1) := by decide +kernel
theorem dL_addShape_28 : decode cL_addShape 28 = .ok (.ireturn, 1) := by decide +kernel
theorem dL_addShape_29 : decode cL_addShape 29 = .ok (.iconst 0, 1) := by decide +kernel
theorem dL_addShape_30 : decode cL_addShape 30 = .ok (.ireturn, 1) := by decide +kernel
theorem dL_setLocked_0 : decode cL_setLocked 0 = .ok (.aload_n 3, 1) := by decide +kernel
theorem dL_setLocked_1 : decode cL_setLocked 1 = .ok (.iconst 0, 1) := by decide +kernel
theorem dL_setLocked_2 : decode cL_setLocked 2 = .ok (.aload_n 0, 1) := by decide +kernel
theorem dL_setLocked_3 : decode cL_setLocked 3 = .ok (.iload_n 1, 1) := by decide +kernel
theorem dL_setLocked_4 : decode cL_setLocked 4 = .ok (.iload_n 2, 1) := by decide +kernel
theorem dL_setLocked_5 : decode cL_setLocked 5 = .ok (.invokevirtual 19, 3) := by decide +kernel
theorem dL_setLocked_8 : decode cL_setLocked 8 = .ok (.ifCond .eq 7, 3) := by decide +kernel
theorem dL_setLocked_11 : decode cL_setLocked 11 = .ok (.lconst 1, 1) := by decide +kernel
theorem dL_setLocked_12 : decode cL_setLocked 12 = .ok (.goto 4, 3) := by decide +kernel
theorem dL_setLocked_15 : decode cL_setLocked 15 = .ok (.lconst 0, 1) := by decide +kernel
theorem dL_setLocked_16 : decode cL_setLocked 16 = .ok (.lastore, 1) := by decide +kernel
theorem dL_setLocked_17 : decode cL_setLocked 17 = .ok (.goto 7, 3) := by decide +kernel
theorem dL_setLocked_20 : decode cL_setLocked 20 = .ok (.astore 4, 2) := by decide +kernel
theorem dL_setLocked_22 : decode cL_setLocked 22 = .ok (.iconst 1, 1) := by decide +kernel
theorem dL_setLocked_23 : decode cL_setLocked 23 = .ok (.ireturn, 1) := by decide +kernel
theorem dL_setLocked_24 : decode cL_setLocked 24 = .ok (.iconst 0, 1) := by decide +kernel
theorem dL_setLocked_25 : decode cL_setLocked 25 = .ok (.ireturn, 1) := by decide +kernel
theorem dL_startOf_0 : decode cL_startOf 0 = .ok (.aload_n 3, 1) := by decide +kernel
theorem dL_startOf_1 : decode cL_startOf 1 = .ok (.iconst 0, 1) := by decide +kernel
theorem dL_startOf_2 : decode cL_startOf 2 = .ok (.aload_n 0, 1) := by decide +kernel
theorem dL_startOf_3 : decode cL_startOf 3 = .ok (.iload_n 1, 1) := by decide +kernel
theorem dL_startOf_4 : decode cL_startOf 4 = .ok (.iload_n 2, 1) := by decide +kernel
theorem dL_startOf_5 : decode cL_startOf 5 = .ok (.invokevirtual 25, 3) := by decide +kernel
theorem dL_startOf_8 : decode cL_startOf 8 = .ok (.i2l, 1) := by decide +kernel
theorem dL_startOf_9 : decode cL_startOf 9 = .ok (.lastore, 1) := by decide +kernel
theorem dL_startOf_10 : decode cL_startOf 10 = .ok (.goto 11, 3) := by decide +kernel
theorem dL_startOf_13 : decode cL_startOf 13 = .ok (.astore 4, 2) := by decide +kernel
theorem dL_startOf_15 : decode cL_startOf 15 = .ok (.iconst 1, 1) := by decide +kernel
theorem dL_startOf_16 : decode cL_startOf 16 = .ok (.ireturn, 1) := by decide +kernel
theorem dL_startOf_17 : decode cL_startOf 17 = .ok (.astore 4, 2) := by decide +kernel
theorem dL_startOf_19 : decode cL_startOf 19 = .ok (.iconst 2, 1) := by decide +kernel
theorem dL_startOf_20 : decode cL_startOf 20 = .ok (.ireturn, 1) := by decide +kernel
theorem dL_startOf_21 : decode cL_startOf 21 = .ok (.iconst 0, 1) := by decide +kernel
theorem dL_startOf_22 : decode cL_startOf 22 = .ok (.ireturn, 1) := by decide +kernel
theorem dL_sizeOf_0 : decode cL_sizeOf 0 = .ok (.aload_n 3, 1) := by decide +kernel
theorem dL_sizeOf_1 : decode cL_sizeOf 1 = .ok (.iconst 0, 1) := by decide +kernel
theorem dL_sizeOf_2 : decode cL_sizeOf 2 = .ok (.aload_n 0, 1) := by decide +kernel
theorem dL_sizeOf_3 : decode cL_sizeOf 3 = .ok (.iload_n 1, 1) := by decide +kernel
theorem dL_sizeOf_4 : decode cL_sizeOf 4 = .ok (.iload_n 2, 1) := by decide +kernel
theorem dL_sizeOf_5 : decode cL_sizeOf 5 = .ok (.invokevirtual 29, 3) := by decide +kernel
theorem dL_sizeOf_8 : decode cL_sizeOf 8 = .ok (.i2l, 1) := by decide +kernel
theorem dL_sizeOf_9 : decode cL_sizeOf 9 = .ok (.lastore, 1) := by decide +kernel
theorem dL_sizeOf_10 : decode cL_sizeOf 10 = .ok (.goto 11, 3) := by decide +kernel
theorem dL_sizeOf_13 : decode cL_sizeOf 13 = .ok (.astore 4, 2) := by decide +kernel
theorem dL_sizeOf_15 : decode cL_sizeOf 15 = .ok (.iconst 1, 1) := by decide +kernel
theorem dL_sizeOf_16 : decode cL_sizeOf 16 = .ok (.ireturn, 1) := by decide +kernel
theorem dL_sizeOf_17 : decode cL_sizeOf 17 = .ok (.astore 4, 2) := by decide +kernel
theorem dL_sizeOf_19 : decode cL_sizeOf 19 = .ok (.iconst 2, 1) := by decide +kernel
theorem dL_sizeOf_20 : decode cL_sizeOf 20 = .ok (.ireturn, 1) := by decide +kernel
theorem dL_sizeOf_21 : decode cL_sizeOf 21 = .ok (.iconst 0, 1) := by decide +kernel
theorem dL_sizeOf_22 : decode cL_sizeOf 22 = .ok (.ireturn, 1) := by decide +kernel
theorem dL_moveTo_0 : decode cL_moveTo 0 = .ok (.aload 4, 2) := by decide +kernel
theorem dL_moveTo_2 : decode cL_moveTo 2 = .ok (.iconst 0, 1) := by decide +kernel
theorem dL_moveTo_3 : decode cL_moveTo 3 = .ok (.aload_n 0, 1) := by decide +kernel
theorem dL_moveTo_4 : decode cL_moveTo 4 = .ok (.iload_n 1, 1) := by decide +kernel
theorem dL_moveTo_5 : decode cL_moveTo 5 = .ok (.iload_n 2, 1) := by decide +kernel
theorem dL_moveTo_6 : decode cL_moveTo 6 = .ok (.iload_n 3, 1) := by decide +kernel
theorem dL_moveTo_7 : decode cL_moveTo 7 = .ok (.invokevirtual 32, 3) := by decide +kernel
theorem dL_moveTo_10 : decode cL_moveTo 10 = .ok (.i2l, 1) := by decide +kernel
theorem dL_moveTo_11 : decode cL_moveTo 11 = .ok (.lastore, 1) := by decide +kernel
theorem dL_moveTo_12 : decode cL_moveTo 12 = .ok (.goto 19, 3) := by decide +kernel
theorem dL_moveTo_15 : decode cL_moveTo 15 = .ok (.astore 5, 2) := by decide +kernel
theorem dL_moveTo_17 : decode cL_moveTo 17 = .ok (.iconst 1, 1) := by decide +kernel
theorem dL_moveTo_18 : decode cL_moveTo 18 = .ok (.ireturn, 1) := by decide +kernel
theorem dL_moveTo_19 : decode cL_moveTo 19 = .ok (.astore 5, 2) := by decide +kernel
theorem dL_moveTo_21 : decode cL_moveTo 21 = .ok (.iconst 2, 1) := by decide +kernel
theorem dL_moveTo_22 : decode cL_moveTo 22 = .ok (.ireturn, 1) := by decide +kernel
theorem dL_moveTo_23 : decode cL_moveTo 23 = .ok (.astore 5, 2) := by decide +kernel
theorem dL_moveTo_25 : decode cL_moveTo 25 = .ok (.iconst 3, 1) := by decide +kernel
theorem dL_moveTo_26 : decode cL_moveTo 26 = .ok (.ireturn, 1) := by decide +kernel
theorem dL_moveTo_27 : decode cL_moveTo 27 = .ok (.astore 5, 2) := by decide +kernel
theorem dL_moveTo_29 : decode cL_moveTo 29 = .ok (.iconst 4, 1) := by decide +kernel
theorem dL_moveTo_30 : decode cL_moveTo 30 = .ok (.ireturn, 1) := by decide +kernel
theorem dL_moveTo_31 : decode cL_moveTo 31 = .ok (.iconst 0, 1) := by decide +kernel
theorem dL_moveTo_32 : decode cL_moveTo 32 = .ok (.ireturn, 1) := by decide +kernel
theorem dL_moveReason_0 : decode cL_moveReason 0 = .ok (.aload 4, 2) := by decide +kernel
theorem dL_moveReason_2 : decode cL_moveReason 2 = .ok (.iconst 0, 1) := by decide +kernel
theorem dL_moveReason_3 : decode cL_moveReason 3 = .ok (.aload_n 0, 1) := by decide +kernel
theorem dL_moveReason_4 : decode cL_moveReason 4 = .ok (.iload_n 1, 1) := by decide +kernel
theorem dL_moveReason_5 : decode cL_moveReason 5 = .ok (.iload_n 2, 1) := by decide +kernel
theorem dL_moveReason_6 : decode cL_moveReason 6 = .ok (.iload_n 3, 1) := by decide +kernel
theorem dL_moveReason_7 : decode cL_moveReason 7 = .ok (.invokevirtual 36, 3) := by decide +kernel
theorem dL_moveReason_10 : decode cL_moveReason 10 = .ok (.i2l, 1) := by decide +kernel
theorem dL_moveReason_11 : decode cL_moveReason 11 = .ok (.lastore, 1) := by decide +kernel
theorem dL_moveReason_12 : decode cL_moveReason 12 = .ok (.goto 7, 3) := by decide +kernel
theorem dL_moveReason_15 : decode cL_moveReason 15 = .ok (.astore 5, 2) := by decide +kernel
theorem dL_moveReason_17 : decode cL_moveReason 17 = .ok (.iconst 1, 1) := by decide +kernel
theorem dL_moveReason_18 : decode cL_moveReason 18 = .ok (.ireturn, 1) := by decide +kernel
theorem dL_moveReason_19 : decode cL_moveReason 19 = .ok (.iconst 0, 1) := by decide +kernel
theorem dL_moveReason_20 : decode cL_moveReason 20 = .ok (.ireturn, 1) := by decide +kernel
theorem dL_setText_0 : decode cL_setText 0 = .ok (.aload_n 3, 1) := by decide +kernel
theorem dL_setText_1 : decode cL_setText 1 = .ok (.iconst 0, 1) := by decide +kernel
theorem dL_setText_2 : decode cL_setText 2 = .ok (.aload_n 0, 1) := by decide +kernel
theorem dL_setText_3 : decode cL_setText 3 = .ok (.iload_n 1, 1) := by decide +kernel
theorem dL_setText_4 : decode cL_setText 4 = .ok (.iload_n 2, 1) := by decide +kernel
theorem dL_setText_5 : decode cL_setText 5 = .ok (.invokevirtual 40, 3) := by decide +kernel
theorem dL_setText_8 : decode cL_setText 8 = .ok (.i2l, 1) := by decide +kernel
theorem dL_setText_9 : decode cL_setText 9 = .ok (.lastore, 1) := by decide +kernel
theorem dL_setText_10 : decode cL_setText 10 = .ok (.goto 11, 3) := by decide +kernel
theorem dL_setText_13 : decode cL_setText 13 = .ok (.astore 4, 2) := by decide +kernel
theorem dL_setText_15 : decode cL_setText 15 = .ok (.iconst 1, 1) := by decide +kernel
theorem dL_setText_16 : decode cL_setText 16 = .ok (.ireturn, 1) := by decide +kernel
theorem dL_setText_17 : decode cL_setText 17 = .ok (.astore 4, 2) := by decide +kernel
theorem dL_setText_19 : decode cL_setText 19 = .ok (.iconst 2, 1) := by decide +kernel
theorem dL_setText_20 : decode cL_setText 20 = .ok (.ireturn, 1) := by decide +kernel
theorem dL_setText_21 : decode cL_setText 21 = .ok (.iconst 0, 1) := by decide +kernel
theorem dL_setText_22 : decode cL_setText 22 = .ok (.ireturn, 1) := by decide +kernel
theorem dL_fits_0 : decode cL_fits 0 = .ok (.aload_n 2, 1) := by decide +kernel
theorem dL_fits_1 : decode cL_fits 1 = .ok (.iconst 0, 1) := by decide +kernel
theorem dL_fits_2 : decode cL_fits 2 = .ok (.aload_n 0, 1) := by decide +kernel
theorem dL_fits_3 : decode cL_fits 3 = .ok (.iload_n 1, 1) := by decide +kernel
theorem dL_fits_4 : decode cL_fits 4 = .ok (.invokevirtual 44, 3) := by decide +kernel
theorem dL_fits_7 : decode cL_fits 7 = .ok (.ifCond .eq 7, 3) := by decide +kernel
theorem dL_fits_10 : decode cL_fits 10 = .ok (.lconst 1, 1) := by decide +kernel
theorem dL_fits_11 : decode cL_fits 11 = .ok (.goto 4, 3) := by decide +kernel
theorem dL_fits_14 : decode cL_fits 14 = .ok (.lconst 0, 1) := by decide +kernel
theorem dL_fits_15 : decode cL_fits 15 = .ok (.lastore, 1) := by decide +kernel
theorem dL_fits_16 : decode cL_fits 16 = .ok (.goto 6, 3) := by decide +kernel
theorem dL_fits_19 : decode cL_fits 19 = .ok (.astore_n 3, 1) := by decide +kernel
theorem dL_fits_20 : decode cL_fits 20 = .ok (.iconst 1, 1) := by decide +kernel
theorem dL_fits_21 : decode cL_fits 21 = .ok (.ireturn, 1) := by decide +kernel
theorem dL_fits_22 : decode cL_fits 22 = .ok (.iconst 0, 1) := by decide +kernel
theorem dL_fits_23 : decode cL_fits 23 = .ok (.ireturn, 1) := by decide +kernel
theorem dL_grow_0 : decode cL_grow 0 = .ok (.aload_n 2, 1) := by decide +kernel
theorem dL_grow_1 : decode cL_grow 1 = .ok (.iconst 0, 1) := by decide +kernel
theorem dL_grow_2 : decode cL_grow 2 = .ok (.aload_n 0, 1) := by decide +kernel
theorem dL_grow_3 : decode cL_grow 3 = .ok (.iload_n 1, 1) := by decide +kernel
theorem dL_grow_4 : decode cL_grow 4 = .ok (.invokevirtual 48, 3) := by decide +kernel
theorem dL_grow_7 : decode cL_grow 7 = .ok (.i2l, 1) := by decide +kernel
theorem dL_grow_8 : decode cL_grow 8 = .ok (.lastore, 1) := by decide +kernel
theorem dL_grow_9 : decode cL_grow 9 = .ok (.goto 15, 3) := by decide +kernel
theorem dL_grow_12 : decode cL_grow 12 = .ok (.astore_n 3, 1) := by decide +kernel
theorem dL_grow_13 : decode cL_grow 13 = .ok (.iconst 1, 1) := by decide +kernel
theorem dL_grow_14 : decode cL_grow 14 = .ok (.ireturn, 1) := by decide +kernel
theorem dL_grow_15 : decode cL_grow 15 = .ok (.astore_n 3, 1) := by decide +kernel
theorem dL_grow_16 : decode cL_grow 16 = .ok (.iconst 2, 1) := by decide +kernel
theorem dL_grow_17 : decode cL_grow 17 = .ok (.ireturn, 1) := by decide +kernel
theorem dL_grow_18 : decode cL_grow 18 = .ok (.astore_n 3, 1) := by decide +kernel
theorem dL_grow_19 : decode cL_grow 19 = .ok (.iconst 3, 1) := by decide +kernel
theorem dL_grow_20 : decode cL_grow 20 = .ok (.ireturn, 1) := by decide +kernel
theorem dL_grow_21 : decode cL_grow 21 = .ok (.astore_n 3, 1) := by decide +kernel
theorem dL_grow_22 : decode cL_grow 22 = .ok (.iconst 4, 1) := by decide +kernel
theorem dL_grow_23 : decode cL_grow 23 = .ok (.ireturn, 1) := by decide +kernel
theorem dL_grow_24 : decode cL_grow 24 = .ok (.iconst 0, 1) := by decide +kernel
theorem dL_grow_25 : decode cL_grow 25 = .ok (.ireturn, 1) := by decide +kernel
theorem dL_growReason_0 : decode cL_growReason 0 = .ok (.aload_n 2, 1) := by decide +kernel
theorem dL_growReason_1 : decode cL_growReason 1 = .ok (.iconst 0, 1) := by decide +kernel
theorem dL_growReason_2 : decode cL_growReason 2 = .ok (.aload_n 0, 1) := by decide +kernel
theorem dL_growReason_3 : decode cL_growReason 3 = .ok (.iload_n 1, 1) := by decide +kernel
theorem dL_growReason_4 : decode cL_growReason 4 = .ok (.invokevirtual 54, 3) := by decide +kernel
theorem dL_growReason_7 : decode cL_growReason 7 = .ok (.i2l, 1) := by decide +kernel
theorem dL_growReason_8 : decode cL_growReason 8 = .ok (.lastore, 1) := by decide +kernel
theorem dL_growReason_9 : decode cL_growReason 9 = .ok (.goto 6, 3) := by decide +kernel
theorem dL_growReason_12 : decode cL_growReason 12 = .ok (.astore_n 3, 1) := by decide +kernel
theorem dL_growReason_13 : decode cL_growReason 13 = .ok (.iconst 1, 1) := by decide +kernel
theorem dL_growReason_14 : decode cL_growReason 14 = .ok (.ireturn, 1) := by decide +kernel
theorem dL_growReason_15 : decode cL_growReason 15 = .ok (.iconst 0, 1) := by decide +kernel
theorem dL_growReason_16 : decode cL_growReason 16 = .ok (.ireturn, 1) := by decide +kernel
theorem dL_inTheWay_0 : decode cL_inTheWay 0 = .ok (.aload_n 2, 1) := by decide +kernel
theorem dL_inTheWay_1 : decode cL_inTheWay 1 = .ok (.iconst 0, 1) := by decide +kernel
theorem dL_inTheWay_2 : decode cL_inTheWay 2 = .ok (.aload_n 0, 1) := by decide +kernel
theorem dL_inTheWay_3 : decode cL_inTheWay 3 = .ok (.iload_n 1, 1) := by decide +kernel
theorem dL_inTheWay_4 : decode cL_inTheWay 4 = .ok (.invokevirtual 58, 3) := by decide +kernel
theorem dL_inTheWay_7 : decode cL_inTheWay 7 = .ok (.i2l, 1) := by decide +kernel
theorem dL_inTheWay_8 : decode cL_inTheWay 8 = .ok (.lastore, 1) := by decide +kernel
theorem dL_inTheWay_9 : decode cL_inTheWay 9 = .ok (.goto 9, 3) := by decide +kernel
theorem dL_inTheWay_12 : decode cL_inTheWay 12 = .ok (.astore_n 3, 1) := by decide +kernel
theorem dL_inTheWay_13 : decode cL_inTheWay 13 = .ok (.iconst 1, 1) := by decide +kernel
theorem dL_inTheWay_14 : decode cL_inTheWay 14 = .ok (.ireturn, 1) := by decide +kernel
theorem dL_inTheWay_15 : decode cL_inTheWay 15 = .ok (.astore_n 3, 1) := by decide +kernel
theorem dL_inTheWay_16 : decode cL_inTheWay 16 = .ok (.iconst 2, 1) := by decide +kernel
theorem dL_inTheWay_17 : decode cL_inTheWay 17 = .ok (.ireturn, 1) := by decide +kernel
theorem dL_inTheWay_18 : decode cL_inTheWay 18 = .ok (.iconst 0, 1) := by decide +kernel
theorem dL_inTheWay_19 : decode cL_inTheWay 19 = .ok (.ireturn, 1) := by decide +kernel
theorem dL_addWish_0 : decode cL_addWish 0 = .ok (.aload 5, 2) := by decide +kernel
theorem dL_addWish_2 : decode cL_addWish 2 = .ok (.iconst 0, 1) := by decide +kernel
theorem dL_addWish_3 : decode cL_addWish 3 = .ok (.aload_n 0, 1) := by decide +kernel
theorem dL_addWish_4 : decode cL_addWish 4 = .ok (.iload_n 1, 1) := by decide +kernel
theorem dL_addWish_5 : decode cL_addWish 5 = .ok (.iload_n 2, 1) := by decide +kernel
theorem dL_addWish_6 : decode cL_addWish 6 = .ok (.iload_n 3, 1) := by decide +kernel
theorem dL_addWish_7 : decode cL_addWish 7 = .ok (.iload 4, 2) := by decide +kernel
theorem dL_addWish_9 : decode cL_addWish 9 = .ok (.invokevirtual 61, 3) := by decide +kernel
theorem dL_addWish_12 : decode cL_addWish 12 = .ok (.i2l, 1) := by decide +kernel
theorem dL_addWish_13 : decode cL_addWish 13 = .ok (.lastore, 1) := by decide +kernel
theorem dL_addWish_14 : decode cL_addWish 14 = .ok (.goto 15, 3) := by decide +kernel
theorem dL_addWish_17 : decode cL_addWish 17 = .ok (.astore 6, 2) := by decide +kernel
theorem dL_addWish_19 : decode cL_addWish 19 = .ok (.iconst 1, 1) := by decide +kernel
theorem dL_addWish_20 : decode cL_addWish 20 = .ok (.ireturn, 1) := by decide +kernel
theorem dL_addWish_21 : decode cL_addWish 21 = .ok (.astore 6, 2) := by decide +kernel
theorem dL_addWish_23 : decode cL_addWish 23 = .ok (.iconst 2, 1) := by decide +kernel
theorem dL_addWish_24 : decode cL_addWish 24 = .ok (.ireturn, 1) := by decide +kernel
theorem dL_addWish_25 : decode cL_addWish 25 = .ok (.astore 6, 2) := by decide +kernel
theorem dL_addWish_27 : decode cL_addWish 27 = .ok (.iconst 3, 1) := by decide +kernel
theorem dL_addWish_28 : decode cL_addWish 28 = .ok (.ireturn, 1) := by decide +kernel
theorem dL_addWish_29 : decode cL_addWish 29 = .ok (.iconst 0, 1) := by decide +kernel
theorem dL_addWish_30 : decode cL_addWish 30 = .ok (.ireturn, 1) := by decide +kernel
theorem dL_dropWish_0 : decode cL_dropWish 0 = .ok (.aload_n 2, 1) := by decide +kernel
theorem dL_dropWish_1 : decode cL_dropWish 1 = .ok (.iconst 0, 1) := by decide +kernel
theorem dL_dropWish_2 : decode cL_dropWish 2 = .ok (.aload_n 0, 1) := by decide +kernel
theorem dL_dropWish_3 : decode cL_dropWish 3 = .ok (.iload_n 1, 1) := by decide +kernel
theorem dL_dropWish_4 : decode cL_dropWish 4 = .ok (.invokevirtual 65, 3) := by decide +kernel
theorem dL_dropWish_7 : decode cL_dropWish 7 = .ok (.i2l, 1) := by decide +kernel
theorem dL_dropWish_8 : decode cL_dropWish 8 = .ok (.lastore, 1) := by decide +kernel
theorem dL_dropWish_9 : decode cL_dropWish 9 = .ok (.goto 6, 3) := by decide +kernel
theorem dL_dropWish_12 : decode cL_dropWish 12 = .ok (.astore_n 3, 1) := by decide +kernel
theorem dL_dropWish_13 : decode cL_dropWish 13 = .ok (.iconst 1, 1) := by decide +kernel
theorem dL_dropWish_14 : decode cL_dropWish 14 = .ok (.ireturn, 1) := by decide +kernel
theorem dL_dropWish_15 : decode cL_dropWish 15 = .ok (.iconst 0, 1) := by decide +kernel
theorem dL_dropWish_16 : decode cL_dropWish 16 = .ok (.ireturn, 1) := by decide +kernel
theorem dL_isMet_0 : decode cL_isMet 0 = .ok (.aload_n 2, 1) := by decide +kernel
theorem dL_isMet_1 : decode cL_isMet 1 = .ok (.iconst 0, 1) := by decide +kernel
theorem dL_isMet_2 : decode cL_isMet 2 = .ok (.aload_n 0, 1) := by decide +kernel
theorem dL_isMet_3 : decode cL_isMet 3 = .ok (.iload_n 1, 1) := by decide +kernel
theorem dL_isMet_4 : decode cL_isMet 4 = .ok (.invokevirtual 68, 3) := by decide +kernel
theorem dL_isMet_7 : decode cL_isMet 7 = .ok (.ifCond .eq 7, 3) := by decide +kernel
theorem dL_isMet_10 : decode cL_isMet 10 = .ok (.lconst 1, 1) := by decide +kernel
theorem dL_isMet_11 : decode cL_isMet 11 = .ok (.goto 4, 3) := by decide +kernel
theorem dL_isMet_14 : decode cL_isMet 14 = .ok (.lconst 0, 1) := by decide +kernel
theorem dL_isMet_15 : decode cL_isMet 15 = .ok (.lastore, 1) := by decide +kernel
theorem dL_isMet_16 : decode cL_isMet 16 = .ok (.goto 6, 3) := by decide +kernel
theorem dL_isMet_19 : decode cL_isMet 19 = .ok (.astore_n 3, 1) := by decide +kernel
theorem dL_isMet_20 : decode cL_isMet 20 = .ok (.iconst 1, 1) := by decide +kernel
theorem dL_isMet_21 : decode cL_isMet 21 = .ok (.ireturn, 1) := by decide +kernel
theorem dL_isMet_22 : decode cL_isMet 22 = .ok (.iconst 0, 1) := by decide +kernel
theorem dL_isMet_23 : decode cL_isMet 23 = .ok (.ireturn, 1) := by decide +kernel
theorem dL_strength_0 : decode cL_strength 0 = .ok (.aload_n 2, 1) := by decide +kernel
theorem dL_strength_1 : decode cL_strength 1 = .ok (.iconst 0, 1) := by decide +kernel
theorem dL_strength_2 : decode cL_strength 2 = .ok (.aload_n 0, 1) := by decide +kernel
theorem dL_strength_3 : decode cL_strength 3 = .ok (.iload_n 1, 1) := by decide +kernel
theorem dL_strength_4 : decode cL_strength 4 = .ok (.invokevirtual 71, 3) := by decide +kernel
theorem dL_strength_7 : decode cL_strength 7 = .ok (.i2l, 1) := by decide +kernel
theorem dL_strength_8 : decode cL_strength 8 = .ok (.lastore, 1) := by decide +kernel
theorem dL_strength_9 : decode cL_strength 9 = .ok (.goto 6, 3) := by decide +kernel
theorem dL_strength_12 : decode cL_strength 12 = .ok (.astore_n 3, 1) := by decide +kernel
theorem dL_strength_13 : decode cL_strength 13 = .ok (.iconst 1, 1) := by decide +kernel
theorem dL_strength_14 : decode cL_strength 14 = .ok (.ireturn, 1) := by decide +kernel
theorem dL_strength_15 : decode cL_strength 15 = .ok (.iconst 0, 1) := by decide +kernel
theorem dL_strength_16 : decode cL_strength 16 = .ok (.ireturn, 1) := by decide +kernel
theorem dL_snaps_0 : decode cL_snaps 0 = .ok (.aload_n 3, 1) := by decide +kernel
theorem dL_snaps_1 : decode cL_snaps 1 = .ok (.iconst 0, 1) := by decide +kernel
theorem dL_snaps_2 : decode cL_snaps 2 = .ok (.aload_n 0, 1) := by decide +kernel
theorem dL_snaps_3 : decode cL_snaps 3 = .ok (.iload_n 1, 1) := by decide +kernel
theorem dL_snaps_4 : decode cL_snaps 4 = .ok (.iload_n 2, 1) := by decide +kernel
theorem dL_snaps_5 : decode cL_snaps 5 = .ok (.invokevirtual 75, 3) := by decide +kernel
theorem dL_snaps_8 : decode cL_snaps 8 = .ok (.i2l, 1) := by decide +kernel
theorem dL_snaps_9 : decode cL_snaps 9 = .ok (.lastore, 1) := by decide +kernel
theorem dL_snaps_10 : decode cL_snaps 10 = .ok (.goto 11, 3) := by decide +kernel
theorem dL_snaps_13 : decode cL_snaps 13 = .ok (.astore 4, 2) := by decide +kernel
theorem dL_snaps_15 : decode cL_snaps 15 = .ok (.iconst 1, 1) := by decide +kernel
theorem dL_snaps_16 : decode cL_snaps 16 = .ok (.ireturn, 1) := by decide +kernel
theorem dL_snaps_17 : decode cL_snaps 17 = .ok (.astore 4, 2) := by decide +kernel
theorem dL_snaps_19 : decode cL_snaps 19 = .ok (.iconst 2, 1) := by decide +kernel
theorem dL_snaps_20 : decode cL_snaps 20 = .ok (.ireturn, 1) := by decide +kernel
theorem dL_snaps_21 : decode cL_snaps 21 = .ok (.iconst 0, 1) := by decide +kernel
theorem dL_snaps_22 : decode cL_snaps 22 = .ok (.ireturn, 1) := by decide +kernel
theorem dL_bestStrength_0 : decode cL_bestStrength 0 = .ok (.aload_n 2, 1) := by decide +kernel
theorem dL_bestStrength_1 : decode cL_bestStrength 1 = .ok (.iconst 0, 1) := by decide +kernel
theorem dL_bestStrength_2 : decode cL_bestStrength 2 = .ok (.aload_n 0, 1) := by decide +kernel
theorem dL_bestStrength_3 : decode cL_bestStrength 3 = .ok (.iload_n 1, 1) := by decide +kernel
theorem dL_bestStrength_4 : decode cL_bestStrength 4 = .ok (.invokevirtual 78, 3) := by decide +kernel
theorem dL_bestStrength_7 : decode cL_bestStrength 7 = .ok (.i2l, 1) := by decide +kernel
theorem dL_bestStrength_8 : decode cL_bestStrength 8 = .ok (.lastore, 1) := by decide +kernel
theorem dL_bestStrength_9 : decode cL_bestStrength 9 = .ok (.goto 6, 3) := by decide +kernel
theorem dL_bestStrength_12 : decode cL_bestStrength 12 = .ok (.astore_n 3, 1) := by decide +kernel
theorem dL_bestStrength_13 : decode cL_bestStrength 13 = .ok (.iconst 1, 1) := by decide +kernel
theorem dL_bestStrength_14 : decode cL_bestStrength 14 = .ok (.ireturn, 1) := by decide +kernel
theorem dL_bestStrength_15 : decode cL_bestStrength 15 = .ok (.iconst 0, 1) := by decide +kernel
theorem dL_bestStrength_16 : decode cL_bestStrength 16 = .ok (.ireturn, 1) := by decide +kernel
theorem dL_bestByAll_0 : decode cL_bestByAll 0 = .ok (.aload_n 2, 1) := by decide +kernel
theorem dL_bestByAll_1 : decode cL_bestByAll 1 = .ok (.iconst 0, 1) := by decide +kernel
theorem dL_bestByAll_2 : decode cL_bestByAll 2 = .ok (.aload_n 0, 1) := by decide +kernel
theorem dL_bestByAll_3 : decode cL_bestByAll 3 = .ok (.iload_n 1, 1) := by decide +kernel
theorem dL_bestByAll_4 : decode cL_bestByAll 4 = .ok (.invokevirtual 81, 3) := by decide +kernel
theorem dL_bestByAll_7 : decode cL_bestByAll 7 = .ok (.i2l, 1) := by decide +kernel
theorem dL_bestByAll_8 : decode cL_bestByAll 8 = .ok (.lastore, 1) := by decide +kernel
theorem dL_bestByAll_9 : decode cL_bestByAll 9 = .ok (.goto 6, 3) := by decide +kernel
theorem dL_bestByAll_12 : decode cL_bestByAll 12 = .ok (.astore_n 3, 1) := by decide +kernel
theorem dL_bestByAll_13 : decode cL_bestByAll 13 = .ok (.iconst 1, 1) := by decide +kernel
theorem dL_bestByAll_14 : decode cL_bestByAll 14 = .ok (.ireturn, 1) := by decide +kernel
theorem dL_bestByAll_15 : decode cL_bestByAll 15 = .ok (.iconst 0, 1) := by decide +kernel
theorem dL_bestByAll_16 : decode cL_bestByAll 16 = .ok (.ireturn, 1) := by decide +kernel
theorem dL_tidyCost_0 : decode cL_tidyCost 0 = .ok (.aload_n 2, 1) := by decide +kernel
theorem dL_tidyCost_1 : decode cL_tidyCost 1 = .ok (.iconst 0, 1) := by decide +kernel
theorem dL_tidyCost_2 : decode cL_tidyCost 2 = .ok (.aload_n 0, 1) := by decide +kernel
theorem dL_tidyCost_3 : decode cL_tidyCost 3 = .ok (.iload_n 1, 1) := by decide +kernel
theorem dL_tidyCost_4 : decode cL_tidyCost 4 = .ok (.invokevirtual 84, 3) := by decide +kernel
theorem dL_tidyCost_7 : decode cL_tidyCost 7 = .ok (.i2l, 1) := by decide +kernel
theorem dL_tidyCost_8 : decode cL_tidyCost 8 = .ok (.lastore, 1) := by decide +kernel
theorem dL_tidyCost_9 : decode cL_tidyCost 9 = .ok (.goto 6, 3) := by decide +kernel
theorem dL_tidyCost_12 : decode cL_tidyCost 12 = .ok (.astore_n 3, 1) := by decide +kernel
theorem dL_tidyCost_13 : decode cL_tidyCost 13 = .ok (.iconst 1, 1) := by decide +kernel
theorem dL_tidyCost_14 : decode cL_tidyCost 14 = .ok (.ireturn, 1) := by decide +kernel
theorem dL_tidyCost_15 : decode cL_tidyCost 15 = .ok (.iconst 0, 1) := by decide +kernel
theorem dL_tidyCost_16 : decode cL_tidyCost 16 = .ok (.ireturn, 1) := by decide +kernel
theorem dL_tidyStart_0 : decode cL_tidyStart 0 = .ok (.aload_n 3, 1) := by decide +kernel
theorem dL_tidyStart_1 : decode cL_tidyStart 1 = .ok (.iconst 0, 1) := by decide +kernel
theorem dL_tidyStart_2 : decode cL_tidyStart 2 = .ok (.aload_n 0, 1) := by decide +kernel
theorem dL_tidyStart_3 : decode cL_tidyStart 3 = .ok (.iload_n 1, 1) := by decide +kernel
theorem dL_tidyStart_4 : decode cL_tidyStart 4 = .ok (.iload_n 2, 1) := by decide +kernel
theorem dL_tidyStart_5 : decode cL_tidyStart 5 = .ok (.invokevirtual 87, 3) := by decide +kernel
theorem dL_tidyStart_8 : decode cL_tidyStart 8 = .ok (.i2l, 1) := by decide +kernel
theorem dL_tidyStart_9 : decode cL_tidyStart 9 = .ok (.lastore, 1) := by decide +kernel
theorem dL_tidyStart_10 : decode cL_tidyStart 10 = .ok (.goto 11, 3) := by decide +kernel
theorem dL_tidyStart_13 : decode cL_tidyStart 13 = .ok (.astore 4, 2) := by decide +kernel
theorem dL_tidyStart_15 : decode cL_tidyStart 15 = .ok (.iconst 1, 1) := by decide +kernel
theorem dL_tidyStart_16 : decode cL_tidyStart 16 = .ok (.ireturn, 1) := by decide +kernel
theorem dL_tidyStart_17 : decode cL_tidyStart 17 = .ok (.astore 4, 2) := by decide +kernel
theorem dL_tidyStart_19 : decode cL_tidyStart 19 = .ok (.iconst 2, 1) := by decide +kernel
theorem dL_tidyStart_20 : decode cL_tidyStart 20 = .ok (.ireturn, 1) := by decide +kernel
theorem dL_tidyStart_21 : decode cL_tidyStart 21 = .ok (.iconst 0, 1) := by decide +kernel
theorem dL_tidyStart_22 : decode cL_tidyStart 22 = .ok (.ireturn, 1) := by decide +kernel
theorem dL_tidy_0 : decode cL_tidy 0 = .ok (.aload_n 2, 1) := by decide +kernel
theorem dL_tidy_1 : decode cL_tidy 1 = .ok (.iconst 0, 1) := by decide +kernel
theorem dL_tidy_2 : decode cL_tidy 2 = .ok (.aload_n 0, 1) := by decide +kernel
theorem dL_tidy_3 : decode cL_tidy 3 = .ok (.iload_n 1, 1) := by decide +kernel
theorem dL_tidy_4 : decode cL_tidy 4 = .ok (.invokevirtual 90, 3) := by decide +kernel
theorem dL_tidy_7 : decode cL_tidy 7 = .ok (.i2l, 1) := by decide +kernel
theorem dL_tidy_8 : decode cL_tidy 8 = .ok (.lastore, 1) := by decide +kernel
theorem dL_tidy_9 : decode cL_tidy 9 = .ok (.goto 6, 3) := by decide +kernel
theorem dL_tidy_12 : decode cL_tidy 12 = .ok (.astore_n 3, 1) := by decide +kernel
theorem dL_tidy_13 : decode cL_tidy 13 = .ok (.iconst 1, 1) := by decide +kernel
theorem dL_tidy_14 : decode cL_tidy 14 = .ok (.ireturn, 1) := by decide +kernel
theorem dL_tidy_15 : decode cL_tidy 15 = .ok (.iconst 0, 1) := by decide +kernel
theorem dL_tidy_16 : decode cL_tidy 16 = .ok (.ireturn, 1) := by decide +kernel
theorem dL_evenCost_0 : decode cL_evenCost 0 = .ok (.aload_n 2, 1) := by decide +kernel
theorem dL_evenCost_1 : decode cL_evenCost 1 = .ok (.iconst 0, 1) := by decide +kernel
theorem dL_evenCost_2 : decode cL_evenCost 2 = .ok (.aload_n 0, 1) := by decide +kernel
theorem dL_evenCost_3 : decode cL_evenCost 3 = .ok (.iload_n 1, 1) := by decide +kernel
theorem dL_evenCost_4 : decode cL_evenCost 4 = .ok (.invokevirtual 93, 3) := by decide +kernel
theorem dL_evenCost_7 : decode cL_evenCost 7 = .ok (.i2l, 1) := by decide +kernel
theorem dL_evenCost_8 : decode cL_evenCost 8 = .ok (.lastore, 1) := by decide +kernel
theorem dL_evenCost_9 : decode cL_evenCost 9 = .ok (.goto 9, 3) := by decide +kernel
theorem dL_evenCost_12 : decode cL_evenCost 12 = .ok (.astore_n 3, 1) := by decide +kernel
theorem dL_evenCost_13 : decode cL_evenCost 13 = .ok (.iconst 1, 1) := by decide +kernel
theorem dL_evenCost_14 : decode cL_evenCost 14 = .ok (.ireturn, 1) := by decide +kernel
theorem dL_evenCost_15 : decode cL_evenCost 15 = .ok (.astore_n 3, 1) := by decide +kernel
theorem dL_evenCost_16 : decode cL_evenCost 16 = .ok (.iconst 2, 1) := by decide +kernel
theorem dL_evenCost_17 : decode cL_evenCost 17 = .ok (.ireturn, 1) := by decide +kernel
theorem dL_evenCost_18 : decode cL_evenCost 18 = .ok (.iconst 0, 1) := by decide +kernel
theorem dL_evenCost_19 : decode cL_evenCost 19 = .ok (.ireturn, 1) := by decide +kernel
theorem dL_evenByAll_0 : decode cL_evenByAll 0 = .ok (.aload_n 2, 1) := by decide +kernel
theorem dL_evenByAll_1 : decode cL_evenByAll 1 = .ok (.iconst 0, 1) := by decide +kernel
theorem dL_evenByAll_2 : decode cL_evenByAll 2 = .ok (.aload_n 0, 1) := by decide +kernel
theorem dL_evenByAll_3 : decode cL_evenByAll 3 = .ok (.iload_n 1, 1) := by decide +kernel
theorem dL_evenByAll_4 : decode cL_evenByAll 4 = .ok (.invokevirtual 96, 3) := by decide +kernel
theorem dL_evenByAll_7 : decode cL_evenByAll 7 = .ok (.i2l, 1) := by decide +kernel
theorem dL_evenByAll_8 : decode cL_evenByAll 8 = .ok (.lastore, 1) := by decide +kernel
theorem dL_evenByAll_9 : decode cL_evenByAll 9 = .ok (.goto 9, 3) := by decide +kernel
theorem dL_evenByAll_12 : decode cL_evenByAll 12 = .ok (.astore_n 3, 1) := by decide +kernel
theorem dL_evenByAll_13 : decode cL_evenByAll 13 = .ok (.iconst 1, 1) := by decide +kernel
theorem dL_evenByAll_14 : decode cL_evenByAll 14 = .ok (.ireturn, 1) := by decide +kernel
theorem dL_evenByAll_15 : decode cL_evenByAll 15 = .ok (.astore_n 3, 1) := by decide +kernel
theorem dL_evenByAll_16 : decode cL_evenByAll 16 = .ok (.iconst 2, 1) := by decide +kernel
theorem dL_evenByAll_17 : decode cL_evenByAll 17 = .ok (.ireturn, 1) := by decide +kernel
theorem dL_evenByAll_18 : decode cL_evenByAll 18 = .ok (.iconst 0, 1) := by decide +kernel
theorem dL_evenByAll_19 : decode cL_evenByAll 19 = .ok (.ireturn, 1) := by decide +kernel
theorem dL_spread_0 : decode cL_spread 0 = .ok (.aload_n 2, 1) := by decide +kernel
theorem dL_spread_1 : decode cL_spread 1 = .ok (.iconst 0, 1) := by decide +kernel
theorem dL_spread_2 : decode cL_spread 2 = .ok (.aload_n 0, 1) := by decide +kernel
theorem dL_spread_3 : decode cL_spread 3 = .ok (.iload_n 1, 1) := by decide +kernel
theorem dL_spread_4 : decode cL_spread 4 = .ok (.invokevirtual 99, 3) := by decide +kernel
theorem dL_spread_7 : decode cL_spread 7 = .ok (.i2l, 1) := by decide +kernel
theorem dL_spread_8 : decode cL_spread 8 = .ok (.lastore, 1) := by decide +kernel
theorem dL_spread_9 : decode cL_spread 9 = .ok (.goto 9, 3) := by decide +kernel
theorem dL_spread_12 : decode cL_spread 12 = .ok (.astore_n 3, 1) := by decide +kernel
theorem dL_spread_13 : decode cL_spread 13 = .ok (.iconst 1, 1) := by decide +kernel
theorem dL_spread_14 : decode cL_spread 14 = .ok (.ireturn, 1) := by decide +kernel
theorem dL_spread_15 : decode cL_spread 15 = .ok (.astore_n 3, 1) := by decide +kernel
theorem dL_spread_16 : decode cL_spread 16 = .ok (.iconst 2, 1) := by decide +kernel
theorem dL_spread_17 : decode cL_spread 17 = .ok (.ireturn, 1) := by decide +kernel
theorem dL_spread_18 : decode cL_spread 18 = .ok (.iconst 0, 1) := by decide +kernel
theorem dL_spread_19 : decode cL_spread 19 = .ok (.ireturn, 1) := by decide +kernel
theorem dL_guides_0 : decode cL_guides 0 = .ok (.aload_n 2, 1) := by decide +kernel
theorem dL_guides_1 : decode cL_guides 1 = .ok (.iconst 0, 1) := by decide +kernel
theorem dL_guides_2 : decode cL_guides 2 = .ok (.aload_n 0, 1) := by decide +kernel
theorem dL_guides_3 : decode cL_guides 3 = .ok (.iload_n 1, 1) := by decide +kernel
theorem dL_guides_4 : decode cL_guides 4 = .ok (.invokevirtual 102, 3) := by decide +kernel
theorem dL_guides_7 : decode cL_guides 7 = .ok (.i2l, 1) := by decide +kernel
theorem dL_guides_8 : decode cL_guides 8 = .ok (.lastore, 1) := by decide +kernel
theorem dL_guides_9 : decode cL_guides 9 = .ok (.goto 6, 3) := by decide +kernel
theorem dL_guides_12 : decode cL_guides 12 = .ok (.astore_n 3, 1) := by decide +kernel
theorem dL_guides_13 : decode cL_guides 13 = .ok (.iconst 1, 1) := by decide +kernel
theorem dL_guides_14 : decode cL_guides 14 = .ok (.ireturn, 1) := by decide +kernel
theorem dL_guides_15 : decode cL_guides 15 = .ok (.iconst 0, 1) := by decide +kernel
theorem dL_guides_16 : decode cL_guides 16 = .ok (.ireturn, 1) := by decide +kernel
theorem dL_guideAt_0 : decode cL_guideAt 0 = .ok (.aload_n 3, 1) := by decide +kernel
theorem dL_guideAt_1 : decode cL_guideAt 1 = .ok (.iconst 0, 1) := by decide +kernel
theorem dL_guideAt_2 : decode cL_guideAt 2 = .ok (.aload_n 0, 1) := by decide +kernel
theorem dL_guideAt_3 : decode cL_guideAt 3 = .ok (.iload_n 1, 1) := by decide +kernel
theorem dL_guideAt_4 : decode cL_guideAt 4 = .ok (.iload_n 2, 1) := by decide +kernel
theorem dL_guideAt_5 : decode cL_guideAt 5 = .ok (.invokevirtual 105, 3) := by decide +kernel
theorem dL_guideAt_8 : decode cL_guideAt 8 = .ok (.i2l, 1) := by decide +kernel
theorem dL_guideAt_9 : decode cL_guideAt 9 = .ok (.lastore, 1) := by decide +kernel
theorem dL_guideAt_10 : decode cL_guideAt 10 = .ok (.goto 11, 3) := by decide +kernel
theorem dL_guideAt_13 : decode cL_guideAt 13 = .ok (.astore 4, 2) := by decide +kernel
theorem dL_guideAt_15 : decode cL_guideAt 15 = .ok (.iconst 1, 1) := by decide +kernel
theorem dL_guideAt_16 : decode cL_guideAt 16 = .ok (.ireturn, 1) := by decide +kernel
theorem dL_guideAt_17 : decode cL_guideAt 17 = .ok (.astore 4, 2) := by decide +kernel
theorem dL_guideAt_19 : decode cL_guideAt 19 = .ok (.iconst 2, 1) := by decide +kernel
theorem dL_guideAt_20 : decode cL_guideAt 20 = .ok (.ireturn, 1) := by decide +kernel
theorem dL_guideAt_21 : decode cL_guideAt 21 = .ok (.iconst 0, 1) := by decide +kernel
theorem dL_guideAt_22 : decode cL_guideAt 22 = .ok (.ireturn, 1) := by decide +kernel
theorem dL_distance_0 : decode cL_distance 0 = .ok (.aload_n 3, 1) := by decide +kernel
theorem dL_distance_1 : decode cL_distance 1 = .ok (.iconst 0, 1) := by decide +kernel
theorem dL_distance_2 : decode cL_distance 2 = .ok (.aload_n 0, 1) := by decide +kernel
theorem dL_distance_3 : decode cL_distance 3 = .ok (.iload_n 1, 1) := by decide +kernel
theorem dL_distance_4 : decode cL_distance 4 = .ok (.iload_n 2, 1) := by decide +kernel
theorem dL_distance_5 : decode cL_distance 5 = .ok (.invokevirtual 109, 3) := by decide +kernel
theorem dL_distance_8 : decode cL_distance 8 = .ok (.i2l, 1) := by decide +kernel
theorem dL_distance_9 : decode cL_distance 9 = .ok (.lastore, 1) := by decide +kernel
theorem dL_distance_10 : decode cL_distance 10 = .ok (.goto 11, 3) := by decide +kernel
theorem dL_distance_13 : decode cL_distance 13 = .ok (.astore 4, 2) := by decide +kernel
theorem dL_distance_15 : decode cL_distance 15 = .ok (.iconst 1, 1) := by decide +kernel
theorem dL_distance_16 : decode cL_distance 16 = .ok (.ireturn, 1) := by decide +kernel
theorem dL_distance_17 : decode cL_distance 17 = .ok (.astore 4, 2) := by decide +kernel
theorem dL_distance_19 : decode cL_distance 19 = .ok (.iconst 2, 1) := by decide +kernel
theorem dL_distance_20 : decode cL_distance 20 = .ok (.ireturn, 1) := by decide +kernel
theorem dL_distance_21 : decode cL_distance 21 = .ok (.iconst 0, 1) := by decide +kernel
theorem dL_distance_22 : decode cL_distance 22 = .ok (.ireturn, 1) := by decide +kernel
theorem dL_groups_0 : decode cL_groups 0 = .ok (.aload_n 2, 1) := by decide +kernel
theorem dL_groups_1 : decode cL_groups 1 = .ok (.iconst 0, 1) := by decide +kernel
theorem dL_groups_2 : decode cL_groups 2 = .ok (.aload_n 0, 1) := by decide +kernel
theorem dL_groups_3 : decode cL_groups 3 = .ok (.iload_n 1, 1) := by decide +kernel
theorem dL_groups_4 : decode cL_groups 4 = .ok (.invokevirtual 112, 3) := by decide +kernel
theorem dL_groups_7 : decode cL_groups 7 = .ok (.i2l, 1) := by decide +kernel
theorem dL_groups_8 : decode cL_groups 8 = .ok (.lastore, 1) := by decide +kernel
theorem dL_groups_9 : decode cL_groups 9 = .ok (.goto 6, 3) := by decide +kernel
theorem dL_groups_12 : decode cL_groups 12 = .ok (.astore_n 3, 1) := by decide +kernel
theorem dL_groups_13 : decode cL_groups 13 = .ok (.iconst 1, 1) := by decide +kernel
theorem dL_groups_14 : decode cL_groups 14 = .ok (.ireturn, 1) := by decide +kernel
theorem dL_groups_15 : decode cL_groups 15 = .ok (.iconst 0, 1) := by decide +kernel
theorem dL_groups_16 : decode cL_groups 16 = .ok (.ireturn, 1) := by decide +kernel
theorem dL_groupsByLinks_0 : decode cL_groupsByLinks 0 = .ok (.aload_n 2, 1) := by decide +kernel
theorem dL_groupsByLinks_1 : decode cL_groupsByLinks 1 = .ok (.iconst 0, 1) := by decide +kernel
theorem dL_groupsByLinks_2 : decode cL_groupsByLinks 2 = .ok (.aload_n 0, 1) := by decide +kernel
theorem dL_groupsByLinks_3 : decode cL_groupsByLinks 3 = .ok (.iload_n 1, 1) := by decide +kernel
theorem dL_groupsByLinks_4 : decode cL_groupsByLinks 4 = .ok (.invokevirtual 115, 3) := by decide +kernel
theorem dL_groupsByLinks_7 : decode cL_groupsByLinks 7 = .ok (.i2l, 1) := by decide +kernel
theorem dL_groupsByLinks_8 : decode cL_groupsByLinks 8 = .ok (.lastore, 1) := by decide +kernel
theorem dL_groupsByLinks_9 : decode cL_groupsByLinks 9 = .ok (.goto 6, 3) := by decide +kernel
theorem dL_groupsByLinks_12 : decode cL_groupsByLinks 12 = .ok (.astore_n 3, 1) := by decide +kernel
theorem dL_groupsByLinks_13 : decode cL_groupsByLinks 13 = .ok (.iconst 1, 1) := by decide +kernel
theorem dL_groupsByLinks_14 : decode cL_groupsByLinks 14 = .ok (.ireturn, 1) := by decide +kernel
theorem dL_groupsByLinks_15 : decode cL_groupsByLinks 15 = .ok (.iconst 0, 1) := by decide +kernel
theorem dL_groupsByLinks_16 : decode cL_groupsByLinks 16 = .ok (.ireturn, 1) := by decide +kernel
theorem dL_groupOf_0 : decode cL_groupOf 0 = .ok (.aload_n 3, 1) := by decide +kernel
theorem dL_groupOf_1 : decode cL_groupOf 1 = .ok (.iconst 0, 1) := by decide +kernel
theorem dL_groupOf_2 : decode cL_groupOf 2 = .ok (.aload_n 0, 1) := by decide +kernel
theorem dL_groupOf_3 : decode cL_groupOf 3 = .ok (.iload_n 1, 1) := by decide +kernel
theorem dL_groupOf_4 : decode cL_groupOf 4 = .ok (.iload_n 2, 1) := by decide +kernel
theorem dL_groupOf_5 : decode cL_groupOf 5 = .ok (.invokevirtual 118, 3) := by decide +kernel
theorem dL_groupOf_8 : decode cL_groupOf 8 = .ok (.i2l, 1) := by decide +kernel
theorem dL_groupOf_9 : decode cL_groupOf 9 = .ok (.lastore, 1) := by decide +kernel
theorem dL_groupOf_10 : decode cL_groupOf 10 = .ok (.goto 11, 3) := by decide +kernel
theorem dL_groupOf_13 : decode cL_groupOf 13 = .ok (.astore 4, 2) := by decide +kernel
theorem dL_groupOf_15 : decode cL_groupOf 15 = .ok (.iconst 1, 1) := by decide +kernel
theorem dL_groupOf_16 : decode cL_groupOf 16 = .ok (.ireturn, 1) := by decide +kernel
theorem dL_groupOf_17 : decode cL_groupOf 17 = .ok (.astore 4, 2) := by decide +kernel
theorem dL_groupOf_19 : decode cL_groupOf 19 = .ok (.iconst 2, 1) := by decide +kernel
theorem dL_groupOf_20 : decode cL_groupOf 20 = .ok (.ireturn, 1) := by decide +kernel
theorem dL_groupOf_21 : decode cL_groupOf 21 = .ok (.iconst 0, 1) := by decide +kernel
theorem dL_groupOf_22 : decode cL_groupOf 22 = .ok (.ireturn, 1) := by decide +kernel
theorem dL_meanDistance_0 : decode cL_meanDistance 0 = .ok (.aload_n 1, 1) := by decide +kernel
theorem dL_meanDistance_1 : decode cL_meanDistance 1 = .ok (.iconst 0, 1) := by decide +kernel
theorem dL_meanDistance_2 : decode cL_meanDistance 2 = .ok (.aload_n 0, 1) := by decide +kernel
theorem dL_meanDistance_3 : decode cL_meanDistance 3 = .ok (.invokevirtual 121, 3) := by decide +kernel
theorem dL_meanDistance_6 : decode cL_meanDistance 6 = .ok (.dastore, 1) := by decide +kernel
theorem dL_meanDistance_7 : decode cL_meanDistance 7 = .ok (.goto 6, 3) := by decide +kernel
theorem dL_meanDistance_10 : decode cL_meanDistance 10 = .ok (.astore_n 2, 1) := by decide +kernel
theorem dL_meanDistance_11 : decode cL_meanDistance 11 = .ok (.iconst 1, 1) := by decide +kernel
theorem dL_meanDistance_12 : decode cL_meanDistance 12 = .ok (.ireturn, 1) := by decide +kernel
theorem dL_meanDistance_13 : decode cL_meanDistance 13 = .ok (.iconst 0, 1) := by decide +kernel
theorem dL_meanDistance_14 : decode cL_meanDistance 14 = .ok (.ireturn, 1) := by decide +kernel
