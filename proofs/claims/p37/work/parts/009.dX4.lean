theorem dX4_init_0 : decode cX4_init 0 = .ok (.aload_n 0, 1) := by decide +kernel
theorem dX4_init_1 : decode cX4_init 1 = .ok (.invokespecial 1, 3) := by decide +kernel
theorem dX4_init_4 : decode cX4_init 4 = .ok (.aload_n 0, 1) := by decide +kernel
theorem dX4_init_5 : decode cX4_init 5 = .ok (.iload_n 1, 1) := by decide +kernel
theorem dX4_init_6 : decode cX4_init 6 = .ok (.ifCond .ge 7, 3) := by decide +kernel
theorem dX4_init_9 : decode cX4_init 9 = .ok (.iconst 0, 1) := by decide +kernel
theorem dX4_init_10 : decode cX4_init 10 = .ok (.goto 4, 3) := by decide +kernel
theorem dX4_init_13 : decode cX4_init 13 = .ok (.iload_n 1, 1) := by decide +kernel
theorem dX4_init_14 : decode cX4_init 14 = .ok (.newarray .int, 2) := by decide +kernel
theorem dX4_init_16 : decode cX4_init 16 = .ok (.putfield 7, 3) := by decide +kernel
theorem dX4_init_19 : decode cX4_init 19 = .ok (.aload_n 0, 1) := by decide +kernel
theorem dX4_init_20 : decode cX4_init 20 = .ok (.iconst 0, 1) := by decide +kernel
theorem dX4_init_21 : decode cX4_init 21 = .ok (.putfield 13, 3) := by decide +kernel
theorem dX4_init_24 : decode cX4_init 24 = .ok (.return_, 1) := by decide +kernel
theorem dX4_length_0 : decode cX4_length 0 = .ok (.aload_n 0, 1) := by decide +kernel
theorem dX4_length_1 : decode cX4_length 1 = .ok (.getfield 13, 3) := by decide +kernel
theorem dX4_length_4 : decode cX4_length 4 = .ok (.ireturn, 1) := by decide +kernel
theorem dX4_get_0 : decode cX4_get 0 = .ok (.iload_n 1, 1) := by decide +kernel
theorem dX4_get_1 : decode cX4_get 1 = .ok (.ifCond .lt 12, 3) := by decide +kernel
theorem dX4_get_4 : decode cX4_get 4 = .ok (.iload_n 1, 1) := by decide +kernel
theorem dX4_get_5 : decode cX4_get 5 = .ok (.aload_n 0, 1) := by decide +kernel
theorem dX4_get_6 : decode cX4_get 6 = .ok (.getfield 7, 3) := by decide +kernel
theorem dX4_get_9 : decode cX4_get 9 = .ok (.arraylength, 1) := by decide +kernel
theorem dX4_get_10 : decode cX4_get 10 = .ok (.if_icmp .lt 5, 3) := by decide +kernel
theorem dX4_get_13 : decode cX4_get 13 = .ok (.iconst 0, 1) := by decide +kernel
theorem dX4_get_14 : decode cX4_get 14 = .ok (.ireturn, 1) := by decide +kernel
theorem dX4_get_15 : decode cX4_get 15 = .ok (.aload_n 0, 1) := by decide +kernel
theorem dX4_get_16 : decode cX4_get 16 = .ok (.getfield 7, 3) := by decide +kernel
theorem dX4_get_19 : decode cX4_get 19 = .ok (.iload_n 1, 1) := by decide +kernel
theorem dX4_get_20 : decode cX4_get 20 = .ok (.iaload, 1) := by decide +kernel
theorem dX4_get_21 : decode cX4_get 21 = .ok (.ireturn, 1) := by decide +kernel
theorem dX4_set_0 : decode cX4_set 0 = .ok (.iload_n 1, 1) := by decide +kernel
theorem dX4_set_1 : decode cX4_set 1 = .ok (.ifCond .lt 19, 3) := by decide +kernel
theorem dX4_set_4 : decode cX4_set 4 = .ok (.iload_n 1, 1) := by decide +kernel
theorem dX4_set_5 : decode cX4_set 5 = .ok (.aload_n 0, 1) := by decide +kernel
theorem dX4_set_6 : decode cX4_set 6 = .ok (.getfield 7, 3) := by decide +kernel
theorem dX4_set_9 : decode cX4_set 9 = .ok (.arraylength, 1) := by decide +kernel
theorem dX4_set_10 : decode cX4_set 10 = .ok (.if_icmp .ge 10, 3) := by decide +kernel
theorem dX4_set_13 : decode cX4_set 13 = .ok (.aload_n 0, 1) := by decide +kernel
theorem dX4_set_14 : decode cX4_set 14 = .ok (.getfield 7, 3) := by decide +kernel
theorem dX4_set_17 : decode cX4_set 17 = .ok (.iload_n 1, 1) := by decide +kernel
theorem dX4_set_18 : decode cX4_set 18 = .ok (.iload_n 2, 1) := by decide +kernel
theorem dX4_set_19 : decode cX4_set 19 = .ok (.iastore, 1) := by decide +kernel
theorem dX4_set_20 : decode cX4_set 20 = .ok (.return_, 1) := by decide +kernel
theorem dX4_clear_0 : decode cX4_clear 0 = .ok (.aload_n 0, 1) := by decide +kernel
theorem dX4_clear_1 : decode cX4_clear 1 = .ok (.iconst 0, 1) := by decide +kernel
theorem dX4_clear_2 : decode cX4_clear 2 = .ok (.putfield 13, 3) := by decide +kernel
theorem dX4_clear_5 : decode cX4_clear 5 = .ok (.return_, 1) := by decide +kernel
theorem dX4_append_0 : decode cX4_append 0 = .ok (.aload_n 0, 1) := by decide +kernel
theorem dX4_append_1 : decode cX4_append 1 = .ok (.getfield 13, 3) := by decide +kernel
theorem dX4_append_4 : decode cX4_append 4 = .ok (.ifCond .lt 35, 3) := by decide +kernel
theorem dX4_append_7 : decode cX4_append 7 = .ok (.aload_n 0, 1) := by decide +kernel
theorem dX4_append_8 : decode cX4_append 8 = .ok (.getfield 13, 3) := by decide +kernel
theorem dX4_append_11 : decode cX4_append 11 = .ok (.aload_n 0, 1) := by decide +kernel
theorem dX4_append_12 : decode cX4_append 12 = .ok (.getfield 7, 3) := by decide +kernel
theorem dX4_append_15 : decode cX4_append 15 = .ok (.arraylength, 1) := by decide +kernel
theorem dX4_append_16 : decode cX4_append 16 = .ok (.if_icmp .ge 23, 3) := by decide +kernel
theorem dX4_append_19 : decode cX4_append 19 = .ok (.aload_n 0, 1) := by decide +kernel
theorem dX4_append_20 : decode cX4_append 20 = .ok (.getfield 7, 3) := by decide +kernel
theorem dX4_append_23 : decode cX4_append 23 = .ok (.aload_n 0, 1) := by decide +kernel
theorem dX4_append_24 : decode cX4_append 24 = .ok (.getfield 13, 3) := by decide +kernel
theorem dX4_append_27 : decode cX4_append 27 = .ok (.iload_n 1, 1) := by decide +kernel
theorem dX4_append_28 : decode cX4_append 28 = .ok (.iastore, 1) := by decide +kernel
theorem dX4_append_29 : decode cX4_append 29 = .ok (.aload_n 0, 1) := by decide +kernel
theorem dX4_append_30 : decode cX4_append 30 = .ok (.dup, 1) := by decide +kernel
theorem dX4_append_31 : decode cX4_append 31 = .ok (.getfield 13, 3) := by decide +kernel
theorem dX4_append_34 : decode cX4_append 34 = .ok (.iconst 1, 1) := by decide +kernel
theorem dX4_append_35 : decode cX4_append 35 = .ok (.iadd, 1) := by decide +kernel
theorem dX4_append_36 : decode cX4_append 36 = .ok (.putfield 13, 3) := by decide +kernel
theorem dX4_append_39 : decode cX4_append 39 = .ok (.return_, 1) := by decide +kernel
theorem dX4_insert_0 : decode cX4_insert 0 = .ok (.aload_n 0, 1) := by decide +kernel
theorem dX4_insert_1 : decode cX4_insert 1 = .ok (.getfield 13, 3) := by decide +kernel
theorem dX4_insert_4 : decode cX4_insert 4 = .ok (.ifCond .lt 15, 3) := by decide +kernel
theorem dX4_insert_7 : decode cX4_insert 7 = .ok (.aload_n 0, 1) := by decide +kernel
theorem dX4_insert_8 : decode cX4_insert 8 = .ok (.getfield 13, 3) := by decide +kernel
theorem dX4_insert_11 : decode cX4_insert 11 = .ok (.aload_n 0, 1) := by decide +kernel
theorem dX4_insert_12 : decode cX4_insert 12 = .ok (.getfield 7, 3) := by decide +kernel
theorem dX4_insert_15 : decode cX4_insert 15 = .ok (.arraylength, 1) := by decide +kernel
theorem dX4_insert_16 : decode cX4_insert 16 = .ok (.if_icmp .lt 4, 3) := by decide +kernel
theorem dX4_insert_19 : decode cX4_insert 19 = .ok (.return_, 1) := by decide +kernel
theorem dX4_insert_20 : decode cX4_insert 20 = .ok (.aload_n 0, 1) := by decide +kernel
theorem dX4_insert_21 : decode cX4_insert 21 = .ok (.getfield 13, 3) := by decide +kernel
theorem dX4_insert_24 : decode cX4_insert 24 = .ok (.istore_n 2, 1) := by decide +kernel
theorem dX4_insert_25 : decode cX4_insert 25 = .ok (.iload_n 2, 1) := by decide +kernel
theorem dX4_insert_26 : decode cX4_insert 26 = .ok (.ifCond .le 35, 3) := by decide +kernel
theorem dX4_insert_29 : decode cX4_insert 29 = .ok (.aload_n 0, 1) := by decide +kernel
theorem dX4_insert_30 : decode cX4_insert 30 = .ok (.getfield 7, 3) := by decide +kernel
theorem dX4_insert_33 : decode cX4_insert 33 = .ok (.iload_n 2, 1) := by decide +kernel
theorem dX4_insert_34 : decode cX4_insert 34 = .ok (.iconst 1, 1) := by decide +kernel
theorem dX4_insert_35 : decode cX4_insert 35 = .ok (.isub, 1) := by decide +kernel
theorem dX4_insert_36 : decode cX4_insert 36 = .ok (.iaload, 1) := by decide +kernel
theorem dX4_insert_37 : decode cX4_insert 37 = .ok (.iload_n 1, 1) := by decide +kernel
theorem dX4_insert_38 : decode cX4_insert 38 = .ok (.if_icmp .le 23, 3) := by decide +kernel
theorem dX4_insert_41 : decode cX4_insert 41 = .ok (.aload_n 0, 1) := by decide +kernel
theorem dX4_insert_42 : decode cX4_insert 42 = .ok (.getfield 7, 3) := by decide +kernel
theorem dX4_insert_45 : decode cX4_insert 45 = .ok (.iload_n 2, 1) := by decide +kernel
theorem dX4_insert_46 : decode cX4_insert 46 = .ok (.aload_n 0, 1) := by decide +kernel
theorem dX4_insert_47 : decode cX4_insert 47 = .ok (.getfield 7, 3) := by decide +kernel
theorem dX4_insert_50 : decode cX4_insert 50 = .ok (.iload_n 2, 1) := by decide +kernel
theorem dX4_insert_51 : decode cX4_insert 51 = .ok (.iconst 1, 1) := by decide +kernel
theorem dX4_insert_52 : decode cX4_insert 52 = .ok (.isub, 1) := by decide +kernel
theorem dX4_insert_53 : decode cX4_insert 53 = .ok (.iaload, 1) := by decide +kernel
theorem dX4_insert_54 : decode cX4_insert 54 = .ok (.iastore, 1) := by decide +kernel
theorem dX4_insert_55 : decode cX4_insert 55 = .ok (.iinc 2 (-1), 3) := by decide +kernel
theorem dX4_insert_58 : decode cX4_insert 58 = .ok (.goto (-33), 3) := by decide +kernel
theorem dX4_insert_61 : decode cX4_insert 61 = .ok (.aload_n 0, 1) := by decide +kernel
theorem dX4_insert_62 : decode cX4_insert 62 = .ok (.getfield 7, 3) := by decide +kernel
theorem dX4_insert_65 : decode cX4_insert 65 = .ok (.iload_n 2, 1) := by decide +kernel
theorem dX4_insert_66 : decode cX4_insert 66 = .ok (.iload_n 1, 1) := by decide +kernel
theorem dX4_insert_67 : decode cX4_insert 67 = .ok (.iastore, 1) := by decide +kernel
theorem dX4_insert_68 : decode cX4_insert 68 = .ok (.aload_n 0, 1) := by decide +kernel
theorem dX4_insert_69 : decode cX4_insert 69 = .ok (.dup, 1) := by decide +kernel
theorem dX4_insert_70 : decode cX4_insert 70 = .ok (.getfield 13, 3) := by decide +kernel
theorem dX4_insert_73 : decode cX4_insert 73 = .ok (.iconst 1, 1) := by decide +kernel
theorem dX4_insert_74 : decode cX4_insert 74 = .ok (.iadd, 1) := by decide +kernel
theorem dX4_insert_75 : decode cX4_insert 75 = .ok (.putfield 13, 3) := by decide +kernel
theorem dX4_insert_78 : decode cX4_insert 78 = .ok (.return_, 1) := by decide +kernel
theorem dX4_contains_0 : decode cX4_contains 0 = .ok (.iconst 0, 1) := by decide +kernel
theorem dX4_contains_1 : decode cX4_contains 1 = .ok (.istore_n 2, 1) := by decide +kernel
theorem dX4_contains_2 : decode cX4_contains 2 = .ok (.iload_n 2, 1) := by decide +kernel
theorem dX4_contains_3 : decode cX4_contains 3 = .ok (.aload_n 0, 1) := by decide +kernel
theorem dX4_contains_4 : decode cX4_contains 4 = .ok (.getfield 13, 3) := by decide +kernel
theorem dX4_contains_7 : decode cX4_contains 7 = .ok (.if_icmp .ge 30, 3) := by decide +kernel
theorem dX4_contains_10 : decode cX4_contains 10 = .ok (.iload_n 2, 1) := by decide +kernel
theorem dX4_contains_11 : decode cX4_contains 11 = .ok (.aload_n 0, 1) := by decide +kernel
theorem dX4_contains_12 : decode cX4_contains 12 = .ok (.getfield 7, 3) := by decide +kernel
theorem dX4_contains_15 : decode cX4_contains 15 = .ok (.arraylength, 1) := by decide +kernel
theorem dX4_contains_16 : decode cX4_contains 16 = .ok (.if_icmp .ge 21, 3) := by decide +kernel
theorem dX4_contains_19 : decode cX4_contains 19 = .ok (.aload_n 0, 1) := by decide +kernel
theorem dX4_contains_20 : decode cX4_contains 20 = .ok (.getfield 7, 3) := by decide +kernel
theorem dX4_contains_23 : decode cX4_contains 23 = .ok (.iload_n 2, 1) := by decide +kernel
theorem dX4_contains_24 : decode cX4_contains 24 = .ok (.iaload, 1) := by decide +kernel
theorem dX4_contains_25 : decode cX4_contains 25 = .ok (.iload_n 1, 1) := by decide +kernel
theorem dX4_contains_26 : decode cX4_contains 26 = .ok (.if_icmp .ne 5, 3) := by decide +kernel
theorem dX4_contains_29 : decode cX4_contains 29 = .ok (.iconst 1, 1) := by decide +kernel
theorem dX4_contains_30 : decode cX4_contains 30 = .ok (.ireturn, 1) := by decide +kernel
theorem dX4_contains_31 : decode cX4_contains 31 = .ok (.iinc 2 1, 3) := by decide +kernel
theorem dX4_contains_34 : decode cX4_contains 34 = .ok (.goto (-32), 3) := by decide +kernel
theorem dX4_contains_37 : decode cX4_contains 37 = .ok (.iconst 0, 1) := by decide +kernel
theorem dX4_contains_38 : decode cX4_contains 38 = .ok (.ireturn, 1) := by decide +kernel
