theorem dX4_obey_6 : decode cX4_obey 6 = .ok (.aload_n 0, 1) := by decide +kernel
theorem dX4_obey_7 : decode cX4_obey 7 = .ok (.getfield 32, 3) := by decide +kernel
theorem dX4_obey_10 : decode cX4_obey 10 = .ok (.iconst 1, 1) := by decide +kernel
theorem dX4_obey_11 : decode cX4_obey 11 = .ok (.if_icmp .ne 16, 3) := by decide +kernel
theorem dX4_obey_14 : decode cX4_obey 14 = .ok (.aload_n 0, 1) := by decide +kernel
theorem dX4_obey_15 : decode cX4_obey 15 = .ok (.dup, 1) := by decide +kernel
theorem dX4_obey_16 : decode cX4_obey 16 = .ok (.getfield 73, 3) := by decide +kernel
theorem dX4_obey_19 : decode cX4_obey 19 = .ok (.iconst 1, 1) := by decide +kernel
theorem dX4_obey_20 : decode cX4_obey 20 = .ok (.iadd, 1) := by decide +kernel
theorem dX4_obey_21 : decode cX4_obey 21 = .ok (.putfield 73, 3) := by decide +kernel
theorem dX4_obey_24 : decode cX4_obey 24 = .ok (.goto 19, 3) := by decide +kernel
theorem dX4_obey_27 : decode cX4_obey 27 = .ok (.iload_n 1, 1) := by decide +kernel
theorem dX4_obey_28 : decode cX4_obey 28 = .ok (.bipush 29, 2) := by decide +kernel
theorem dX4_obey_30 : decode cX4_obey 30 = .ok (.if_icmp .ne 13, 3) := by decide +kernel
theorem dX4_obey_33 : decode cX4_obey 33 = .ok (.aload_n 0, 1) := by decide +kernel
theorem dX4_obey_34 : decode cX4_obey 34 = .ok (.dup, 1) := by decide +kernel
theorem dX4_obey_35 : decode cX4_obey 35 = .ok (.getfield 76, 3) := by decide +kernel
theorem dX4_obey_38 : decode cX4_obey 38 = .ok (.iconst 1, 1) := by decide +kernel
theorem dX4_obey_39 : decode cX4_obey 39 = .ok (.iadd, 1) := by decide +kernel
theorem dX4_obey_40 : decode cX4_obey 40 = .ok (.putfield 76, 3) := by decide +kernel
theorem dX4_obey_43 : decode cX4_obey 43 = .ok (.iload_n 1, 1) := by decide +kernel
theorem dX4_obey_44 : decode cX4_obey 44 = .ok (.aload_n 0, 1) := by decide +kernel
theorem dX4_obey_45 : decode cX4_obey 45 = .ok (.getfield 32, 3) := by decide +kernel
theorem dX4_obey_48 : decode cX4_obey 48 = .ok (.invokestatic 95, 3) := by decide +kernel
theorem dX4_obey_51 : decode cX4_obey 51 = .ok (.istore_n 3, 1) := by decide +kernel
theorem dX4_obey_52 : decode cX4_obey 52 = .ok (.iload_n 3, 1) := by decide +kernel
theorem dX4_obey_53 : decode cX4_obey 53 = .ok (.iconst (-1), 1) := by decide +kernel
theorem dX4_obey_54 : decode cX4_obey 54 = .ok (.if_icmp .eq 11, 3) := by decide +kernel
theorem dX4_obey_57 : decode cX4_obey 57 = .ok (.aload_n 0, 1) := by decide +kernel
theorem dX4_obey_58 : decode cX4_obey 58 = .ok (.getfield 14, 3) := by decide +kernel
theorem dX4_obey_61 : decode cX4_obey 61 = .ok (.iload_n 3, 1) := by decide +kernel
theorem dX4_obey_62 : decode cX4_obey 62 = .ok (.invokevirtual 88, 3) := by decide +kernel
theorem dX4_obey_65 : decode cX4_obey 65 = .ok (.aload_n 0, 1) := by decide +kernel
theorem dX4_obey_66 : decode cX4_obey 66 = .ok (.iload_n 1, 1) := by decide +kernel
theorem dX4_obey_67 : decode cX4_obey 67 = .ok (.aload_n 0, 1) := by decide +kernel
theorem dX4_obey_68 : decode cX4_obey 68 = .ok (.getfield 32, 3) := by decide +kernel
theorem dX4_obey_71 : decode cX4_obey 71 = .ok (.iload_n 2, 1) := by decide +kernel
theorem dX4_obey_72 : decode cX4_obey 72 = .ok (.invokestatic 99, 3) := by decide +kernel
theorem dX4_obey_75 : decode cX4_obey 75 = .ok (.putfield 32, 3) := by decide +kernel
theorem dX4_obey_78 : decode cX4_obey 78 = .ok (.return_, 1) := by decide +kernel
theorem dX5_init_0 : decode cX5_init 0 = .ok (.aload_n 0, 1) := by decide +kernel
theorem dX5_init_1 : decode cX5_init 1 = .ok (.invokespecial 3, 3) := by decide +kernel
theorem dX5_init_4 : decode cX5_init 4 = .ok (.aload_n 0, 1) := by decide +kernel
theorem dX5_init_5 : decode cX5_init 5 = .ok (.iload_n 1, 1) := by decide +kernel
theorem dX5_init_6 : decode cX5_init 6 = .ok (.iconst 0, 1) := by decide +kernel
theorem dX5_init_7 : decode cX5_init 7 = .ok (.invokestatic 9, 3) := by decide +kernel
theorem dX5_init_10 : decode cX5_init 10 = .ok (.newarray .int, 2) := by decide +kernel
theorem dX5_init_12 : decode cX5_init 12 = .ok (.putfield 15, 3) := by decide +kernel
theorem dX5_init_15 : decode cX5_init 15 = .ok (.return_, 1) := by decide +kernel
theorem dX5_size_0 : decode cX5_size 0 = .ok (.aload_n 0, 1) := by decide +kernel
theorem dX5_size_1 : decode cX5_size 1 = .ok (.getfield 21, 3) := by decide +kernel
theorem dX5_size_4 : decode cX5_size 4 = .ok (.ireturn, 1) := by decide +kernel
theorem dX5_has_0 : decode cX5_has 0 = .ok (.iload_n 1, 1) := by decide +kernel
theorem dX5_has_1 : decode cX5_has 1 = .ok (.ifCond .lt 24, 3) := by decide +kernel
theorem dX5_has_4 : decode cX5_has 4 = .ok (.iload_n 1, 1) := by decide +kernel
theorem dX5_has_5 : decode cX5_has 5 = .ok (.aload_n 0, 1) := by decide +kernel
theorem dX5_has_6 : decode cX5_has 6 = .ok (.getfield 21, 3) := by decide +kernel
theorem dX5_has_9 : decode cX5_has 9 = .ok (.if_icmp .ge 16, 3) := by decide +kernel
theorem dX5_has_12 : decode cX5_has 12 = .ok (.iload_n 1, 1) := by decide +kernel
theorem dX5_has_13 : decode cX5_has 13 = .ok (.aload_n 0, 1) := by decide +kernel
theorem dX5_has_14 : decode cX5_has 14 = .ok (.getfield 15, 3) := by decide +kernel
theorem dX5_has_17 : decode cX5_has 17 = .ok (.arraylength, 1) := by decide +kernel
theorem dX5_has_18 : decode cX5_has 18 = .ok (.if_icmp .ge 7, 3) := by decide +kernel
theorem dX5_has_21 : decode cX5_has 21 = .ok (.iconst 1, 1) := by decide +kernel
theorem dX5_has_22 : decode cX5_has 22 = .ok (.goto 4, 3) := by decide +kernel
theorem dX5_has_25 : decode cX5_has 25 = .ok (.iconst 0, 1) := by decide +kernel
theorem dX5_has_26 : decode cX5_has 26 = .ok (.ireturn, 1) := by decide +kernel
theorem dX5_at_0 : decode cX5_at 0 = .ok (.iload_n 1, 1) := by decide +kernel
theorem dX5_at_1 : decode cX5_at 1 = .ok (.ifCond .lt 29, 3) := by decide +kernel
theorem dX5_at_4 : decode cX5_at 4 = .ok (.iload_n 1, 1) := by decide +kernel
theorem dX5_at_5 : decode cX5_at 5 = .ok (.aload_n 0, 1) := by decide +kernel
theorem dX5_at_6 : decode cX5_at 6 = .ok (.getfield 21, 3) := by decide +kernel
theorem dX5_at_9 : decode cX5_at 9 = .ok (.if_icmp .ge 21, 3) := by decide +kernel
theorem dX5_at_12 : decode cX5_at 12 = .ok (.iload_n 1, 1) := by decide +kernel
theorem dX5_at_13 : decode cX5_at 13 = .ok (.aload_n 0, 1) := by decide +kernel
theorem dX5_at_14 : decode cX5_at 14 = .ok (.getfield 15, 3) := by decide +kernel
theorem dX5_at_17 : decode cX5_at 17 = .ok (.arraylength, 1) := by decide +kernel
theorem dX5_at_18 : decode cX5_at 18 = .ok (.if_icmp .ge 12, 3) := by decide +kernel
theorem dX5_at_21 : decode cX5_at 21 = .ok (.aload_n 0, 1) := by decide +kernel
theorem dX5_at_22 : decode cX5_at 22 = .ok (.getfield 15, 3) := by decide +kernel
theorem dX5_at_25 : decode cX5_at 25 = .ok (.iload_n 1, 1) := by decide +kernel
theorem dX5_at_26 : decode cX5_at 26 = .ok (.iaload, 1) := by decide +kernel
theorem dX5_at_27 : decode cX5_at 27 = .ok (.goto 4, 3) := by decide +kernel
theorem dX5_at_30 : decode cX5_at 30 = .ok (.iconst 0, 1) := by decide +kernel
theorem dX5_at_31 : decode cX5_at 31 = .ok (.ireturn, 1) := by decide +kernel
theorem dX5_set_0 : decode cX5_set 0 = .ok (.aload_n 0, 1) := by decide +kernel
theorem dX5_set_1 : decode cX5_set 1 = .ok (.iload_n 1, 1) := by decide +kernel
theorem dX5_set_2 : decode cX5_set 2 = .ok (.invokevirtual 25, 3) := by decide +kernel
theorem dX5_set_5 : decode cX5_set 5 = .ok (.ifCond .eq 10, 3) := by decide +kernel
theorem dX5_set_8 : decode cX5_set 8 = .ok (.aload_n 0, 1) := by decide +kernel
theorem dX5_set_9 : decode cX5_set 9 = .ok (.getfield 15, 3) := by decide +kernel
theorem dX5_set_12 : decode cX5_set 12 = .ok (.iload_n 1, 1) := by decide +kernel
theorem dX5_set_13 : decode cX5_set 13 = .ok (.iload_n 2, 1) := by decide +kernel
theorem dX5_set_14 : decode cX5_set 14 = .ok (.iastore, 1) := by decide +kernel
theorem dX5_set_15 : decode cX5_set 15 = .ok (.return_, 1) := by decide +kernel
theorem dX5_add_0 : decode cX5_add 0 = .ok (.aload_n 0, 1) := by decide +kernel
theorem dX5_add_1 : decode cX5_add 1 = .ok (.getfield 21, 3) := by decide +kernel
theorem dX5_add_4 : decode cX5_add 4 = .ok (.ifCond .lt 35, 3) := by decide +kernel
theorem dX5_add_7 : decode cX5_add 7 = .ok (.aload_n 0, 1) := by decide +kernel
theorem dX5_add_8 : decode cX5_add 8 = .ok (.getfield 21, 3) := by decide +kernel
theorem dX5_add_11 : decode cX5_add 11 = .ok (.aload_n 0, 1) := by decide +kernel
theorem dX5_add_12 : decode cX5_add 12 = .ok (.getfield 15, 3) := by decide +kernel
theorem dX5_add_15 : decode cX5_add 15 = .ok (.arraylength, 1) := by decide +kernel
theorem dX5_add_16 : decode cX5_add 16 = .ok (.if_icmp .ge 23, 3) := by decide +kernel
theorem dX5_add_19 : decode cX5_add 19 = .ok (.aload_n 0, 1) := by decide +kernel
theorem dX5_add_20 : decode cX5_add 20 = .ok (.getfield 15, 3) := by decide +kernel
theorem dX5_add_23 : decode cX5_add 23 = .ok (.aload_n 0, 1) := by decide +kernel
theorem dX5_add_24 : decode cX5_add 24 = .ok (.getfield 21, 3) := by decide +kernel
theorem dX5_add_27 : decode cX5_add 27 = .ok (.iload_n 1, 1) := by decide +kernel
theorem dX5_add_28 : decode cX5_add 28 = .ok (.iastore, 1) := by decide +kernel
theorem dX5_add_29 : decode cX5_add 29 = .ok (.aload_n 0, 1) := by decide +kernel
theorem dX5_add_30 : decode cX5_add 30 = .ok (.dup, 1) := by decide +kernel
theorem dX5_add_31 : decode cX5_add 31 = .ok (.getfield 21, 3) := by decide +kernel
theorem dX5_add_34 : decode cX5_add 34 = .ok (.iconst 1, 1) := by decide +kernel
theorem dX5_add_35 : decode cX5_add 35 = .ok (.iadd, 1) := by decide +kernel
theorem dX5_add_36 : decode cX5_add 36 = .ok (.putfield 21, 3) := by decide +kernel
theorem dX5_add_39 : decode cX5_add 39 = .ok (.return_, 1) := by decide +kernel
theorem dX5_remove_0 : decode cX5_remove 0 = .ok (.aload_n 0, 1) := by decide +kernel
theorem dX5_remove_1 : decode cX5_remove 1 = .ok (.iload_n 1, 1) := by decide +kernel
theorem dX5_remove_2 : decode cX5_remove 2 = .ok (.invokevirtual 25, 3) := by decide +kernel
theorem dX5_remove_5 : decode cX5_remove 5 = .ok (.ifCond .ne 4, 3) := by decide +kernel
theorem dX5_remove_8 : decode cX5_remove 8 = .ok (.return_, 1) := by decide +kernel
theorem dX5_remove_9 : decode cX5_remove 9 = .ok (.iload_n 1, 1) := by decide +kernel
theorem dX5_remove_10 : decode cX5_remove 10 = .ok (.iconst 1, 1) := by decide +kernel
theorem dX5_remove_11 : decode cX5_remove 11 = .ok (.iadd, 1) := by decide +kernel
theorem dX5_remove_12 : decode cX5_remove 12 = .ok (.istore_n 2, 1) := by decide +kernel
theorem dX5_remove_13 : decode cX5_remove 13 = .ok (.iload_n 2, 1) := by decide +kernel
theorem dX5_remove_14 : decode cX5_remove 14 = .ok (.aload_n 0, 1) := by decide +kernel
theorem dX5_remove_15 : decode cX5_remove 15 = .ok (.getfield 21, 3) := by decide +kernel
theorem dX5_remove_18 : decode cX5_remove 18 = .ok (.if_icmp .ge 21, 3) := by decide +kernel
theorem dX5_remove_21 : decode cX5_remove 21 = .ok (.aload_n 0, 1) := by decide +kernel
theorem dX5_remove_22 : decode cX5_remove 22 = .ok (.iload_n 2, 1) := by decide +kernel
theorem dX5_remove_23 : decode cX5_remove 23 = .ok (.iconst 1, 1) := by decide +kernel
theorem dX5_remove_24 : decode cX5_remove 24 = .ok (.isub, 1) := by decide +kernel
theorem dX5_remove_25 : decode cX5_remove 25 = .ok (.aload_n 0, 1) := by decide +kernel
theorem dX5_remove_26 : decode cX5_remove 26 = .ok (.iload_n 2, 1) := by decide +kernel
theorem dX5_remove_27 : decode cX5_remove 27 = .ok (.invokevirtual 29, 3) := by decide +kernel
theorem dX5_remove_30 : decode cX5_remove 30 = .ok (.invokevirtual 33, 3) := by decide +kernel
theorem dX5_remove_33 : decode cX5_remove 33 = .ok (.iinc 2 1, 3) := by decide +kernel
theorem dX5_remove_36 : decode cX5_remove 36 = .ok (.goto (-23), 3) := by decide +kernel
theorem dX5_remove_39 : decode cX5_remove 39 = .ok (.aload_n 0, 1) := by decide +kernel
theorem dX5_remove_40 : decode cX5_remove 40 = .ok (.dup, 1) := by decide +kernel
theorem dX5_remove_41 : decode cX5_remove 41 = .ok (.getfield 21, 3) := by decide +kernel
theorem dX5_remove_44 : decode cX5_remove 44 = .ok (.iconst 1, 1) := by decide +kernel
theorem dX5_remove_45 : decode cX5_remove 45 = .ok (.isub, 1) := by decide +kernel
theorem dX5_remove_46 : decode cX5_remove 46 = .ok (.putfield 21, 3) := by decide +kernel
theorem dX5_remove_49 : decode cX5_remove 49 = .ok (.return_, 1) := by decide +kernel
theorem dX5_clear_0 : decode cX5_clear 0 = .ok (.aload_n 0, 1) := by decide +kernel
theorem dX5_clear_1 : decode cX5_clear 1 = .ok (.iconst 0, 1) := by decide +kernel
theorem dX5_clear_2 : decode cX5_clear 2 = .ok (.putfield 21, 3) := by decide +kernel
theorem dX5_clear_5 : decode cX5_clear 5 = .ok (.return_, 1) := by decide +kernel
theorem dX5_shorten_0 : decode cX5_shorten 0 = .ok (.iload_n 1, 1) := by decide +kernel
theorem dX5_shorten_1 : decode cX5_shorten 1 = .ok (.ifCond .lt 16, 3) := by decide +kernel
theorem dX5_shorten_4 : decode cX5_shorten 4 = .ok (.iload_n 1, 1) := by decide +kernel
theorem dX5_shorten_5 : decode cX5_shorten 5 = .ok (.aload_n 0, 1) := by decide +kernel
theorem dX5_shorten_6 : decode cX5_shorten 6 = .ok (.getfield 21, 3) := by decide +kernel
theorem dX5_shorten_9 : decode cX5_shorten 9 = .ok (.if_icmp .ge 8, 3) := by decide +kernel
theorem dX5_shorten_12 : decode cX5_shorten 12 = .ok (.aload_n 0, 1) := by decide +kernel
theorem dX5_shorten_13 : decode cX5_shorten 13 = .ok (.iload_n 1, 1) := by decide +kernel
theorem dX5_shorten_14 : decode cX5_shorten 14 = .ok (.putfield 21, 3) := by decide +kernel
theorem dX5_shorten_17 : decode cX5_shorten 17 = .ok (.return_, 1) := by decide +kernel
theorem dX5_fill_0 : decode cX5_fill 0 = .ok (.aload_n 0, 1) := by decide +kernel
theorem dX5_fill_1 : decode cX5_fill 1 = .ok (.invokevirtual 37, 3) := by decide +kernel
theorem dX5_fill_4 : decode cX5_fill 4 = .ok (.iconst 0, 1) := by decide +kernel
theorem dX5_fill_5 : decode cX5_fill 5 = .ok (.istore_n 3, 1) := by decide +kernel
theorem dX5_fill_6 : decode cX5_fill 6 = .ok (.iload_n 3, 1) := by decide +kernel
theorem dX5_fill_7 : decode cX5_fill 7 = .ok (.iload_n 1, 1) := by decide +kernel
theorem dX5_fill_8 : decode cX5_fill 8 = .ok (.if_icmp .ge 14, 3) := by decide +kernel
theorem dX5_fill_11 : decode cX5_fill 11 = .ok (.aload_n 0, 1) := by decide +kernel
theorem dX5_fill_12 : decode cX5_fill 12 = .ok (.iload_n 2, 1) := by decide +kernel
theorem dX5_fill_13 : decode cX5_fill 13 = .ok (.invokevirtual 40, 3) := by decide +kernel
theorem dX5_fill_16 : decode cX5_fill 16 = .ok (.iinc 3 1, 3) := by decide +kernel
theorem dX5_fill_19 : decode cX5_fill 19 = .ok (.goto (-13), 3) := by decide +kernel
theorem dX5_fill_22 : decode cX5_fill 22 = .ok (.return_, 1) := by decide +kernel
theorem dX5_copyFrom_0 : decode cX5_copyFrom 0 = .ok (.aload_n 0, 1) := by decide +kernel
theorem dX5_copyFrom_1 : decode cX5_copyFrom 1 = .ok (.invokevirtual 37, 3) := by decide +kernel
theorem dX5_copyFrom_4 : decode cX5_copyFrom 4 = .ok (.iconst 0, 1) := by decide +kernel
theorem dX5_copyFrom_5 : decode cX5_copyFrom 5 = .ok (.istore_n 2, 1) := by decide +kernel
theorem dX5_copyFrom_6 : decode cX5_copyFrom 6 = .ok (.iload_n 2, 1) := by decide +kernel
theorem dX5_copyFrom_7 : decode cX5_copyFrom 7 = .ok (.aload_n 1, 1) := by decide +kernel
theorem dX5_copyFrom_8 : decode cX5_copyFrom 8 = .ok (.getfield 21, 3) := by decide +kernel
theorem dX5_copyFrom_11 : decode cX5_copyFrom 11 = .ok (.if_icmp .ge 18, 3) := by decide +kernel
theorem dX5_copyFrom_14 : decode cX5_copyFrom 14 = .ok (.aload_n 0, 1) := by decide +kernel
theorem dX5_copyFrom_15 : decode cX5_copyFrom 15 = .ok (.aload_n 1, 1) := by decide +kernel
theorem dX5_copyFrom_16 : decode cX5_copyFrom 16 = .ok (.iload_n 2, 1) := by decide +kernel
theorem dX5_copyFrom_17 : decode cX5_copyFrom 17 = .ok (.invokevirtual 29, 3) := by decide +kernel
theorem dX5_copyFrom_20 : decode cX5_copyFrom 20 = .ok (.invokevirtual 40, 3) := by decide +kernel
theorem dX5_copyFrom_23 : decode cX5_copyFrom 23 = .ok (.iinc 2 1, 3) := by decide +kernel
theorem dX5_copyFrom_26 : decode cX5_copyFrom 26 = .ok (.goto (-20), 3) := by decide +kernel
theorem dX5_copyFrom_29 : decode cX5_copyFrom 29 = .ok (.return_, 1) := by decide +kernel
theorem dX5_find_0 : decode cX5_find 0 = .ok (.iconst 0, 1) := by decide +kernel
theorem dX5_find_1 : decode cX5_find 1 = .ok (.istore_n 2, 1) := by decide +kernel
theorem dX5_find_2 : decode cX5_find 2 = .ok (.iload_n 2, 1) := by decide +kernel
theorem dX5_find_3 : decode cX5_find 3 = .ok (.aload_n 0, 1) := by decide +kernel
theorem dX5_find_4 : decode cX5_find 4 = .ok (.getfield 21, 3) := by decide +kernel
theorem dX5_find_7 : decode cX5_find 7 = .ok (.if_icmp .ge 20, 3) := by decide +kernel
theorem dX5_find_10 : decode cX5_find 10 = .ok (.aload_n 0, 1) := by decide +kernel
theorem dX5_find_11 : decode cX5_find 11 = .ok (.iload_n 2, 1) := by decide +kernel
theorem dX5_find_12 : decode cX5_find 12 = .ok (.invokevirtual 29, 3) := by decide +kernel
theorem dX5_find_15 : decode cX5_find 15 = .ok (.iload_n 1, 1) := by decide +kernel
theorem dX5_find_16 : decode cX5_find 16 = .ok (.if_icmp .ne 5, 3) := by decide +kernel
theorem dX5_find_19 : decode cX5_find 19 = .ok (.iload_n 2, 1) := by decide +kernel
theorem dX5_find_20 : decode cX5_find 20 = .ok (.ireturn, 1) := by decide +kernel
theorem dX5_find_21 : decode cX5_find 21 = .ok (.iinc 2 1, 3) := by decide +kernel
theorem dX5_find_24 : decode cX5_find 24 = .ok (.goto (-22), 3) := by decide +kernel
theorem dX5_find_27 : decode cX5_find 27 = .ok (.iconst (-1), 1) := by decide +kernel
theorem dX5_find_28 : decode cX5_find 28 = .ok (.ireturn, 1) := by decide +kernel
theorem dX5_count_0 : decode cX5_count 0 = .ok (.iconst 0, 1) := by decide +kernel
theorem dX5_count_1 : decode cX5_count 1 = .ok (.istore_n 2, 1) := by decide +kernel
theorem dX5_count_2 : decode cX5_count 2 = .ok (.iconst 0, 1) := by decide +kernel
theorem dX5_count_3 : decode cX5_count 3 = .ok (.istore_n 3, 1) := by decide +kernel
theorem dX5_count_4 : decode cX5_count 4 = .ok (.iload_n 3, 1) := by decide +kernel
theorem dX5_count_5 : decode cX5_count 5 = .ok (.aload_n 0, 1) := by decide +kernel
theorem dX5_count_6 : decode cX5_count 6 = .ok (.getfield 21, 3) := by decide +kernel
theorem dX5_count_9 : decode cX5_count 9 = .ok (.if_icmp .ge 21, 3) := by decide +kernel
theorem dX5_count_12 : decode cX5_count 12 = .ok (.aload_n 0, 1) := by decide +kernel
theorem dX5_count_13 : decode cX5_count 13 = .ok (.iload_n 3, 1) := by decide +kernel
theorem dX5_count_14 : decode cX5_count 14 = .ok (.invokevirtual 29, 3) := by decide +kernel
theorem dX5_count_17 : decode cX5_count 17 = .ok (.iload_n 1, 1) := by decide +kernel
theorem dX5_count_18 : decode cX5_count 18 = .ok (.if_icmp .ne 6, 3) := by decide +kernel
theorem dX5_count_21 : decode cX5_count 21 = .ok (.iinc 2 1, 3) := by decide +kernel
theorem dX5_count_24 : decode cX5_count 24 = .ok (.iinc 3 1, 3) := by decide +kernel
theorem dX5_count_27 : decode cX5_count 27 = .ok (.goto (-23), 3) := by decide +kernel
theorem dX5_count_30 : decode cX5_count 30 = .ok (.iload_n 2, 1) := by decide +kernel
theorem dX5_count_31 : decode cX5_count 31 = .ok (.ireturn, 1) := by decide +kernel
theorem dX5_hashOnto_0 : decode cX5_hashOnto 0 = .ok (.lload_n 1, 1) := by decide +kernel
theorem dX5_hashOnto_1 : decode cX5_hashOnto 1 = .ok (.lstore_n 3, 1) := by decide +kernel
theorem dX5_hashOnto_2 : decode cX5_hashOnto 2 = .ok (.iconst 0, 1) := by decide +kernel
theorem dX5_hashOnto_3 : decode cX5_hashOnto 3 = .ok (.istore 5, 2) := by decide +kernel
theorem dX5_hashOnto_5 : decode cX5_hashOnto 5 = .ok (.iload 5, 2) := by decide +kernel
theorem dX5_hashOnto_7 : decode cX5_hashOnto 7 = .ok (.aload_n 0, 1) := by decide +kernel
theorem dX5_hashOnto_8 : decode cX5_hashOnto 8 = .ok (.getfield 21, 3) := by decide +kernel
theorem dX5_hashOnto_11 : decode cX5_hashOnto 11 = .ok (.if_icmp .ge 23, 3) := by decide +kernel
theorem dX5_hashOnto_14 : decode cX5_hashOnto 14 = .ok (.ldc2_w 44, 3) := by decide +kernel
theorem dX5_hashOnto_17 : decode cX5_hashOnto 17 = .ok (.lload_n 3, 1) := by decide +kernel
theorem dX5_hashOnto_18 : decode cX5_hashOnto 18 = .ok (.lmul, 1) := by decide +kernel
theorem dX5_hashOnto_19 : decode cX5_hashOnto 19 = .ok (.aload_n 0, 1) := by decide +kernel
theorem dX5_hashOnto_20 : decode cX5_hashOnto 20 = .ok (.iload 5, 2) := by decide +kernel
theorem dX5_hashOnto_22 : decode cX5_hashOnto 22 = .ok (.invokevirtual 29, 3) := by decide +kernel
theorem dX5_hashOnto_25 : decode cX5_hashOnto 25 = .ok (.i2l, 1) := by decide +kernel
theorem dX5_hashOnto_26 : decode cX5_hashOnto 26 = .ok (.ladd, 1) := by decide +kernel
theorem dX5_hashOnto_27 : decode cX5_hashOnto 27 = .ok (.lstore_n 3, 1) := by decide +kernel
theorem dX5_hashOnto_28 : decode cX5_hashOnto 28 = .ok (.iinc 5 1, 3) := by decide +kernel
theorem dX5_hashOnto_31 : decode cX5_hashOnto 31 = .ok (.goto (-26), 3) := by decide +kernel
theorem dX5_hashOnto_34 : decode cX5_hashOnto 34 = .ok (.lload_n 3, 1) := by decide +kernel
theorem dX5_hashOnto_35 : decode cX5_hashOnto 35 = .ok (.lreturn, 1) := by decide +kernel
theorem dX6_init_0 : decode cX6_init 0 = .ok (.aload_n 0, 1) := by decide +kernel
theorem dX6_init_1 : decode cX6_init 1 = .ok (.invokespecial 3, 3) := by decide +kernel
theorem dX6_init_4 : decode cX6_init 4 = .ok (.aload_n 0, 1) := by decide +kernel
theorem dX6_init_5 : decode cX6_init 5 = .ok (.new 9, 3) := by decide +kernel
theorem dX6_init_8 : decode cX6_init 8 = .ok (.dup, 1) := by decide +kernel
theorem dX6_init_9 : decode cX6_init 9 = .ok (.sipush 200, 3) := by decide +kernel
theorem dX6_init_12 : decode cX6_init 12 = .ok (.invokespecial 11, 3) := by decide +kernel
theorem dX6_init_15 : decode cX6_init 15 = .ok (.putfield 14, 3) := by decide +kernel
theorem dX6_init_18 : decode cX6_init 18 = .ok (.aload_n 0, 1) := by decide +kernel
theorem dX6_init_19 : decode cX6_init 19 = .ok (.new 9, 3) := by decide +kernel
theorem dX6_init_22 : decode cX6_init 22 = .ok (.dup, 1) := by decide +kernel
theorem dX6_init_23 : decode cX6_init 23 = .ok (.bipush 20, 2) := by decide +kernel
theorem dX6_init_25 : decode cX6_init 25 = .ok (.invokespecial 11, 3) := by decide +kernel
theorem dX6_init_28 : decode cX6_init 28 = .ok (.putfield 20, 3) := by decide +kernel
theorem dX6_init_31 : decode cX6_init 31 = .ok (.return_, 1) := by decide +kernel
theorem dX6_take_0 : decode cX6_take 0 = .ok (.aload_n 0, 1) := by decide +kernel
theorem dX6_take_1 : decode cX6_take 1 = .ok (.getfield 14, 3) := by decide +kernel
theorem dX6_take_4 : decode cX6_take 4 = .ok (.aload_n 1, 1) := by decide +kernel
theorem dX6_take_5 : decode cX6_take 5 = .ok (.getfield 23, 3) := by decide +kernel
theorem dX6_take_8 : decode cX6_take 8 = .ok (.invokevirtual 26, 3) := by decide +kernel
theorem dX6_take_11 : decode cX6_take 11 = .ok (.aload_n 0, 1) := by decide +kernel
theorem dX6_take_12 : decode cX6_take 12 = .ok (.getfield 20, 3) := by decide +kernel
theorem dX6_take_15 : decode cX6_take 15 = .ok (.aload_n 2, 1) := by decide +kernel
theorem dX6_take_16 : decode cX6_take 16 = .ok (.getfield 30, 3) := by decide +kernel
theorem dX6_take_19 : decode cX6_take 19 = .ok (.invokevirtual 26, 3) := by decide +kernel
theorem dX6_take_22 : decode cX6_take 22 = .ok (.aload_n 0, 1) := by decide +kernel
theorem dX6_take_23 : decode cX6_take 23 = .ok (.aload_n 1, 1) := by decide +kernel
theorem dX6_take_24 : decode cX6_take 24 = .ok (.getfield 33, 3) := by decide +kernel
theorem dX6_take_27 : decode cX6_take 27 = .ok (.invokevirtual 36, 3) := by decide +kernel
theorem dX6_take_30 : decode cX6_take 30 = .ok (.putfield 40, 3) := by decide +kernel
theorem dX6_take_33 : decode cX6_take 33 = .ok (.aload_n 0, 1) := by decide +kernel
theorem dX6_take_34 : decode cX6_take 34 = .ok (.aload_n 1, 1) := by decide +kernel
theorem dX6_take_35 : decode cX6_take 35 = .ok (.getfield 44, 3) := by decide +kernel
theorem dX6_take_38 : decode cX6_take 38 = .ok (.invokevirtual 36, 3) := by decide +kernel
theorem dX6_take_41 : decode cX6_take 41 = .ok (.putfield 47, 3) := by decide +kernel
theorem dX6_take_44 : decode cX6_take 44 = .ok (.aload_n 0, 1) := by decide +kernel
theorem dX6_take_45 : decode cX6_take 45 = .ok (.aload_n 1, 1) := by decide +kernel
theorem dX6_take_46 : decode cX6_take 46 = .ok (.getfield 50, 3) := by decide +kernel
theorem dX6_take_49 : decode cX6_take 49 = .ok (.invokevirtual 36, 3) := by decide +kernel
theorem dX6_take_52 : decode cX6_take 52 = .ok (.putfield 53, 3) := by decide +kernel
theorem dX6_take_55 : decode cX6_take 55 = .ok (.aload_n 0, 1) := by decide +kernel
theorem dX6_take_56 : decode cX6_take 56 = .ok (.aload_n 1, 1) := by decide +kernel
theorem dX6_take_57 : decode cX6_take 57 = .ok (.getfield 56, 3) := by decide +kernel
theorem dX6_take_60 : decode cX6_take 60 = .ok (.putfield 59, 3) := by decide +kernel
theorem dX6_take_63 : decode cX6_take 63 = .ok (.aload_n 0, 1) := by decide +kernel
theorem dX6_take_64 : decode cX6_take 64 = .ok (.aload_n 1, 1) := by decide +kernel
theorem dX6_take_65 : decode cX6_take 65 = .ok (.getfield 60, 3) := by decide +kernel
theorem dX6_take_68 : decode cX6_take 68 = .ok (.putfield 64, 3) := by decide +kernel
theorem dX6_take_71 : decode cX6_take 71 = .ok (.return_, 1) := by decide +kernel
theorem dX6_give_0 : decode cX6_give 0 = .ok (.aload_n 1, 1) := by decide +kernel
theorem dX6_give_1 : decode cX6_give 1 = .ok (.getfield 23, 3) := by decide +kernel
theorem dX6_give_4 : decode cX6_give 4 = .ok (.aload_n 0, 1) := by decide +kernel
theorem dX6_give_5 : decode cX6_give 5 = .ok (.getfield 14, 3) := by decide +kernel
theorem dX6_give_8 : decode cX6_give 8 = .ok (.invokevirtual 26, 3) := by decide +kernel
theorem dX6_give_11 : decode cX6_give 11 = .ok (.aload_n 2, 1) := by decide +kernel
theorem dX6_give_12 : decode cX6_give 12 = .ok (.getfield 30, 3) := by decide +kernel
theorem dX6_give_15 : decode cX6_give 15 = .ok (.aload_n 0, 1) := by decide +kernel
theorem dX6_give_16 : decode cX6_give 16 = .ok (.getfield 20, 3) := by decide +kernel
theorem dX6_give_19 : decode cX6_give 19 = .ok (.invokevirtual 26, 3) := by decide +kernel
theorem dX6_give_22 : decode cX6_give 22 = .ok (.aload_n 1, 1) := by decide +kernel
theorem dX6_give_23 : decode cX6_give 23 = .ok (.getfield 33, 3) := by decide +kernel
theorem dX6_give_26 : decode cX6_give 26 = .ok (.aload_n 0, 1) := by decide +kernel
theorem dX6_give_27 : decode cX6_give 27 = .ok (.getfield 40, 3) := by decide +kernel
theorem dX6_give_30 : decode cX6_give 30 = .ok (.invokevirtual 65, 3) := by decide +kernel
theorem dX6_give_33 : decode cX6_give 33 = .ok (.aload_n 1, 1) := by decide +kernel
theorem dX6_give_34 : decode cX6_give 34 = .ok (.getfield 44, 3) := by decide +kernel
theorem dX6_give_37 : decode cX6_give 37 = .ok (.aload_n 0, 1) := by decide +kernel
theorem dX6_give_38 : decode cX6_give 38 = .ok (.getfield 47, 3) := by decide +kernel
theorem dX6_give_41 : decode cX6_give 41 = .ok (.invokevirtual 65, 3) := by decide +kernel
theorem dX6_give_44 : decode cX6_give 44 = .ok (.aload_n 1, 1) := by decide +kernel
theorem dX6_give_45 : decode cX6_give 45 = .ok (.getfield 50, 3) := by decide +kernel
theorem dX6_give_48 : decode cX6_give 48 = .ok (.aload_n 0, 1) := by decide +kernel
theorem dX6_give_49 : decode cX6_give 49 = .ok (.getfield 53, 3) := by decide +kernel
theorem dX6_give_52 : decode cX6_give 52 = .ok (.invokevirtual 65, 3) := by decide +kernel
theorem dX6_give_55 : decode cX6_give 55 = .ok (.aload_n 1, 1) := by decide +kernel
theorem dX6_give_56 : decode cX6_give 56 = .ok (.aload_n 0, 1) := by decide +kernel
theorem dX6_give_57 : decode cX6_give 57 = .ok (.getfield 59, 3) := by decide +kernel
theorem dX6_give_60 : decode cX6_give 60 = .ok (.putfield 56, 3) := by decide +kernel
theorem dX6_give_63 : decode cX6_give 63 = .ok (.aload_n 1, 1) := by decide +kernel
theorem dX6_give_64 : decode cX6_give 64 = .ok (.aload_n 0, 1) := by decide +kernel
theorem dX6_give_65 : decode cX6_give 65 = .ok (.getfield 64, 3) := by decide +kernel
theorem dX6_give_68 : decode cX6_give 68 = .ok (.putfield 60, 3) := by decide +kernel
theorem dX6_give_71 : decode cX6_give 71 = .ok (.return_, 1) := by decide +kernel
theorem dX7_init_0 : decode cX7_init 0 = .ok (.aload_n 0, 1) := by decide +kernel
theorem dX7_init_1 : decode cX7_init 1 = .ok (.invokespecial 1, 3) := by decide +kernel
theorem dX7_init_4 : decode cX7_init 4 = .ok (.aload_n 0, 1) := by decide +kernel
theorem dX7_init_5 : decode cX7_init 5 = .ok (.new 7, 3) := by decide +kernel
theorem dX7_init_8 : decode cX7_init 8 = .ok (.dup, 1) := by decide +kernel
theorem dX7_init_9 : decode cX7_init 9 = .ok (.bipush 60, 2) := by decide +kernel
theorem dX7_init_11 : decode cX7_init 11 = .ok (.invokespecial 11, 3) := by decide +kernel
theorem dX7_init_14 : decode cX7_init 14 = .ok (.putfield 14, 3) := by decide +kernel
theorem dX7_init_17 : decode cX7_init 17 = .ok (.aload_n 0, 1) := by decide +kernel
theorem dX7_init_18 : decode cX7_init 18 = .ok (.new 18, 3) := by decide +kernel
theorem dX7_init_21 : decode cX7_init 21 = .ok (.dup, 1) := by decide +kernel
theorem dX7_init_22 : decode cX7_init 22 = .ok (.invokespecial 20, 3) := by decide +kernel
theorem dX7_init_25 : decode cX7_init 25 = .ok (.putfield 21, 3) := by decide +kernel
theorem dX7_init_28 : decode cX7_init 28 = .ok (.aload_n 0, 1) := by decide +kernel
theorem dX7_init_29 : decode cX7_init 29 = .ok (.new 25, 3) := by decide +kernel
theorem dX7_init_32 : decode cX7_init 32 = .ok (.dup, 1) := by decide +kernel
theorem dX7_init_33 : decode cX7_init 33 = .ok (.invokespecial 27, 3) := by decide +kernel
theorem dX7_init_36 : decode cX7_init 36 = .ok (.putfield 28, 3) := by decide +kernel
theorem dX7_init_39 : decode cX7_init 39 = .ok (.aload_n 0, 1) := by decide +kernel
theorem dX7_init_40 : decode cX7_init 40 = .ok (.new 32, 3) := by decide +kernel
theorem dX7_init_43 : decode cX7_init 43 = .ok (.dup, 1) := by decide +kernel
theorem dX7_init_44 : decode cX7_init 44 = .ok (.invokespecial 34, 3) := by decide +kernel
theorem dX7_init_47 : decode cX7_init 47 = .ok (.putfield 35, 3) := by decide +kernel
theorem dX7_init_50 : decode cX7_init 50 = .ok (.aload_n 0, 1) := by decide +kernel
theorem dX7_init_51 : decode cX7_init 51 = .ok (.new 39, 3) := by decide +kernel
theorem dX7_init_54 : decode cX7_init 54 = .ok (.dup, 1) := by decide +kernel
theorem dX7_init_55 : decode cX7_init 55 = .ok (.invokespecial 41, 3) := by decide +kernel
theorem dX7_init_58 : decode cX7_init 58 = .ok (.putfield 42, 3) := by decide +kernel
theorem dX7_init_61 : decode cX7_init 61 = .ok (.return_, 1) := by decide +kernel
theorem dX7_append_0 : decode cX7_append 0 = .ok (.iload_n 1, 1) := by decide +kernel
theorem dX7_append_1 : decode cX7_append 1 = .ok (.invokestatic 46, 3) := by decide +kernel
theorem dX7_append_4 : decode cX7_append 4 = .ok (.iconst (-1), 1) := by decide +kernel
theorem dX7_append_5 : decode cX7_append 5 = .ok (.if_icmp .ne 13, 3) := by decide +kernel
theorem dX7_append_8 : decode cX7_append 8 = .ok (.new 52, 3) := by decide +kernel
theorem dX7_append_11 : decode cX7_append 11 = .ok (.dup, 1) := by decide +kernel
theorem dX7_append_12 : decode cX7_append 12 = .ok (.ldc 54, 2) := by decide +kernel
theorem dX7_append_14 : decode cX7_append 14 = .ok (.invokespecial 56, 3) := by decide +kernel
theorem dX7_append_17 : decode cX7_append 17 = .ok (.athrow, 1) := by decide +kernel
theorem dX7_append_18 : decode cX7_append 18 = .ok (.aload_n 0, 1) := by decide +kernel
theorem dX7_append_19 : decode cX7_append 19 = .ok (.getfield 14, 3) := by decide +kernel
theorem dX7_append_22 : decode cX7_append 22 = .ok (.invokevirtual 59, 3) := by decide +kernel
theorem dX7_append_25 : decode cX7_append 25 = .ok (.bipush 60, 2) := by decide +kernel
theorem dX7_append_27 : decode cX7_append 27 = .ok (.if_icmp .lt 13, 3) := by decide +kernel
theorem dX7_append_30 : decode cX7_append 30 = .ok (.new 63, 3) := by decide +kernel
theorem dX7_append_33 : decode cX7_append 33 = .ok (.dup, 1) := by decide +kernel
theorem dX7_append_34 : decode cX7_append 34 = .ok (.ldc 65, 2) := by decide +kernel
theorem dX7_append_36 : decode cX7_append 36 = .ok (.invokespecial 67, 3) := by decide +kernel
theorem dX7_append_39 : decode cX7_append 39 = .ok (.athrow, 1) := by decide +kernel
theorem dX7_append_40 : decode cX7_append 40 = .ok (.aload_n 0, 1) := by decide +kernel
theorem dX7_append_41 : decode cX7_append 41 = .ok (.getfield 14, 3) := by decide +kernel
theorem dX7_append_44 : decode cX7_append 44 = .ok (.iload_n 1, 1) := by decide +kernel
theorem dX7_append_45 : decode cX7_append 45 = .ok (.invokevirtual 68, 3) := by decide +kernel
theorem dX7_append_48 : decode cX7_append 48 = .ok (.aload_n 0, 1) := by decide +kernel
theorem dX7_append_49 : decode cX7_append 49 = .ok (.getfield 14, 3) := by decide +kernel
theorem dX7_append_52 : decode cX7_append 52 = .ok (.invokevirtual 59, 3) := by decide +kernel
theorem dX7_append_55 : decode cX7_append 55 = .ok (.ireturn, 1) := by decide +kernel
theorem dX7_clearBuffer_0 : decode cX7_clearBuffer 0 = .ok (.aload_n 0, 1) := by decide +kernel
theorem dX7_clearBuffer_1 : decode cX7_clearBuffer 1 = .ok (.getfield 14, 3) := by decide +kernel
theorem dX7_clearBuffer_4 : decode cX7_clearBuffer 4 = .ok (.invokevirtual 59, 3) := by decide +kernel
theorem dX7_clearBuffer_7 : decode cX7_clearBuffer 7 = .ok (.istore_n 1, 1) := by decide +kernel
theorem dX7_clearBuffer_8 : decode cX7_clearBuffer 8 = .ok (.aload_n 0, 1) := by decide +kernel
theorem dX7_clearBuffer_9 : decode cX7_clearBuffer 9 = .ok (.getfield 14, 3) := by decide +kernel
theorem dX7_clearBuffer_12 : decode cX7_clearBuffer 12 = .ok (.invokevirtual 71, 3) := by decide +kernel
theorem dX7_clearBuffer_15 : decode cX7_clearBuffer 15 = .ok (.iload_n 1, 1) := by decide +kernel
theorem dX7_clearBuffer_16 : decode cX7_clearBuffer 16 = .ok (.ireturn, 1) := by decide +kernel
theorem dX7_codesToSend_0 : decode cX7_codesToSend 0 = .ok (.aload_n 0, 1) := by decide +kernel
theorem dX7_codesToSend_1 : decode cX7_codesToSend 1 = .ok (.getfield 21, 3) := by decide +kernel
theorem dX7_codesToSend_4 : decode cX7_codesToSend 4 = .ok (.aload_n 0, 1) := by decide +kernel
theorem dX7_codesToSend_5 : decode cX7_codesToSend 5 = .ok (.getfield 14, 3) := by decide +kernel
theorem dX7_codesToSend_8 : decode cX7_codesToSend 8 = .ok (.invokevirtual 74, 3) := by decide +kernel
theorem dX7_codesToSend_11 : decode cX7_codesToSend 11 = .ok (.invokevirtual 59, 3) := by decide +kernel
theorem dX7_codesToSend_14 : decode cX7_codesToSend 14 = .ok (.ireturn, 1) := by decide +kernel
theorem dX7_send_0 : decode cX7_send 0 = .ok (.aload_n 0, 1) := by decide +kernel
theorem dX7_send_1 : decode cX7_send 1 = .ok (.getfield 14, 3) := by decide +kernel
theorem dX7_send_4 : decode cX7_send 4 = .ok (.invokevirtual 59, 3) := by decide +kernel
theorem dX7_send_7 : decode cX7_send 7 = .ok (.ifCond .ne 13, 3) := by decide +kernel
theorem dX7_send_10 : decode cX7_send 10 = .ok (.new 63, 3) := by decide +kernel
theorem dX7_send_13 : decode cX7_send 13 = .ok (.dup, 1) := by decide +kernel
theorem dX7_send_14 : decode cX7_send 14 = .ok (.ldc 78, 2) := by decide +kernel
theorem dX7_send_16 : decode cX7_send 16 = .ok (.invokespecial 67, 3) := by decide +kernel
theorem dX7_send_19 : decode cX7_send 19 = .ok (.athrow, 1) := by decide +kernel
theorem dX7_send_20 : decode cX7_send 20 = .ok (.aload_n 0, 1) := by decide +kernel
theorem dX7_send_21 : decode cX7_send 21 = .ok (.invokevirtual 80, 3) := by decide +kernel
theorem dX7_send_24 : decode cX7_send 24 = .ok (.aload_n 0, 1) := by decide +kernel
theorem dX7_send_25 : decode cX7_send 25 = .ok (.invokevirtual 83, 3) := by decide +kernel
theorem dX7_send_28 : decode cX7_send 28 = .ok (.iadd, 1) := by decide +kernel
theorem dX7_send_29 : decode cX7_send 29 = .ok (.sipush 200, 3) := by decide +kernel
theorem dX7_send_32 : decode cX7_send 32 = .ok (.if_icmp .le 13, 3) := by decide +kernel
theorem dX7_send_35 : decode cX7_send 35 = .ok (.new 63, 3) := by decide +kernel
theorem dX7_send_38 : decode cX7_send 38 = .ok (.dup, 1) := by decide +kernel
theorem dX7_send_39 : decode cX7_send 39 = .ok (.ldc 86, 2) := by decide +kernel
theorem dX7_send_41 : decode cX7_send 41 = .ok (.invokespecial 67, 3) := by decide +kernel
theorem dX7_send_44 : decode cX7_send 44 = .ok (.athrow, 1) := by decide +kernel
theorem dX7_send_45 : decode cX7_send 45 = .ok (.aload_n 0, 1) := by decide +kernel
theorem dX7_send_46 : decode cX7_send 46 = .ok (.getfield 42, 3) := by decide +kernel
theorem dX7_send_49 : decode cX7_send 49 = .ok (.aload_n 0, 1) := by decide +kernel
theorem dX7_send_50 : decode cX7_send 50 = .ok (.getfield 21, 3) := by decide +kernel
theorem dX7_send_53 : decode cX7_send 53 = .ok (.aload_n 0, 1) := by decide +kernel
theorem dX7_send_54 : decode cX7_send 54 = .ok (.getfield 28, 3) := by decide +kernel
theorem dX7_send_57 : decode cX7_send 57 = .ok (.invokevirtual 88, 3) := by decide +kernel
theorem dX7_send_60 : decode cX7_send 60 = .ok (.aload_n 0, 1) := by decide +kernel
theorem dX7_send_61 : decode cX7_send 61 = .ok (.invokevirtual 92, 3) := by decide +kernel
theorem dX7_send_64 : decode cX7_send 64 = .ok (.istore_n 1, 1) := by decide +kernel
theorem dX7_send_65 : decode cX7_send 65 = .ok (.aload_n 0, 1) := by decide +kernel
theorem dX7_send_66 : decode cX7_send 66 = .ok (.getfield 21, 3) := by decide +kernel
theorem dX7_send_69 : decode cX7_send 69 = .ok (.aload_n 0, 1) := by decide +kernel
theorem dX7_send_70 : decode cX7_send 70 = .ok (.getfield 14, 3) := by decide +kernel
theorem dX7_send_73 : decode cX7_send 73 = .ok (.invokevirtual 95, 3) := by decide +kernel
theorem dX7_send_76 : decode cX7_send 76 = .ok (.aload_n 0, 1) := by decide +kernel
theorem dX7_send_77 : decode cX7_send 77 = .ok (.getfield 14, 3) := by decide +kernel
theorem dX7_send_80 : decode cX7_send 80 = .ok (.invokevirtual 71, 3) := by decide +kernel
theorem dX7_send_83 : decode cX7_send 83 = .ok (.aload_n 0, 1) := by decide +kernel
theorem dX7_send_84 : decode cX7_send 84 = .ok (.getfield 35, 3) := by decide +kernel
theorem dX7_send_87 : decode cX7_send 87 = .ok (.aload_n 0, 1) := by decide +kernel
theorem dX7_send_88 : decode cX7_send 88 = .ok (.getfield 21, 3) := by decide +kernel
theorem dX7_send_91 : decode cX7_send 91 = .ok (.aload_n 0, 1) := by decide +kernel
theorem dX7_send_92 : decode cX7_send 92 = .ok (.getfield 28, 3) := by decide +kernel
theorem dX7_send_95 : decode cX7_send 95 = .ok (.invokevirtual 99, 3) := by decide +kernel
theorem dX7_send_98 : decode cX7_send 98 = .ok (.aload_n 0, 1) := by decide +kernel
theorem dX7_send_99 : decode cX7_send 99 = .ok (.invokevirtual 92, 3) := by decide +kernel
theorem dX7_send_102 : decode cX7_send 102 = .ok (.iload_n 1, 1) := by decide +kernel
theorem dX7_send_103 : decode cX7_send 103 = .ok (.isub, 1) := by decide +kernel
theorem dX7_send_104 : decode cX7_send 104 = .ok (.ireturn, 1) := by decide +kernel
theorem dX7_setFault_0 : decode cX7_setFault 0 = .ok (.aload_n 0, 1) := by decide +kernel
theorem dX7_setFault_1 : decode cX7_setFault 1 = .ok (.getfield 21, 3) := by decide +kernel
theorem dX7_setFault_4 : decode cX7_setFault 4 = .ok (.getfield 102, 3) := by decide +kernel
theorem dX7_setFault_7 : decode cX7_setFault 7 = .ok (.iload_n 1, 1) := by decide +kernel
theorem dX7_setFault_8 : decode cX7_setFault 8 = .ok (.invokevirtual 105, 3) := by decide +kernel
theorem dX7_setFault_11 : decode cX7_setFault 11 = .ok (.ifCond .ne 13, 3) := by decide +kernel
theorem dX7_setFault_14 : decode cX7_setFault 14 = .ok (.new 109, 3) := by decide +kernel
theorem dX7_setFault_17 : decode cX7_setFault 17 = .ok (.dup, 1) := by decide +kernel
theorem dX7_setFault_18 : decode cX7_setFault 18 = .ok (.ldc 111, 2) := by decide +kernel
theorem dX7_setFault_20 : decode cX7_setFault 20 = .ok (.invokespecial 113, 3) := by decide +kernel
theorem dX7_setFault_23 : decode cX7_setFault 23 = .ok (.athrow, 1) := by decide +kernel
theorem dX7_setFault_24 : decode cX7_setFault 24 = .ok (.iload_n 2, 1) := by decide +kernel
theorem dX7_setFault_25 : decode cX7_setFault 25 = .ok (.iconst (-1), 1) := by decide +kernel
theorem dX7_setFault_26 : decode cX7_setFault 26 = .ok (.if_icmp .lt 8, 3) := by decide +kernel
theorem dX7_setFault_29 : decode cX7_setFault 29 = .ok (.iload_n 2, 1) := by decide +kernel
theorem dX7_setFault_30 : decode cX7_setFault 30 = .ok (.iconst 5, 1) := by decide +kernel
theorem dX7_setFault_31 : decode cX7_setFault 31 = .ok (.if_icmp .le 13, 3) := by decide +kernel
theorem dX7_setFault_34 : decode cX7_setFault 34 = .ok (.new 52, 3) := by decide +kernel
theorem dX7_setFault_37 : decode cX7_setFault 37 = .ok (.dup, 1) := by decide +kernel
theorem dX7_setFault_38 : decode cX7_setFault 38 = .ok (.ldc 114, 2) := by decide +kernel
theorem dX7_setFault_40 : decode cX7_setFault 40 = .ok (.invokespecial 56, 3) := by decide +kernel
theorem dX7_setFault_43 : decode cX7_setFault 43 = .ok (.athrow, 1) := by decide +kernel
theorem dX7_setFault_44 : decode cX7_setFault 44 = .ok (.aload_n 0, 1) := by decide +kernel
theorem dX7_setFault_45 : decode cX7_setFault 45 = .ok (.getfield 42, 3) := by decide +kernel
theorem dX7_setFault_48 : decode cX7_setFault 48 = .ok (.aload_n 0, 1) := by decide +kernel
theorem dX7_setFault_49 : decode cX7_setFault 49 = .ok (.getfield 21, 3) := by decide +kernel
theorem dX7_setFault_52 : decode cX7_setFault 52 = .ok (.aload_n 0, 1) := by decide +kernel
theorem dX7_setFault_53 : decode cX7_setFault 53 = .ok (.getfield 28, 3) := by decide +kernel
theorem dX7_setFault_56 : decode cX7_setFault 56 = .ok (.invokevirtual 88, 3) := by decide +kernel
theorem dX7_setFault_59 : decode cX7_setFault 59 = .ok (.aload_n 0, 1) := by decide +kernel
theorem dX7_setFault_60 : decode cX7_setFault 60 = .ok (.getfield 21, 3) := by decide +kernel
theorem dX7_setFault_63 : decode cX7_setFault 63 = .ok (.getfield 102, 3) := by decide +kernel
theorem dX7_setFault_66 : decode cX7_setFault 66 = .ok (.iload_n 1, 1) := by decide +kernel
theorem dX7_setFault_67 : decode cX7_setFault 67 = .ok (.invokevirtual 116, 3) := by decide +kernel
theorem dX7_setFault_70 : decode cX7_setFault 70 = .ok (.istore_n 3, 1) := by decide +kernel
theorem dX7_setFault_71 : decode cX7_setFault 71 = .ok (.aload_n 0, 1) := by decide +kernel
theorem dX7_setFault_72 : decode cX7_setFault 72 = .ok (.getfield 21, 3) := by decide +kernel
theorem dX7_setFault_75 : decode cX7_setFault 75 = .ok (.getfield 102, 3) := by decide +kernel
theorem dX7_setFault_78 : decode cX7_setFault 78 = .ok (.iload_n 1, 1) := by decide +kernel
theorem dX7_setFault_79 : decode cX7_setFault 79 = .ok (.iload_n 2, 1) := by decide +kernel
theorem dX7_setFault_80 : decode cX7_setFault 80 = .ok (.invokevirtual 119, 3) := by decide +kernel
theorem dX7_setFault_83 : decode cX7_setFault 83 = .ok (.iload_n 3, 1) := by decide +kernel
theorem dX7_setFault_84 : decode cX7_setFault 84 = .ok (.ireturn, 1) := by decide +kernel
theorem dX7_sent_0 : decode cX7_sent 0 = .ok (.aload_n 0, 1) := by decide +kernel
theorem dX7_sent_1 : decode cX7_sent 1 = .ok (.getfield 21, 3) := by decide +kernel
theorem dX7_sent_4 : decode cX7_sent 4 = .ok (.getfield 123, 3) := by decide +kernel
theorem dX7_sent_7 : decode cX7_sent 7 = .ok (.invokevirtual 59, 3) := by decide +kernel
theorem dX7_sent_10 : decode cX7_sent 10 = .ok (.ireturn, 1) := by decide +kernel
theorem dX7_received_0 : decode cX7_received 0 = .ok (.aload_n 0, 1) := by decide +kernel
theorem dX7_received_1 : decode cX7_received 1 = .ok (.getfield 21, 3) := by decide +kernel
theorem dX7_received_4 : decode cX7_received 4 = .ok (.getfield 126, 3) := by decide +kernel
theorem dX7_received_7 : decode cX7_received 7 = .ok (.invokevirtual 59, 3) := by decide +kernel
theorem dX7_received_10 : decode cX7_received 10 = .ok (.ireturn, 1) := by decide +kernel
theorem dX7_sentCode_0 : decode cX7_sentCode 0 = .ok (.aload_n 0, 1) := by decide +kernel
theorem dX7_sentCode_1 : decode cX7_sentCode 1 = .ok (.getfield 21, 3) := by decide +kernel
theorem dX7_sentCode_4 : decode cX7_sentCode 4 = .ok (.getfield 123, 3) := by decide +kernel
theorem dX7_sentCode_7 : decode cX7_sentCode 7 = .ok (.iload_n 1, 1) := by decide +kernel
theorem dX7_sentCode_8 : decode cX7_sentCode 8 = .ok (.invokevirtual 105, 3) := by decide +kernel
theorem dX7_sentCode_11 : decode cX7_sentCode 11 = .ok (.ifCond .ne 13, 3) := by decide +kernel
theorem dX7_sentCode_14 : decode cX7_sentCode 14 = .ok (.new 109, 3) := by decide +kernel
theorem dX7_sentCode_17 : decode cX7_sentCode 17 = .ok (.dup, 1) := by decide +kernel
theorem dX7_sentCode_18 : decode cX7_sentCode 18 = .ok (.ldc 129, 2) := by decide +kernel
theorem dX7_sentCode_20 : decode cX7_sentCode 20 = .ok (.invokespecial 113, 3) := by decide +kernel
theorem dX7_sentCode_23 : decode cX7_sentCode 23 = .ok (.athrow, 1) := by decide +kernel
theorem dX7_sentCode_24 : decode cX7_sentCode 24 = .ok (.aload_n 0, 1) := by decide +kernel
theorem dX7_sentCode_25 : decode cX7_sentCode 25 = .ok (.getfield 21, 3) := by decide +kernel
theorem dX7_sentCode_28 : decode cX7_sentCode 28 = .ok (.getfield 123, 3) := by decide +kernel
theorem dX7_sentCode_31 : decode cX7_sentCode 31 = .ok (.iload_n 1, 1) := by decide +kernel
theorem dX7_sentCode_32 : decode cX7_sentCode 32 = .ok (.invokevirtual 116, 3) := by decide +kernel
theorem dX7_sentCode_35 : decode cX7_sentCode 35 = .ok (.ireturn, 1) := by decide +kernel
theorem dX7_receivedCode_0 : decode cX7_receivedCode 0 = .ok (.aload_n 0, 1) := by decide +kernel
theorem dX7_receivedCode_1 : decode cX7_receivedCode 1 = .ok (.getfield 21, 3) := by decide +kernel
theorem dX7_receivedCode_4 : decode cX7_receivedCode 4 = .ok (.getfield 126, 3) := by decide +kernel
theorem dX7_receivedCode_7 : decode cX7_receivedCode 7 = .ok (.iload_n 1, 1) := by decide +kernel
theorem dX7_receivedCode_8 : decode cX7_receivedCode 8 = .ok (.invokevirtual 105, 3) := by decide +kernel
theorem dX7_receivedCode_11 : decode cX7_receivedCode 11 = .ok (.ifCond .ne 13, 3) := by decide +kernel
theorem dX7_receivedCode_14 : decode cX7_receivedCode 14 = .ok (.new 109, 3) := by decide +kernel
theorem dX7_receivedCode_17 : decode cX7_receivedCode 17 = .ok (.dup, 1) := by decide +kernel
theorem dX7_receivedCode_18 : decode cX7_receivedCode 18 = .ok (.ldc 131, 2) := by decide +kernel
theorem dX7_receivedCode_20 : decode cX7_receivedCode 20 = .ok (.invokespecial 113, 3) := by decide +kernel
theorem dX7_receivedCode_23 : decode cX7_receivedCode 23 = .ok (.athrow, 1) := by decide +kernel
theorem dX7_receivedCode_24 : decode cX7_receivedCode 24 = .ok (.aload_n 0, 1) := by decide +kernel
theorem dX7_receivedCode_25 : decode cX7_receivedCode 25 = .ok (.getfield 21, 3) := by decide +kernel
theorem dX7_receivedCode_28 : decode cX7_receivedCode 28 = .ok (.getfield 126, 3) := by decide +kernel
theorem dX7_receivedCode_31 : decode cX7_receivedCode 31 = .ok (.iload_n 1, 1) := by decide +kernel
theorem dX7_receivedCode_32 : decode cX7_receivedCode 32 = .ok (.invokevirtual 116, 3) := by decide +kernel
theorem dX7_receivedCode_35 : decode cX7_receivedCode 35 = .ok (.ireturn, 1) := by decide +kernel
theorem dX7_senderShift_0 : decode cX7_senderShift 0 = .ok (.aload_n 0, 1) := by decide +kernel
theorem dX7_senderShift_1 : decode cX7_senderShift 1 = .ok (.getfield 21, 3) := by decide +kernel
theorem dX7_senderShift_4 : decode cX7_senderShift 4 = .ok (.getfield 133, 3) := by decide +kernel
theorem dX7_senderShift_7 : decode cX7_senderShift 7 = .ok (.ireturn, 1) := by decide +kernel
theorem dX7_faults_0 : decode cX7_faults 0 = .ok (.sipush 200, 3) := by decide +kernel
theorem dX7_faults_3 : decode cX7_faults 3 = .ok (.aload_n 0, 1) := by decide +kernel
theorem dX7_faults_4 : decode cX7_faults 4 = .ok (.getfield 21, 3) := by decide +kernel
theorem dX7_faults_7 : decode cX7_faults 7 = .ok (.getfield 102, 3) := by decide +kernel
theorem dX7_faults_10 : decode cX7_faults 10 = .ok (.iconst (-1), 1) := by decide +kernel
theorem dX7_faults_11 : decode cX7_faults 11 = .ok (.invokevirtual 137, 3) := by decide +kernel
theorem dX7_faults_14 : decode cX7_faults 14 = .ok (.isub, 1) := by decide +kernel
theorem dX7_faults_15 : decode cX7_faults 15 = .ok (.ireturn, 1) := by decide +kernel
theorem dX7_unshiftOnSpace_0 : decode cX7_unshiftOnSpace 0 = .ok (.aload_n 0, 1) := by decide +kernel
theorem dX7_unshiftOnSpace_1 : decode cX7_unshiftOnSpace 1 = .ok (.getfield 42, 3) := by decide +kernel
theorem dX7_unshiftOnSpace_4 : decode cX7_unshiftOnSpace 4 = .ok (.aload_n 0, 1) := by decide +kernel
theorem dX7_unshiftOnSpace_5 : decode cX7_unshiftOnSpace 5 = .ok (.getfield 21, 3) := by decide +kernel
theorem dX7_unshiftOnSpace_8 : decode cX7_unshiftOnSpace 8 = .ok (.aload_n 0, 1) := by decide +kernel
theorem dX7_unshiftOnSpace_9 : decode cX7_unshiftOnSpace 9 = .ok (.getfield 28, 3) := by decide +kernel
theorem dX7_unshiftOnSpace_12 : decode cX7_unshiftOnSpace 12 = .ok (.invokevirtual 88, 3) := by decide +kernel
theorem dX7_unshiftOnSpace_15 : decode cX7_unshiftOnSpace 15 = .ok (.aload_n 0, 1) := by decide +kernel
theorem dX7_unshiftOnSpace_16 : decode cX7_unshiftOnSpace 16 = .ok (.getfield 21, 3) := by decide +kernel
theorem dX7_unshiftOnSpace_19 : decode cX7_unshiftOnSpace 19 = .ok (.getfield 140, 3) := by decide +kernel
theorem dX7_unshiftOnSpace_22 : decode cX7_unshiftOnSpace 22 = .ok (.istore_n 2, 1) := by decide +kernel
theorem dX7_unshiftOnSpace_23 : decode cX7_unshiftOnSpace 23 = .ok (.aload_n 0, 1) := by decide +kernel
theorem dX7_unshiftOnSpace_24 : decode cX7_unshiftOnSpace 24 = .ok (.getfield 21, 3) := by decide +kernel
theorem dX7_unshiftOnSpace_27 : decode cX7_unshiftOnSpace 27 = .ok (.iload_n 1, 1) := by decide +kernel
theorem dX7_unshiftOnSpace_28 : decode cX7_unshiftOnSpace 28 = .ok (.putfield 140, 3) := by decide +kernel
theorem dX7_unshiftOnSpace_31 : decode cX7_unshiftOnSpace 31 = .ok (.aload_n 0, 1) := by decide +kernel
theorem dX7_unshiftOnSpace_32 : decode cX7_unshiftOnSpace 32 = .ok (.getfield 35, 3) := by decide +kernel
theorem dX7_unshiftOnSpace_35 : decode cX7_unshiftOnSpace 35 = .ok (.aload_n 0, 1) := by decide +kernel
theorem dX7_unshiftOnSpace_36 : decode cX7_unshiftOnSpace 36 = .ok (.getfield 21, 3) := by decide +kernel
theorem dX7_unshiftOnSpace_39 : decode cX7_unshiftOnSpace 39 = .ok (.aload_n 0, 1) := by decide +kernel
theorem dX7_unshiftOnSpace_40 : decode cX7_unshiftOnSpace 40 = .ok (.getfield 28, 3) := by decide +kernel
theorem dX7_unshiftOnSpace_43 : decode cX7_unshiftOnSpace 43 = .ok (.invokevirtual 99, 3) := by decide +kernel
theorem dX7_unshiftOnSpace_46 : decode cX7_unshiftOnSpace 46 = .ok (.iload_n 2, 1) := by decide +kernel
theorem dX7_unshiftOnSpace_47 : decode cX7_unshiftOnSpace 47 = .ok (.ireturn, 1) := by decide +kernel
theorem dX7_learn_0 : decode cX7_learn 0 = .ok (.aload_n 0, 1) := by decide +kernel
theorem dX7_learn_1 : decode cX7_learn 1 = .ok (.getfield 14, 3) := by decide +kernel
theorem dX7_learn_4 : decode cX7_learn 4 = .ok (.invokestatic 144, 3) := by decide +kernel
theorem dX7_learn_7 : decode cX7_learn 7 = .ok (.istore_n 1, 1) := by decide +kernel
theorem dX7_learn_8 : decode cX7_learn 8 = .ok (.iload_n 1, 1) := by decide +kernel
theorem dX7_learn_9 : decode cX7_learn 9 = .ok (.ifCond .ne 13, 3) := by decide +kernel
theorem dX7_learn_12 : decode cX7_learn 12 = .ok (.new 52, 3) := by decide +kernel
theorem dX7_learn_15 : decode cX7_learn 15 = .ok (.dup, 1) := by decide +kernel
theorem dX7_learn_16 : decode cX7_learn 16 = .ok (.ldc 148, 2) := by decide +kernel
theorem dX7_learn_18 : decode cX7_learn 18 = .ok (.invokespecial 56, 3) := by decide +kernel
theorem dX7_learn_21 : decode cX7_learn 21 = .ok (.athrow, 1) := by decide +kernel
theorem dX7_learn_22 : decode cX7_learn 22 = .ok (.aload_n 0, 1) := by decide +kernel
theorem dX7_learn_23 : decode cX7_learn 23 = .ok (.getfield 28, 3) := by decide +kernel
theorem dX7_learn_26 : decode cX7_learn 26 = .ok (.getfield 150, 3) := by decide +kernel
theorem dX7_learn_29 : decode cX7_learn 29 = .ok (.iload_n 1, 1) := by decide +kernel
theorem dX7_learn_30 : decode cX7_learn 30 = .ok (.invokevirtual 153, 3) := by decide +kernel
theorem dX7_learn_33 : decode cX7_learn 33 = .ok (.iconst (-1), 1) := by decide +kernel
theorem dX7_learn_34 : decode cX7_learn 34 = .ok (.if_icmp .ne 7, 3) := by decide +kernel
theorem dX7_learn_37 : decode cX7_learn 37 = .ok (.iconst 1, 1) := by decide +kernel
theorem dX7_learn_38 : decode cX7_learn 38 = .ok (.goto 4, 3) := by decide +kernel
theorem dX7_learn_41 : decode cX7_learn 41 = .ok (.iconst 0, 1) := by decide +kernel
theorem dX7_learn_42 : decode cX7_learn 42 = .ok (.istore_n 2, 1) := by decide +kernel
theorem dX7_learn_43 : decode cX7_learn 43 = .ok (.iload_n 2, 1) := by decide +kernel
theorem dX7_learn_44 : decode cX7_learn 44 = .ok (.ifCond .eq 22, 3) := by decide +kernel
theorem dX7_learn_47 : decode cX7_learn 47 = .ok (.aload_n 0, 1) := by decide +kernel
theorem dX7_learn_48 : decode cX7_learn 48 = .ok (.invokevirtual 156, 3) := by decide +kernel
theorem dX7_learn_51 : decode cX7_learn 51 = .ok (.bipush 20, 2) := by decide +kernel
theorem dX7_learn_53 : decode cX7_learn 53 = .ok (.if_icmp .lt 13, 3) := by decide +kernel
theorem dX7_learn_56 : decode cX7_learn 56 = .ok (.new 63, 3) := by decide +kernel
theorem dX7_learn_59 : decode cX7_learn 59 = .ok (.dup, 1) := by decide +kernel
theorem dX7_learn_60 : decode cX7_learn 60 = .ok (.ldc 159, 2) := by decide +kernel
theorem dX7_learn_62 : decode cX7_learn 62 = .ok (.invokespecial 67, 3) := by decide +kernel
theorem dX7_learn_65 : decode cX7_learn 65 = .ok (.athrow, 1) := by decide +kernel
theorem dX7_learn_66 : decode cX7_learn 66 = .ok (.aload_n 0, 1) := by decide +kernel
theorem dX7_learn_67 : decode cX7_learn 67 = .ok (.getfield 42, 3) := by decide +kernel
theorem dX7_learn_70 : decode cX7_learn 70 = .ok (.aload_n 0, 1) := by decide +kernel
theorem dX7_learn_71 : decode cX7_learn 71 = .ok (.getfield 21, 3) := by decide +kernel
theorem dX7_learn_74 : decode cX7_learn 74 = .ok (.aload_n 0, 1) := by decide +kernel
theorem dX7_learn_75 : decode cX7_learn 75 = .ok (.getfield 28, 3) := by decide +kernel
theorem dX7_learn_78 : decode cX7_learn 78 = .ok (.invokevirtual 88, 3) := by decide +kernel
theorem dX7_learn_81 : decode cX7_learn 81 = .ok (.iload_n 2, 1) := by decide +kernel
theorem dX7_learn_82 : decode cX7_learn 82 = .ok (.ifCond .eq 14, 3) := by decide +kernel
theorem dX7_learn_85 : decode cX7_learn 85 = .ok (.aload_n 0, 1) := by decide +kernel
theorem dX7_learn_86 : decode cX7_learn 86 = .ok (.getfield 28, 3) := by decide +kernel
theorem dX7_learn_89 : decode cX7_learn 89 = .ok (.getfield 150, 3) := by decide +kernel
theorem dX7_learn_92 : decode cX7_learn 92 = .ok (.iload_n 1, 1) := by decide +kernel
theorem dX7_learn_93 : decode cX7_learn 93 = .ok (.invokevirtual 68, 3) := by decide +kernel
theorem dX7_learn_96 : decode cX7_learn 96 = .ok (.aload_n 0, 1) := by decide +kernel
theorem dX7_learn_97 : decode cX7_learn 97 = .ok (.getfield 14, 3) := by decide +kernel
theorem dX7_learn_100 : decode cX7_learn 100 = .ok (.invokevirtual 71, 3) := by decide +kernel
theorem dX7_learn_103 : decode cX7_learn 103 = .ok (.aload_n 0, 1) := by decide +kernel
theorem dX7_learn_104 : decode cX7_learn 104 = .ok (.getfield 35, 3) := by decide +kernel
theorem dX7_learn_107 : decode cX7_learn 107 = .ok (.aload_n 0, 1) := by decide +kernel
theorem dX7_learn_108 : decode cX7_learn 108 = .ok (.getfield 21, 3) := by decide +kernel
theorem dX7_learn_111 : decode cX7_learn 111 = .ok (.aload_n 0, 1) := by decide +kernel
theorem dX7_learn_112 : decode cX7_learn 112 = .ok (.getfield 28, 3) := by decide +kernel
theorem dX7_learn_115 : decode cX7_learn 115 = .ok (.invokevirtual 99, 3) := by decide +kernel
theorem dX7_learn_118 : decode cX7_learn 118 = .ok (.aload_n 0, 1) := by decide +kernel
theorem dX7_learn_119 : decode cX7_learn 119 = .ok (.invokevirtual 156, 3) := by decide +kernel
theorem dX7_learn_122 : decode cX7_learn 122 = .ok (.ireturn, 1) := by decide +kernel
theorem dX7_forget_0 : decode cX7_forget 0 = .ok (.aload_n 0, 1) := by decide +kernel
theorem dX7_forget_1 : decode cX7_forget 1 = .ok (.getfield 28, 3) := by decide +kernel
theorem dX7_forget_4 : decode cX7_forget 4 = .ok (.getfield 150, 3) := by decide +kernel
theorem dX7_forget_7 : decode cX7_forget 7 = .ok (.iload_n 1, 1) := by decide +kernel
theorem dX7_forget_8 : decode cX7_forget 8 = .ok (.invokevirtual 105, 3) := by decide +kernel
theorem dX7_forget_11 : decode cX7_forget 11 = .ok (.ifCond .ne 13, 3) := by decide +kernel
theorem dX7_forget_14 : decode cX7_forget 14 = .ok (.new 109, 3) := by decide +kernel
theorem dX7_forget_17 : decode cX7_forget 17 = .ok (.dup, 1) := by decide +kernel
theorem dX7_forget_18 : decode cX7_forget 18 = .ok (.ldc 161, 2) := by decide +kernel
theorem dX7_forget_20 : decode cX7_forget 20 = .ok (.invokespecial 113, 3) := by decide +kernel
theorem dX7_forget_23 : decode cX7_forget 23 = .ok (.athrow, 1) := by decide +kernel
theorem dX7_forget_24 : decode cX7_forget 24 = .ok (.aload_n 0, 1) := by decide +kernel
theorem dX7_forget_25 : decode cX7_forget 25 = .ok (.getfield 42, 3) := by decide +kernel
theorem dX7_forget_28 : decode cX7_forget 28 = .ok (.aload_n 0, 1) := by decide +kernel
theorem dX7_forget_29 : decode cX7_forget 29 = .ok (.getfield 21, 3) := by decide +kernel
theorem dX7_forget_32 : decode cX7_forget 32 = .ok (.aload_n 0, 1) := by decide +kernel
theorem dX7_forget_33 : decode cX7_forget 33 = .ok (.getfield 28, 3) := by decide +kernel
theorem dX7_forget_36 : decode cX7_forget 36 = .ok (.invokevirtual 88, 3) := by decide +kernel
theorem dX7_forget_39 : decode cX7_forget 39 = .ok (.aload_n 0, 1) := by decide +kernel
theorem dX7_forget_40 : decode cX7_forget 40 = .ok (.getfield 28, 3) := by decide +kernel
theorem dX7_forget_43 : decode cX7_forget 43 = .ok (.iload_n 1, 1) := by decide +kernel
theorem dX7_forget_44 : decode cX7_forget 44 = .ok (.invokevirtual 163, 3) := by decide +kernel
theorem dX7_forget_47 : decode cX7_forget 47 = .ok (.istore_n 2, 1) := by decide +kernel
theorem dX7_forget_48 : decode cX7_forget 48 = .ok (.aload_n 0, 1) := by decide +kernel
theorem dX7_forget_49 : decode cX7_forget 49 = .ok (.getfield 28, 3) := by decide +kernel
theorem dX7_forget_52 : decode cX7_forget 52 = .ok (.getfield 150, 3) := by decide +kernel
theorem dX7_forget_55 : decode cX7_forget 55 = .ok (.iload_n 1, 1) := by decide +kernel
theorem dX7_forget_56 : decode cX7_forget 56 = .ok (.invokevirtual 166, 3) := by decide +kernel
theorem dX7_forget_59 : decode cX7_forget 59 = .ok (.aload_n 0, 1) := by decide +kernel
theorem dX7_forget_60 : decode cX7_forget 60 = .ok (.getfield 35, 3) := by decide +kernel
theorem dX7_forget_63 : decode cX7_forget 63 = .ok (.aload_n 0, 1) := by decide +kernel
theorem dX7_forget_64 : decode cX7_forget 64 = .ok (.getfield 21, 3) := by decide +kernel
theorem dX7_forget_67 : decode cX7_forget 67 = .ok (.aload_n 0, 1) := by decide +kernel
theorem dX7_forget_68 : decode cX7_forget 68 = .ok (.getfield 28, 3) := by decide +kernel
theorem dX7_forget_71 : decode cX7_forget 71 = .ok (.invokevirtual 99, 3) := by decide +kernel
theorem dX7_forget_74 : decode cX7_forget 74 = .ok (.iload_n 2, 1) := by decide +kernel
theorem dX7_forget_75 : decode cX7_forget 75 = .ok (.ireturn, 1) := by decide +kernel
theorem dX7_words_0 : decode cX7_words 0 = .ok (.aload_n 0, 1) := by decide +kernel
theorem dX7_words_1 : decode cX7_words 1 = .ok (.getfield 28, 3) := by decide +kernel
theorem dX7_words_4 : decode cX7_words 4 = .ok (.getfield 150, 3) := by decide +kernel
theorem dX7_words_7 : decode cX7_words 7 = .ok (.invokevirtual 59, 3) := by decide +kernel
theorem dX7_words_10 : decode cX7_words 10 = .ok (.ireturn, 1) := by decide +kernel
theorem dX7_wordLetter_0 : decode cX7_wordLetter 0 = .ok (.aload_n 0, 1) := by decide +kernel
theorem dX7_wordLetter_1 : decode cX7_wordLetter 1 = .ok (.getfield 28, 3) := by decide +kernel
theorem dX7_wordLetter_4 : decode cX7_wordLetter 4 = .ok (.getfield 150, 3) := by decide +kernel
theorem dX7_wordLetter_7 : decode cX7_wordLetter 7 = .ok (.iload_n 1, 1) := by decide +kernel
theorem dX7_wordLetter_8 : decode cX7_wordLetter 8 = .ok (.invokevirtual 105, 3) := by decide +kernel
theorem dX7_wordLetter_11 : decode cX7_wordLetter 11 = .ok (.ifCond .ne 13, 3) := by decide +kernel
theorem dX7_wordLetter_14 : decode cX7_wordLetter 14 = .ok (.new 109, 3) := by decide +kernel
theorem dX7_wordLetter_17 : decode cX7_wordLetter 17 = .ok (.dup, 1) := by decide +kernel
theorem dX7_wordLetter_18 : decode cX7_wordLetter 18 = .ok (.ldc 169, 2) := by decide +kernel
theorem dX7_wordLetter_20 : decode cX7_wordLetter 20 = .ok (.invokespecial 113, 3) := by decide +kernel
theorem dX7_wordLetter_23 : decode cX7_wordLetter 23 = .ok (.athrow, 1) := by decide +kernel
theorem dX7_wordLetter_24 : decode cX7_wordLetter 24 = .ok (.iload_n 2, 1) := by decide +kernel
theorem dX7_wordLetter_25 : decode cX7_wordLetter 25 = .ok (.ifCond .lt 9, 3) := by decide +kernel
theorem dX7_wordLetter_28 : decode cX7_wordLetter 28 = .ok (.iload_n 2, 1) := by decide +kernel
theorem dX7_wordLetter_29 : decode cX7_wordLetter 29 = .ok (.bipush 6, 2) := by decide +kernel
theorem dX7_wordLetter_31 : decode cX7_wordLetter 31 = .ok (.if_icmp .lt 13, 3) := by decide +kernel
theorem dX7_wordLetter_34 : decode cX7_wordLetter 34 = .ok (.new 109, 3) := by decide +kernel
theorem dX7_wordLetter_37 : decode cX7_wordLetter 37 = .ok (.dup, 1) := by decide +kernel
theorem dX7_wordLetter_38 : decode cX7_wordLetter 38 = .ok (.ldc 171, 2) := by decide +kernel
theorem dX7_wordLetter_40 : decode cX7_wordLetter 40 = .ok (.invokespecial 113, 3) := by decide +kernel
theorem dX7_wordLetter_43 : decode cX7_wordLetter 43 = .ok (.athrow, 1) := by decide +kernel
theorem dX7_wordLetter_44 : decode cX7_wordLetter 44 = .ok (.aload_n 0, 1) := by decide +kernel
theorem dX7_wordLetter_45 : decode cX7_wordLetter 45 = .ok (.getfield 28, 3) := by decide +kernel
theorem dX7_wordLetter_48 : decode cX7_wordLetter 48 = .ok (.iload_n 1, 1) := by decide +kernel
theorem dX7_wordLetter_49 : decode cX7_wordLetter 49 = .ok (.iload_n 2, 1) := by decide +kernel
theorem dX7_wordLetter_50 : decode cX7_wordLetter 50 = .ok (.invokevirtual 173, 3) := by decide +kernel
theorem dX7_wordLetter_53 : decode cX7_wordLetter 53 = .ok (.istore_n 3, 1) := by decide +kernel
theorem dX7_wordLetter_54 : decode cX7_wordLetter 54 = .ok (.iload_n 3, 1) := by decide +kernel
theorem dX7_wordLetter_55 : decode cX7_wordLetter 55 = .ok (.ifCond .ne 7, 3) := by decide +kernel
theorem dX7_wordLetter_58 : decode cX7_wordLetter 58 = .ok (.iconst (-1), 1) := by decide +kernel
theorem dX7_wordLetter_59 : decode cX7_wordLetter 59 = .ok (.goto 8, 3) := by decide +kernel
theorem dX7_wordLetter_62 : decode cX7_wordLetter 62 = .ok (.iload_n 3, 1) := by decide +kernel
theorem dX7_wordLetter_63 : decode cX7_wordLetter 63 = .ok (.iconst 0, 1) := by decide +kernel
theorem dX7_wordLetter_64 : decode cX7_wordLetter 64 = .ok (.invokestatic 177, 3) := by decide +kernel
theorem dX7_wordLetter_67 : decode cX7_wordLetter 67 = .ok (.ireturn, 1) := by decide +kernel
theorem dX7_uses_0 : decode cX7_uses 0 = .ok (.aload_n 0, 1) := by decide +kernel
theorem dX7_uses_1 : decode cX7_uses 1 = .ok (.getfield 28, 3) := by decide +kernel
theorem dX7_uses_4 : decode cX7_uses 4 = .ok (.getfield 150, 3) := by decide +kernel
theorem dX7_uses_7 : decode cX7_uses 7 = .ok (.iload_n 1, 1) := by decide +kernel
theorem dX7_uses_8 : decode cX7_uses 8 = .ok (.invokevirtual 105, 3) := by decide +kernel
theorem dX7_uses_11 : decode cX7_uses 11 = .ok (.ifCond .ne 13, 3) := by decide +kernel
theorem dX7_uses_14 : decode cX7_uses 14 = .ok (.new 109, 3) := by decide +kernel
theorem dX7_uses_17 : decode cX7_uses 17 = .ok (.dup, 1) := by decide +kernel
theorem dX7_uses_18 : decode cX7_uses 18 = .ok (.ldc 169, 2) := by decide +kernel
theorem dX7_uses_20 : decode cX7_uses 20 = .ok (.invokespecial 113, 3) := by decide +kernel
theorem dX7_uses_23 : decode cX7_uses 23 = .ok (.athrow, 1) := by decide +kernel
theorem dX7_uses_24 : decode cX7_uses 24 = .ok (.aload_n 0, 1) := by decide +kernel
theorem dX7_uses_25 : decode cX7_uses 25 = .ok (.getfield 35, 3) := by decide +kernel
theorem dX7_uses_28 : decode cX7_uses 28 = .ok (.getfield 180, 3) := by decide +kernel
theorem dX7_uses_31 : decode cX7_uses 31 = .ok (.iload_n 1, 1) := by decide +kernel
theorem dX7_uses_32 : decode cX7_uses 32 = .ok (.invokevirtual 137, 3) := by decide +kernel
theorem dX7_uses_35 : decode cX7_uses 35 = .ok (.ireturn, 1) := by decide +kernel
theorem dX7_printedLength_0 : decode cX7_printedLength 0 = .ok (.aload_n 0, 1) := by decide +kernel
theorem dX7_printedLength_1 : decode cX7_printedLength 1 = .ok (.getfield 35, 3) := by decide +kernel
theorem dX7_printedLength_4 : decode cX7_printedLength 4 = .ok (.getfield 181, 3) := by decide +kernel
theorem dX7_printedLength_7 : decode cX7_printedLength 7 = .ok (.invokevirtual 59, 3) := by decide +kernel
theorem dX7_printedLength_10 : decode cX7_printedLength 10 = .ok (.ireturn, 1) := by decide +kernel
theorem dX7_printed_0 : decode cX7_printed 0 = .ok (.aload_n 0, 1) := by decide +kernel
theorem dX7_printed_1 : decode cX7_printed 1 = .ok (.getfield 35, 3) := by decide +kernel
theorem dX7_printed_4 : decode cX7_printed 4 = .ok (.getfield 181, 3) := by decide +kernel
theorem dX7_printed_7 : decode cX7_printed 7 = .ok (.iload_n 1, 1) := by decide +kernel
theorem dX7_printed_8 : decode cX7_printed 8 = .ok (.invokevirtual 105, 3) := by decide +kernel
theorem dX7_printed_11 : decode cX7_printed 11 = .ok (.ifCond .ne 13, 3) := by decide +kernel
theorem dX7_printed_14 : decode cX7_printed 14 = .ok (.new 109, 3) := by decide +kernel
theorem dX7_printed_17 : decode cX7_printed 17 = .ok (.dup, 1) := by decide +kernel
theorem dX7_printed_18 : decode cX7_printed 18 = .ok (.ldc 184, 2) := by decide +kernel
theorem dX7_printed_20 : decode cX7_printed 20 = .ok (.invokespecial 113, 3) := by decide +kernel
theorem dX7_printed_23 : decode cX7_printed 23 = .ok (.athrow, 1) := by decide +kernel
theorem dX7_printed_24 : decode cX7_printed 24 = .ok (.aload_n 0, 1) := by decide +kernel
theorem dX7_printed_25 : decode cX7_printed 25 = .ok (.getfield 35, 3) := by decide +kernel
theorem dX7_printed_28 : decode cX7_printed 28 = .ok (.getfield 181, 3) := by decide +kernel
theorem dX7_printed_31 : decode cX7_printed 31 = .ok (.iload_n 1, 1) := by decide +kernel
theorem dX7_printed_32 : decode cX7_printed 32 = .ok (.invokevirtual 116, 3) := by decide +kernel
theorem dX7_printed_35 : decode cX7_printed 35 = .ok (.ireturn, 1) := by decide +kernel
theorem dX7_segments_0 : decode cX7_segments 0 = .ok (.aload_n 0, 1) := by decide +kernel
theorem dX7_segments_1 : decode cX7_segments 1 = .ok (.getfield 35, 3) := by decide +kernel
theorem dX7_segments_4 : decode cX7_segments 4 = .ok (.getfield 186, 3) := by decide +kernel
theorem dX7_segments_7 : decode cX7_segments 7 = .ok (.invokevirtual 59, 3) := by decide +kernel
theorem dX7_segments_10 : decode cX7_segments 10 = .ok (.ireturn, 1) := by decide +kernel
theorem dX7_segmentLength_0 : decode cX7_segmentLength 0 = .ok (.aload_n 0, 1) := by decide +kernel
theorem dX7_segmentLength_1 : decode cX7_segmentLength 1 = .ok (.getfield 35, 3) := by decide +kernel
theorem dX7_segmentLength_4 : decode cX7_segmentLength 4 = .ok (.getfield 189, 3) := by decide +kernel
theorem dX7_segmentLength_7 : decode cX7_segmentLength 7 = .ok (.iload_n 1, 1) := by decide +kernel
theorem dX7_segmentLength_8 : decode cX7_segmentLength 8 = .ok (.invokevirtual 105, 3) := by decide +kernel
theorem dX7_segmentLength_11 : decode cX7_segmentLength 11 = .ok (.ifCond .ne 13, 3) := by decide +kernel
theorem dX7_segmentLength_14 : decode cX7_segmentLength 14 = .ok (.new 109, 3) := by decide +kernel
theorem dX7_segmentLength_17 : decode cX7_segmentLength 17 = .ok (.dup, 1) := by decide +kernel
theorem dX7_segmentLength_18 : decode cX7_segmentLength 18 = .ok (.ldc 192, 2) := by decide +kernel
theorem dX7_segmentLength_20 : decode cX7_segmentLength 20 = .ok (.invokespecial 113, 3) := by decide +kernel
theorem dX7_segmentLength_23 : decode cX7_segmentLength 23 = .ok (.athrow, 1) := by decide +kernel
theorem dX7_segmentLength_24 : decode cX7_segmentLength 24 = .ok (.aload_n 0, 1) := by decide +kernel
theorem dX7_segmentLength_25 : decode cX7_segmentLength 25 = .ok (.getfield 35, 3) := by decide +kernel
theorem dX7_segmentLength_28 : decode cX7_segmentLength 28 = .ok (.getfield 189, 3) := by decide +kernel
theorem dX7_segmentLength_31 : decode cX7_segmentLength 31 = .ok (.iload_n 1, 1) := by decide +kernel
theorem dX7_segmentLength_32 : decode cX7_segmentLength 32 = .ok (.invokevirtual 116, 3) := by decide +kernel
theorem dX7_segmentLength_35 : decode cX7_segmentLength 35 = .ok (.ireturn, 1) := by decide +kernel
theorem dX7_segmentKind_0 : decode cX7_segmentKind 0 = .ok (.aload_n 0, 1) := by decide +kernel
theorem dX7_segmentKind_1 : decode cX7_segmentKind 1 = .ok (.getfield 35, 3) := by decide +kernel
theorem dX7_segmentKind_4 : decode cX7_segmentKind 4 = .ok (.getfield 186, 3) := by decide +kernel
theorem dX7_segmentKind_7 : decode cX7_segmentKind 7 = .ok (.iload_n 1, 1) := by decide +kernel
theorem dX7_segmentKind_8 : decode cX7_segmentKind 8 = .ok (.invokevirtual 105, 3) := by decide +kernel
theorem dX7_segmentKind_11 : decode cX7_segmentKind 11 = .ok (.ifCond .ne 13, 3) := by decide +kernel
theorem dX7_segmentKind_14 : decode cX7_segmentKind 14 = .ok (.new 109, 3) := by decide +kernel
theorem dX7_segmentKind_17 : decode cX7_segmentKind 17 = .ok (.dup, 1) := by decide +kernel
theorem dX7_segmentKind_18 : decode cX7_segmentKind 18 = .ok (.ldc 192, 2) := by decide +kernel
theorem dX7_segmentKind_20 : decode cX7_segmentKind 20 = .ok (.invokespecial 113, 3) := by decide +kernel
theorem dX7_segmentKind_23 : decode cX7_segmentKind 23 = .ok (.athrow, 1) := by decide +kernel
theorem dX7_segmentKind_24 : decode cX7_segmentKind 24 = .ok (.aload_n 0, 1) := by decide +kernel
theorem dX7_segmentKind_25 : decode cX7_segmentKind 25 = .ok (.getfield 35, 3) := by decide +kernel
theorem dX7_segmentKind_28 : decode cX7_segmentKind 28 = .ok (.getfield 186, 3) := by decide +kernel
theorem dX7_segmentKind_31 : decode cX7_segmentKind 31 = .ok (.iload_n 1, 1) := by decide +kernel
theorem dX7_segmentKind_32 : decode cX7_segmentKind 32 = .ok (.invokevirtual 116, 3) := by decide +kernel
theorem dX7_segmentKind_35 : decode cX7_segmentKind 35 = .ok (.ireturn, 1) := by decide +kernel
theorem dX7_guesses_0 : decode cX7_guesses 0 = .ok (.aload_n 0, 1) := by decide +kernel
theorem dX7_guesses_1 : decode cX7_guesses 1 = .ok (.getfield 35, 3) := by decide +kernel
theorem dX7_guesses_4 : decode cX7_guesses 4 = .ok (.getfield 186, 3) := by decide +kernel
theorem dX7_guesses_7 : decode cX7_guesses 7 = .ok (.iconst 2, 1) := by decide +kernel
theorem dX7_guesses_8 : decode cX7_guesses 8 = .ok (.invokevirtual 137, 3) := by decide +kernel
theorem dX7_guesses_11 : decode cX7_guesses 11 = .ok (.aload_n 0, 1) := by decide +kernel
theorem dX7_guesses_12 : decode cX7_guesses 12 = .ok (.getfield 35, 3) := by decide +kernel
theorem dX7_guesses_15 : decode cX7_guesses 15 = .ok (.getfield 186, 3) := by decide +kernel
theorem dX7_guesses_18 : decode cX7_guesses 18 = .ok (.iconst 3, 1) := by decide +kernel
theorem dX7_guesses_19 : decode cX7_guesses 19 = .ok (.invokevirtual 137, 3) := by decide +kernel
theorem dX7_guesses_22 : decode cX7_guesses 22 = .ok (.iadd, 1) := by decide +kernel
theorem dX7_guesses_23 : decode cX7_guesses 23 = .ok (.ireturn, 1) := by decide +kernel
theorem dX7_doubtful_0 : decode cX7_doubtful 0 = .ok (.aload_n 0, 1) := by decide +kernel
theorem dX7_doubtful_1 : decode cX7_doubtful 1 = .ok (.getfield 35, 3) := by decide +kernel
theorem dX7_doubtful_4 : decode cX7_doubtful 4 = .ok (.getfield 186, 3) := by decide +kernel
theorem dX7_doubtful_7 : decode cX7_doubtful 7 = .ok (.iconst 4, 1) := by decide +kernel
theorem dX7_doubtful_8 : decode cX7_doubtful 8 = .ok (.invokevirtual 137, 3) := by decide +kernel
theorem dX7_doubtful_11 : decode cX7_doubtful 11 = .ok (.aload_n 0, 1) := by decide +kernel
theorem dX7_doubtful_12 : decode cX7_doubtful 12 = .ok (.getfield 35, 3) := by decide +kernel
theorem dX7_doubtful_15 : decode cX7_doubtful 15 = .ok (.getfield 186, 3) := by decide +kernel
theorem dX7_doubtful_18 : decode cX7_doubtful 18 = .ok (.iconst 5, 1) := by decide +kernel
theorem dX7_doubtful_19 : decode cX7_doubtful 19 = .ok (.invokevirtual 137, 3) := by decide +kernel
theorem dX7_doubtful_22 : decode cX7_doubtful 22 = .ok (.iadd, 1) := by decide +kernel
theorem dX7_doubtful_23 : decode cX7_doubtful 23 = .ok (.ireturn, 1) := by decide +kernel
theorem dX7_bells_0 : decode cX7_bells 0 = .ok (.aload_n 0, 1) := by decide +kernel
theorem dX7_bells_1 : decode cX7_bells 1 = .ok (.getfield 35, 3) := by decide +kernel
theorem dX7_bells_4 : decode cX7_bells 4 = .ok (.getfield 194, 3) := by decide +kernel
theorem dX7_bells_7 : decode cX7_bells 7 = .ok (.ireturn, 1) := by decide +kernel
theorem dX7_questions_0 : decode cX7_questions 0 = .ok (.aload_n 0, 1) := by decide +kernel
theorem dX7_questions_1 : decode cX7_questions 1 = .ok (.getfield 35, 3) := by decide +kernel
theorem dX7_questions_4 : decode cX7_questions 4 = .ok (.getfield 197, 3) := by decide +kernel
theorem dX7_questions_7 : decode cX7_questions 7 = .ok (.ireturn, 1) := by decide +kernel
theorem dX7_receiverShift_0 : decode cX7_receiverShift 0 = .ok (.aload_n 0, 1) := by decide +kernel
theorem dX7_receiverShift_1 : decode cX7_receiverShift 1 = .ok (.getfield 35, 3) := by decide +kernel
theorem dX7_receiverShift_4 : decode cX7_receiverShift 4 = .ok (.getfield 200, 3) := by decide +kernel
theorem dX7_receiverShift_7 : decode cX7_receiverShift 7 = .ok (.ireturn, 1) := by decide +kernel
theorem dX7_wrongCharacters_0 : decode cX7_wrongCharacters 0 = .ok (.aload_n 0, 1) := by decide +kernel
theorem dX7_wrongCharacters_1 : decode cX7_wrongCharacters 1 = .ok (.getfield 35, 3) := by decide +kernel
theorem dX7_wrongCharacters_4 : decode cX7_wrongCharacters 4 = .ok (.getfield 181, 3) := by decide +kernel
theorem dX7_wrongCharacters_7 : decode cX7_wrongCharacters 7 = .ok (.astore_n 1, 1) := by decide +kernel
theorem dX7_wrongCharacters_8 : decode cX7_wrongCharacters 8 = .ok (.aload_n 0, 1) := by decide +kernel
theorem dX7_wrongCharacters_9 : decode cX7_wrongCharacters 9 = .ok (.getfield 21, 3) := by decide +kernel
theorem dX7_wrongCharacters_12 : decode cX7_wrongCharacters 12 = .ok (.getfield 201, 3) := by decide +kernel
theorem dX7_wrongCharacters_15 : decode cX7_wrongCharacters 15 = .ok (.astore_n 2, 1) := by decide +kernel
theorem dX7_wrongCharacters_16 : decode cX7_wrongCharacters 16 = .ok (.aload_n 1, 1) := by decide +kernel
theorem dX7_wrongCharacters_17 : decode cX7_wrongCharacters 17 = .ok (.invokevirtual 59, 3) := by decide +kernel
theorem dX7_wrongCharacters_20 : decode cX7_wrongCharacters 20 = .ok (.aload_n 2, 1) := by decide +kernel
theorem dX7_wrongCharacters_21 : decode cX7_wrongCharacters 21 = .ok (.invokevirtual 59, 3) := by decide +kernel
theorem dX7_wrongCharacters_24 : decode cX7_wrongCharacters 24 = .ok (.invokestatic 204, 3) := by decide +kernel
theorem dX7_wrongCharacters_27 : decode cX7_wrongCharacters 27 = .ok (.istore_n 3, 1) := by decide +kernel
theorem dX7_wrongCharacters_28 : decode cX7_wrongCharacters 28 = .ok (.aload_n 1, 1) := by decide +kernel
theorem dX7_wrongCharacters_29 : decode cX7_wrongCharacters 29 = .ok (.invokevirtual 59, 3) := by decide +kernel
theorem dX7_wrongCharacters_32 : decode cX7_wrongCharacters 32 = .ok (.aload_n 2, 1) := by decide +kernel
theorem dX7_wrongCharacters_33 : decode cX7_wrongCharacters 33 = .ok (.invokevirtual 59, 3) := by decide +kernel
theorem dX7_wrongCharacters_36 : decode cX7_wrongCharacters 36 = .ok (.invokestatic 209, 3) := by decide +kernel
theorem dX7_wrongCharacters_39 : decode cX7_wrongCharacters 39 = .ok (.iload_n 3, 1) := by decide +kernel
theorem dX7_wrongCharacters_40 : decode cX7_wrongCharacters 40 = .ok (.isub, 1) := by decide +kernel
theorem dX7_wrongCharacters_41 : decode cX7_wrongCharacters 41 = .ok (.istore 4, 2) := by decide +kernel
theorem dX7_wrongCharacters_43 : decode cX7_wrongCharacters 43 = .ok (.iconst 0, 1) := by decide +kernel
theorem dX7_wrongCharacters_44 : decode cX7_wrongCharacters 44 = .ok (.istore 5, 2) := by decide +kernel
theorem dX7_wrongCharacters_46 : decode cX7_wrongCharacters 46 = .ok (.iload 5, 2) := by decide +kernel
theorem dX7_wrongCharacters_48 : decode cX7_wrongCharacters 48 = .ok (.iload_n 3, 1) := by decide +kernel
theorem dX7_wrongCharacters_49 : decode cX7_wrongCharacters 49 = .ok (.if_icmp .ge 27, 3) := by decide +kernel
theorem dX7_wrongCharacters_52 : decode cX7_wrongCharacters 52 = .ok (.aload_n 1, 1) := by decide +kernel
theorem dX7_wrongCharacters_53 : decode cX7_wrongCharacters 53 = .ok (.iload 5, 2) := by decide +kernel
theorem dX7_wrongCharacters_55 : decode cX7_wrongCharacters 55 = .ok (.invokevirtual 116, 3) := by decide +kernel
theorem dX7_wrongCharacters_58 : decode cX7_wrongCharacters 58 = .ok (.aload_n 2, 1) := by decide +kernel
theorem dX7_wrongCharacters_59 : decode cX7_wrongCharacters 59 = .ok (.iload 5, 2) := by decide +kernel
theorem dX7_wrongCharacters_61 : decode cX7_wrongCharacters 61 = .ok (.invokevirtual 116, 3) := by decide +kernel
theorem dX7_wrongCharacters_64 : decode cX7_wrongCharacters 64 = .ok (.if_icmp .eq 6, 3) := by decide +kernel
theorem dX7_wrongCharacters_67 : decode cX7_wrongCharacters 67 = .ok (.iinc 4 1, 3) := by decide +kernel
theorem dX7_wrongCharacters_70 : decode cX7_wrongCharacters 70 = .ok (.iinc 5 1, 3) := by decide +kernel
theorem dX7_wrongCharacters_73 : decode cX7_wrongCharacters 73 = .ok (.goto (-27), 3) := by decide +kernel
theorem dX7_wrongCharacters_76 : decode cX7_wrongCharacters 76 = .ok (.iload 4, 2) := by decide +kernel
theorem dX7_wrongCharacters_78 : decode cX7_wrongCharacters 78 = .ok (.ireturn, 1) := by decide +kernel
theorem dX7_plausibility_0 : decode cX7_plausibility 0 = .ok (.aload_n 0, 1) := by decide +kernel
theorem dX7_plausibility_1 : decode cX7_plausibility 1 = .ok (.invokevirtual 212, 3) := by decide +kernel
theorem dX7_plausibility_4 : decode cX7_plausibility 4 = .ok (.istore_n 1, 1) := by decide +kernel
theorem dX7_plausibility_5 : decode cX7_plausibility 5 = .ok (.iload_n 1, 1) := by decide +kernel
theorem dX7_plausibility_6 : decode cX7_plausibility 6 = .ok (.ifCond .ne 5, 3) := by decide +kernel
theorem dX7_plausibility_9 : decode cX7_plausibility 9 = .ok (.dconst 1, 1) := by decide +kernel
theorem dX7_plausibility_10 : decode cX7_plausibility 10 = .ok (.dreturn, 1) := by decide +kernel
theorem dX7_plausibility_11 : decode cX7_plausibility 11 = .ok (.iload_n 1, 1) := by decide +kernel
theorem dX7_plausibility_12 : decode cX7_plausibility 12 = .ok (.aload_n 0, 1) := by decide +kernel
theorem dX7_plausibility_13 : decode cX7_plausibility 13 = .ok (.invokevirtual 215, 3) := by decide +kernel
theorem dX7_plausibility_16 : decode cX7_plausibility 16 = .ok (.isub, 1) := by decide +kernel
theorem dX7_plausibility_17 : decode cX7_plausibility 17 = .ok (.i2d, 1) := by decide +kernel
theorem dX7_plausibility_18 : decode cX7_plausibility 18 = .ok (.iload_n 1, 1) := by decide +kernel
theorem dX7_plausibility_19 : decode cX7_plausibility 19 = .ok (.i2d, 1) := by decide +kernel
theorem dX7_plausibility_20 : decode cX7_plausibility 20 = .ok (.ddiv, 1) := by decide +kernel
