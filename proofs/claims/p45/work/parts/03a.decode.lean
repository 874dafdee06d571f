/-! decode rows -/
theorem dX0_init_0 : decode cX0_init 0 = .ok (.aload_n 0, 1) := by decide +kernel
theorem dX0_init_1 : decode cX0_init 1 = .ok (.invokespecial 1, 3) := by decide +kernel
theorem dX0_init_4 : decode cX0_init 4 = .ok (.aload_n 0, 1) := by decide +kernel
theorem dX0_init_5 : decode cX0_init 5 = .ok (.iload_n 1, 1) := by decide +kernel
theorem dX0_init_6 : decode cX0_init 6 = .ok (.ifCond .ge 7, 3) := by decide +kernel
theorem dX0_init_9 : decode cX0_init 9 = .ok (.iconst 0, 1) := by decide +kernel
theorem dX0_init_10 : decode cX0_init 10 = .ok (.goto 4, 3) := by decide +kernel
theorem dX0_init_13 : decode cX0_init 13 = .ok (.iload_n 1, 1) := by decide +kernel
theorem dX0_init_14 : decode cX0_init 14 = .ok (.newarray .int, 2) := by decide +kernel
theorem dX0_init_16 : decode cX0_init 16 = .ok (.putfield 7, 3) := by decide +kernel
theorem dX0_init_19 : decode cX0_init 19 = .ok (.return_, 1) := by decide +kernel
theorem dX0_get_0 : decode cX0_get 0 = .ok (.iload_n 1, 1) := by decide +kernel
theorem dX0_get_1 : decode cX0_get 1 = .ok (.ifCond .lt 21, 3) := by decide +kernel
theorem dX0_get_4 : decode cX0_get 4 = .ok (.iload_n 1, 1) := by decide +kernel
theorem dX0_get_5 : decode cX0_get 5 = .ok (.aload_n 0, 1) := by decide +kernel
theorem dX0_get_6 : decode cX0_get 6 = .ok (.getfield 7, 3) := by decide +kernel
theorem dX0_get_9 : decode cX0_get 9 = .ok (.arraylength, 1) := by decide +kernel
theorem dX0_get_10 : decode cX0_get 10 = .ok (.if_icmp .ge 12, 3) := by decide +kernel
theorem dX0_get_13 : decode cX0_get 13 = .ok (.aload_n 0, 1) := by decide +kernel
theorem dX0_get_14 : decode cX0_get 14 = .ok (.getfield 7, 3) := by decide +kernel
theorem dX0_get_17 : decode cX0_get 17 = .ok (.iload_n 1, 1) := by decide +kernel
theorem dX0_get_18 : decode cX0_get 18 = .ok (.iaload, 1) := by decide +kernel
theorem dX0_get_19 : decode cX0_get 19 = .ok (.goto 4, 3) := by decide +kernel
theorem dX0_get_22 : decode cX0_get 22 = .ok (.iconst 0, 1) := by decide +kernel
theorem dX0_get_23 : decode cX0_get 23 = .ok (.ireturn, 1) := by decide +kernel
theorem dX0_set_0 : decode cX0_set 0 = .ok (.iload_n 1, 1) := by decide +kernel
theorem dX0_set_1 : decode cX0_set 1 = .ok (.ifCond .lt 19, 3) := by decide +kernel
theorem dX0_set_4 : decode cX0_set 4 = .ok (.iload_n 1, 1) := by decide +kernel
theorem dX0_set_5 : decode cX0_set 5 = .ok (.aload_n 0, 1) := by decide +kernel
theorem dX0_set_6 : decode cX0_set 6 = .ok (.getfield 7, 3) := by decide +kernel
theorem dX0_set_9 : decode cX0_set 9 = .ok (.arraylength, 1) := by decide +kernel
theorem dX0_set_10 : decode cX0_set 10 = .ok (.if_icmp .ge 10, 3) := by decide +kernel
theorem dX0_set_13 : decode cX0_set 13 = .ok (.aload_n 0, 1) := by decide +kernel
theorem dX0_set_14 : decode cX0_set 14 = .ok (.getfield 7, 3) := by decide +kernel
theorem dX0_set_17 : decode cX0_set 17 = .ok (.iload_n 1, 1) := by decide +kernel
theorem dX0_set_18 : decode cX0_set 18 = .ok (.iload_n 2, 1) := by decide +kernel
theorem dX0_set_19 : decode cX0_set 19 = .ok (.iastore, 1) := by decide +kernel
theorem dX0_set_20 : decode cX0_set 20 = .ok (.return_, 1) := by decide +kernel
theorem dX0_sum_0 : decode cX0_sum 0 = .ok (.iconst 0, 1) := by decide +kernel
theorem dX0_sum_1 : decode cX0_sum 1 = .ok (.istore_n 2, 1) := by decide +kernel
theorem dX0_sum_2 : decode cX0_sum 2 = .ok (.iconst 0, 1) := by decide +kernel
theorem dX0_sum_3 : decode cX0_sum 3 = .ok (.istore_n 3, 1) := by decide +kernel
theorem dX0_sum_4 : decode cX0_sum 4 = .ok (.iload_n 3, 1) := by decide +kernel
theorem dX0_sum_5 : decode cX0_sum 5 = .ok (.iload_n 1, 1) := by decide +kernel
theorem dX0_sum_6 : decode cX0_sum 6 = .ok (.if_icmp .ge 27, 3) := by decide +kernel
theorem dX0_sum_9 : decode cX0_sum 9 = .ok (.iload_n 3, 1) := by decide +kernel
theorem dX0_sum_10 : decode cX0_sum 10 = .ok (.aload_n 0, 1) := by decide +kernel
theorem dX0_sum_11 : decode cX0_sum 11 = .ok (.getfield 7, 3) := by decide +kernel
theorem dX0_sum_14 : decode cX0_sum 14 = .ok (.arraylength, 1) := by decide +kernel
theorem dX0_sum_15 : decode cX0_sum 15 = .ok (.if_icmp .ge 18, 3) := by decide +kernel
theorem dX0_sum_18 : decode cX0_sum 18 = .ok (.iload_n 2, 1) := by decide +kernel
theorem dX0_sum_19 : decode cX0_sum 19 = .ok (.aload_n 0, 1) := by decide +kernel
theorem dX0_sum_20 : decode cX0_sum 20 = .ok (.getfield 7, 3) := by decide +kernel
theorem dX0_sum_23 : decode cX0_sum 23 = .ok (.iload_n 3, 1) := by decide +kernel
theorem dX0_sum_24 : decode cX0_sum 24 = .ok (.iaload, 1) := by decide +kernel
theorem dX0_sum_25 : decode cX0_sum 25 = .ok (.iadd, 1) := by decide +kernel
theorem dX0_sum_26 : decode cX0_sum 26 = .ok (.istore_n 2, 1) := by decide +kernel
theorem dX0_sum_27 : decode cX0_sum 27 = .ok (.iinc 3 1, 3) := by decide +kernel
theorem dX0_sum_30 : decode cX0_sum 30 = .ok (.goto (-26), 3) := by decide +kernel
theorem dX0_sum_33 : decode cX0_sum 33 = .ok (.iload_n 2, 1) := by decide +kernel
theorem dX0_sum_34 : decode cX0_sum 34 = .ok (.ireturn, 1) := by decide +kernel
theorem dX0_take_0 : decode cX0_take 0 = .ok (.iconst 0, 1) := by decide +kernel
theorem dX0_take_1 : decode cX0_take 1 = .ok (.istore_n 2, 1) := by decide +kernel
theorem dX0_take_2 : decode cX0_take 2 = .ok (.iload_n 2, 1) := by decide +kernel
theorem dX0_take_3 : decode cX0_take 3 = .ok (.aload_n 0, 1) := by decide +kernel
theorem dX0_take_4 : decode cX0_take 4 = .ok (.getfield 7, 3) := by decide +kernel
theorem dX0_take_7 : decode cX0_take 7 = .ok (.arraylength, 1) := by decide +kernel
theorem dX0_take_8 : decode cX0_take 8 = .ok (.if_icmp .ge 20, 3) := by decide +kernel
theorem dX0_take_11 : decode cX0_take 11 = .ok (.aload_n 0, 1) := by decide +kernel
theorem dX0_take_12 : decode cX0_take 12 = .ok (.getfield 7, 3) := by decide +kernel
theorem dX0_take_15 : decode cX0_take 15 = .ok (.iload_n 2, 1) := by decide +kernel
theorem dX0_take_16 : decode cX0_take 16 = .ok (.aload_n 1, 1) := by decide +kernel
theorem dX0_take_17 : decode cX0_take 17 = .ok (.iload_n 2, 1) := by decide +kernel
theorem dX0_take_18 : decode cX0_take 18 = .ok (.invokevirtual 13, 3) := by decide +kernel
theorem dX0_take_21 : decode cX0_take 21 = .ok (.iastore, 1) := by decide +kernel
theorem dX0_take_22 : decode cX0_take 22 = .ok (.iinc 2 1, 3) := by decide +kernel
theorem dX0_take_25 : decode cX0_take 25 = .ok (.goto (-23), 3) := by decide +kernel
theorem dX0_take_28 : decode cX0_take 28 = .ok (.return_, 1) := by decide +kernel
theorem dX1_init_0 : decode cX1_init 0 = .ok (.aload_n 0, 1) := by decide +kernel
theorem dX1_init_1 : decode cX1_init 1 = .ok (.invokespecial 3, 3) := by decide +kernel
theorem dX1_init_4 : decode cX1_init 4 = .ok (.aload_n 0, 1) := by decide +kernel
theorem dX1_init_5 : decode cX1_init 5 = .ok (.iconst 0, 1) := by decide +kernel
theorem dX1_init_6 : decode cX1_init 6 = .ok (.putfield 9, 3) := by decide +kernel
theorem dX1_init_9 : decode cX1_init 9 = .ok (.aload_n 0, 1) := by decide +kernel
theorem dX1_init_10 : decode cX1_init 10 = .ok (.iconst 0, 1) := by decide +kernel
theorem dX1_init_11 : decode cX1_init 11 = .ok (.putfield 15, 3) := by decide +kernel
theorem dX1_init_14 : decode cX1_init 14 = .ok (.aload_n 0, 1) := by decide +kernel
theorem dX1_init_15 : decode cX1_init 15 = .ok (.iconst 0, 1) := by decide +kernel
theorem dX1_init_16 : decode cX1_init 16 = .ok (.putfield 18, 3) := by decide +kernel
theorem dX1_init_19 : decode cX1_init 19 = .ok (.aload_n 0, 1) := by decide +kernel
theorem dX1_init_20 : decode cX1_init 20 = .ok (.iconst 0, 1) := by decide +kernel
theorem dX1_init_21 : decode cX1_init 21 = .ok (.putfield 21, 3) := by decide +kernel
theorem dX1_init_24 : decode cX1_init 24 = .ok (.aload_n 0, 1) := by decide +kernel
theorem dX1_init_25 : decode cX1_init 25 = .ok (.new 24, 3) := by decide +kernel
theorem dX1_init_28 : decode cX1_init 28 = .ok (.dup, 1) := by decide +kernel
theorem dX1_init_29 : decode cX1_init 29 = .ok (.bipush 6, 2) := by decide +kernel
theorem dX1_init_31 : decode cX1_init 31 = .ok (.invokespecial 26, 3) := by decide +kernel
theorem dX1_init_34 : decode cX1_init 34 = .ok (.putfield 29, 3) := by decide +kernel
theorem dX1_init_37 : decode cX1_init 37 = .ok (.aload_n 0, 1) := by decide +kernel
theorem dX1_init_38 : decode cX1_init 38 = .ok (.new 24, 3) := by decide +kernel
theorem dX1_init_41 : decode cX1_init 41 = .ok (.dup, 1) := by decide +kernel
theorem dX1_init_42 : decode cX1_init 42 = .ok (.bipush 6, 2) := by decide +kernel
theorem dX1_init_44 : decode cX1_init 44 = .ok (.invokespecial 26, 3) := by decide +kernel
theorem dX1_init_47 : decode cX1_init 47 = .ok (.putfield 33, 3) := by decide +kernel
theorem dX1_init_50 : decode cX1_init 50 = .ok (.aload_n 0, 1) := by decide +kernel
theorem dX1_init_51 : decode cX1_init 51 = .ok (.new 24, 3) := by decide +kernel
theorem dX1_init_54 : decode cX1_init 54 = .ok (.dup, 1) := by decide +kernel
theorem dX1_init_55 : decode cX1_init 55 = .ok (.bipush 6, 2) := by decide +kernel
theorem dX1_init_57 : decode cX1_init 57 = .ok (.invokespecial 26, 3) := by decide +kernel
theorem dX1_init_60 : decode cX1_init 60 = .ok (.putfield 36, 3) := by decide +kernel
theorem dX1_init_63 : decode cX1_init 63 = .ok (.aload_n 0, 1) := by decide +kernel
theorem dX1_init_64 : decode cX1_init 64 = .ok (.new 24, 3) := by decide +kernel
theorem dX1_init_67 : decode cX1_init 67 = .ok (.dup, 1) := by decide +kernel
theorem dX1_init_68 : decode cX1_init 68 = .ok (.bipush 6, 2) := by decide +kernel
theorem dX1_init_70 : decode cX1_init 70 = .ok (.invokespecial 26, 3) := by decide +kernel
theorem dX1_init_73 : decode cX1_init 73 = .ok (.putfield 39, 3) := by decide +kernel
theorem dX1_init_76 : decode cX1_init 76 = .ok (.aload_n 0, 1) := by decide +kernel
theorem dX1_init_77 : decode cX1_init 77 = .ok (.new 24, 3) := by decide +kernel
theorem dX1_init_80 : decode cX1_init 80 = .ok (.dup, 1) := by decide +kernel
theorem dX1_init_81 : decode cX1_init 81 = .ok (.bipush 40, 2) := by decide +kernel
theorem dX1_init_83 : decode cX1_init 83 = .ok (.invokespecial 26, 3) := by decide +kernel
theorem dX1_init_86 : decode cX1_init 86 = .ok (.putfield 42, 3) := by decide +kernel
theorem dX1_init_89 : decode cX1_init 89 = .ok (.aload_n 0, 1) := by decide +kernel
theorem dX1_init_90 : decode cX1_init 90 = .ok (.new 24, 3) := by decide +kernel
theorem dX1_init_93 : decode cX1_init 93 = .ok (.dup, 1) := by decide +kernel
theorem dX1_init_94 : decode cX1_init 94 = .ok (.bipush 40, 2) := by decide +kernel
theorem dX1_init_96 : decode cX1_init 96 = .ok (.invokespecial 26, 3) := by decide +kernel
theorem dX1_init_99 : decode cX1_init 99 = .ok (.putfield 45, 3) := by decide +kernel
theorem dX1_init_102 : decode cX1_init 102 = .ok (.return_, 1) := by decide +kernel
theorem dX1_clear_0 : decode cX1_clear 0 = .ok (.aload_n 0, 1) := by decide +kernel
theorem dX1_clear_1 : decode cX1_clear 1 = .ok (.iconst 0, 1) := by decide +kernel
theorem dX1_clear_2 : decode cX1_clear 2 = .ok (.putfield 9, 3) := by decide +kernel
theorem dX1_clear_5 : decode cX1_clear 5 = .ok (.aload_n 0, 1) := by decide +kernel
theorem dX1_clear_6 : decode cX1_clear 6 = .ok (.iconst 0, 1) := by decide +kernel
theorem dX1_clear_7 : decode cX1_clear 7 = .ok (.putfield 15, 3) := by decide +kernel
theorem dX1_clear_10 : decode cX1_clear 10 = .ok (.aload_n 0, 1) := by decide +kernel
theorem dX1_clear_11 : decode cX1_clear 11 = .ok (.iconst 0, 1) := by decide +kernel
theorem dX1_clear_12 : decode cX1_clear 12 = .ok (.putfield 18, 3) := by decide +kernel
theorem dX1_clear_15 : decode cX1_clear 15 = .ok (.aload_n 0, 1) := by decide +kernel
theorem dX1_clear_16 : decode cX1_clear 16 = .ok (.iconst 0, 1) := by decide +kernel
theorem dX1_clear_17 : decode cX1_clear 17 = .ok (.putfield 21, 3) := by decide +kernel
theorem dX1_clear_20 : decode cX1_clear 20 = .ok (.return_, 1) := by decide +kernel
theorem dX1_take_0 : decode cX1_take 0 = .ok (.aload_n 0, 1) := by decide +kernel
theorem dX1_take_1 : decode cX1_take 1 = .ok (.aload_n 1, 1) := by decide +kernel
theorem dX1_take_2 : decode cX1_take 2 = .ok (.getfield 9, 3) := by decide +kernel
theorem dX1_take_5 : decode cX1_take 5 = .ok (.putfield 9, 3) := by decide +kernel
theorem dX1_take_8 : decode cX1_take 8 = .ok (.aload_n 0, 1) := by decide +kernel
theorem dX1_take_9 : decode cX1_take 9 = .ok (.aload_n 1, 1) := by decide +kernel
theorem dX1_take_10 : decode cX1_take 10 = .ok (.getfield 15, 3) := by decide +kernel
theorem dX1_take_13 : decode cX1_take 13 = .ok (.putfield 15, 3) := by decide +kernel
theorem dX1_take_16 : decode cX1_take 16 = .ok (.aload_n 0, 1) := by decide +kernel
theorem dX1_take_17 : decode cX1_take 17 = .ok (.aload_n 1, 1) := by decide +kernel
theorem dX1_take_18 : decode cX1_take 18 = .ok (.getfield 18, 3) := by decide +kernel
theorem dX1_take_21 : decode cX1_take 21 = .ok (.putfield 18, 3) := by decide +kernel
theorem dX1_take_24 : decode cX1_take 24 = .ok (.aload_n 0, 1) := by decide +kernel
theorem dX1_take_25 : decode cX1_take 25 = .ok (.aload_n 1, 1) := by decide +kernel
theorem dX1_take_26 : decode cX1_take 26 = .ok (.getfield 21, 3) := by decide +kernel
theorem dX1_take_29 : decode cX1_take 29 = .ok (.putfield 21, 3) := by decide +kernel
theorem dX1_take_32 : decode cX1_take 32 = .ok (.aload_n 0, 1) := by decide +kernel
theorem dX1_take_33 : decode cX1_take 33 = .ok (.getfield 29, 3) := by decide +kernel
theorem dX1_take_36 : decode cX1_take 36 = .ok (.aload_n 1, 1) := by decide +kernel
theorem dX1_take_37 : decode cX1_take 37 = .ok (.getfield 29, 3) := by decide +kernel
theorem dX1_take_40 : decode cX1_take 40 = .ok (.invokevirtual 48, 3) := by decide +kernel
theorem dX1_take_43 : decode cX1_take 43 = .ok (.aload_n 0, 1) := by decide +kernel
theorem dX1_take_44 : decode cX1_take 44 = .ok (.getfield 33, 3) := by decide +kernel
theorem dX1_take_47 : decode cX1_take 47 = .ok (.aload_n 1, 1) := by decide +kernel
theorem dX1_take_48 : decode cX1_take 48 = .ok (.getfield 33, 3) := by decide +kernel
theorem dX1_take_51 : decode cX1_take 51 = .ok (.invokevirtual 48, 3) := by decide +kernel
theorem dX1_take_54 : decode cX1_take 54 = .ok (.aload_n 0, 1) := by decide +kernel
theorem dX1_take_55 : decode cX1_take 55 = .ok (.getfield 36, 3) := by decide +kernel
theorem dX1_take_58 : decode cX1_take 58 = .ok (.aload_n 1, 1) := by decide +kernel
theorem dX1_take_59 : decode cX1_take 59 = .ok (.getfield 36, 3) := by decide +kernel
theorem dX1_take_62 : decode cX1_take 62 = .ok (.invokevirtual 48, 3) := by decide +kernel
theorem dX1_take_65 : decode cX1_take 65 = .ok (.aload_n 0, 1) := by decide +kernel
theorem dX1_take_66 : decode cX1_take 66 = .ok (.getfield 39, 3) := by decide +kernel
theorem dX1_take_69 : decode cX1_take 69 = .ok (.aload_n 1, 1) := by decide +kernel
theorem dX1_take_70 : decode cX1_take 70 = .ok (.getfield 39, 3) := by decide +kernel
theorem dX1_take_73 : decode cX1_take 73 = .ok (.invokevirtual 48, 3) := by decide +kernel
theorem dX1_take_76 : decode cX1_take 76 = .ok (.aload_n 0, 1) := by decide +kernel
theorem dX1_take_77 : decode cX1_take 77 = .ok (.getfield 42, 3) := by decide +kernel
theorem dX1_take_80 : decode cX1_take 80 = .ok (.aload_n 1, 1) := by decide +kernel
theorem dX1_take_81 : decode cX1_take 81 = .ok (.getfield 42, 3) := by decide +kernel
theorem dX1_take_84 : decode cX1_take 84 = .ok (.invokevirtual 48, 3) := by decide +kernel
theorem dX1_take_87 : decode cX1_take 87 = .ok (.aload_n 0, 1) := by decide +kernel
theorem dX1_take_88 : decode cX1_take 88 = .ok (.getfield 45, 3) := by decide +kernel
theorem dX1_take_91 : decode cX1_take 91 = .ok (.aload_n 1, 1) := by decide +kernel
theorem dX1_take_92 : decode cX1_take 92 = .ok (.getfield 45, 3) := by decide +kernel
theorem dX1_take_95 : decode cX1_take 95 = .ok (.invokevirtual 48, 3) := by decide +kernel
theorem dX1_take_98 : decode cX1_take 98 = .ok (.return_, 1) := by decide +kernel
theorem dX1_seat_0 : decode cX1_seat 0 = .ok (.aload_n 0, 1) := by decide +kernel
theorem dX1_seat_1 : decode cX1_seat 1 = .ok (.getfield 9, 3) := by decide +kernel
theorem dX1_seat_4 : decode cX1_seat 4 = .ok (.bipush 6, 2) := by decide +kernel
theorem dX1_seat_6 : decode cX1_seat 6 = .ok (.if_icmp .lt 4, 3) := by decide +kernel
theorem dX1_seat_9 : decode cX1_seat 9 = .ok (.return_, 1) := by decide +kernel
theorem dX1_seat_10 : decode cX1_seat 10 = .ok (.aload_n 0, 1) := by decide +kernel
theorem dX1_seat_11 : decode cX1_seat 11 = .ok (.getfield 29, 3) := by decide +kernel
theorem dX1_seat_14 : decode cX1_seat 14 = .ok (.aload_n 0, 1) := by decide +kernel
theorem dX1_seat_15 : decode cX1_seat 15 = .ok (.getfield 9, 3) := by decide +kernel
theorem dX1_seat_18 : decode cX1_seat 18 = .ok (.iload_n 1, 1) := by decide +kernel
theorem dX1_seat_19 : decode cX1_seat 19 = .ok (.invokevirtual 52, 3) := by decide +kernel
theorem dX1_seat_22 : decode cX1_seat 22 = .ok (.aload_n 0, 1) := by decide +kernel
theorem dX1_seat_23 : decode cX1_seat 23 = .ok (.getfield 33, 3) := by decide +kernel
theorem dX1_seat_26 : decode cX1_seat 26 = .ok (.aload_n 0, 1) := by decide +kernel
theorem dX1_seat_27 : decode cX1_seat 27 = .ok (.getfield 9, 3) := by decide +kernel
theorem dX1_seat_30 : decode cX1_seat 30 = .ok (.iload_n 2, 1) := by decide +kernel
theorem dX1_seat_31 : decode cX1_seat 31 = .ok (.invokevirtual 52, 3) := by decide +kernel
theorem dX1_seat_34 : decode cX1_seat 34 = .ok (.aload_n 0, 1) := by decide +kernel
theorem dX1_seat_35 : decode cX1_seat 35 = .ok (.getfield 36, 3) := by decide +kernel
theorem dX1_seat_38 : decode cX1_seat 38 = .ok (.aload_n 0, 1) := by decide +kernel
theorem dX1_seat_39 : decode cX1_seat 39 = .ok (.getfield 9, 3) := by decide +kernel
theorem dX1_seat_42 : decode cX1_seat 42 = .ok (.iload_n 3, 1) := by decide +kernel
theorem dX1_seat_43 : decode cX1_seat 43 = .ok (.invokevirtual 52, 3) := by decide +kernel
theorem dX1_seat_46 : decode cX1_seat 46 = .ok (.aload_n 0, 1) := by decide +kernel
theorem dX1_seat_47 : decode cX1_seat 47 = .ok (.getfield 39, 3) := by decide +kernel
theorem dX1_seat_50 : decode cX1_seat 50 = .ok (.aload_n 0, 1) := by decide +kernel
theorem dX1_seat_51 : decode cX1_seat 51 = .ok (.getfield 9, 3) := by decide +kernel
theorem dX1_seat_54 : decode cX1_seat 54 = .ok (.iload 4, 2) := by decide +kernel
theorem dX1_seat_56 : decode cX1_seat 56 = .ok (.invokevirtual 52, 3) := by decide +kernel
theorem dX1_seat_59 : decode cX1_seat 59 = .ok (.aload_n 0, 1) := by decide +kernel
theorem dX1_seat_60 : decode cX1_seat 60 = .ok (.dup, 1) := by decide +kernel
theorem dX1_seat_61 : decode cX1_seat 61 = .ok (.getfield 9, 3) := by decide +kernel
theorem dX1_seat_64 : decode cX1_seat 64 = .ok (.iconst 1, 1) := by decide +kernel
theorem dX1_seat_65 : decode cX1_seat 65 = .ok (.iadd, 1) := by decide +kernel
theorem dX1_seat_66 : decode cX1_seat 66 = .ok (.putfield 9, 3) := by decide +kernel
theorem dX1_seat_69 : decode cX1_seat 69 = .ok (.return_, 1) := by decide +kernel
theorem dX1_hasBear_0 : decode cX1_hasBear 0 = .ok (.iload_n 1, 1) := by decide +kernel
theorem dX1_hasBear_1 : decode cX1_hasBear 1 = .ok (.ifCond .lt 15, 3) := by decide +kernel
theorem dX1_hasBear_4 : decode cX1_hasBear 4 = .ok (.iload_n 1, 1) := by decide +kernel
theorem dX1_hasBear_5 : decode cX1_hasBear 5 = .ok (.aload_n 0, 1) := by decide +kernel
theorem dX1_hasBear_6 : decode cX1_hasBear 6 = .ok (.getfield 9, 3) := by decide +kernel
theorem dX1_hasBear_9 : decode cX1_hasBear 9 = .ok (.if_icmp .ge 7, 3) := by decide +kernel
theorem dX1_hasBear_12 : decode cX1_hasBear 12 = .ok (.iconst 1, 1) := by decide +kernel
theorem dX1_hasBear_13 : decode cX1_hasBear 13 = .ok (.goto 4, 3) := by decide +kernel
theorem dX1_hasBear_16 : decode cX1_hasBear 16 = .ok (.iconst 0, 1) := by decide +kernel
theorem dX1_hasBear_17 : decode cX1_hasBear 17 = .ok (.ireturn, 1) := by decide +kernel
theorem dX1_isSet_0 : decode cX1_isSet 0 = .ok (.iload_n 1, 1) := by decide +kernel
theorem dX1_isSet_1 : decode cX1_isSet 1 = .ok (.ifCond .lt 15, 3) := by decide +kernel
theorem dX1_isSet_4 : decode cX1_isSet 4 = .ok (.iload_n 1, 1) := by decide +kernel
theorem dX1_isSet_5 : decode cX1_isSet 5 = .ok (.aload_n 0, 1) := by decide +kernel
theorem dX1_isSet_6 : decode cX1_isSet 6 = .ok (.invokevirtual 56, 3) := by decide +kernel
theorem dX1_isSet_9 : decode cX1_isSet 9 = .ok (.if_icmp .gt 7, 3) := by decide +kernel
theorem dX1_isSet_12 : decode cX1_isSet 12 = .ok (.iconst 1, 1) := by decide +kernel
theorem dX1_isSet_13 : decode cX1_isSet 13 = .ok (.goto 4, 3) := by decide +kernel
theorem dX1_isSet_16 : decode cX1_isSet 16 = .ok (.iconst 0, 1) := by decide +kernel
theorem dX1_isSet_17 : decode cX1_isSet 17 = .ok (.ireturn, 1) := by decide +kernel
theorem dX1_allBears_0 : decode cX1_allBears 0 = .ok (.iconst 1, 1) := by decide +kernel
theorem dX1_allBears_1 : decode cX1_allBears 1 = .ok (.aload_n 0, 1) := by decide +kernel
theorem dX1_allBears_2 : decode cX1_allBears 2 = .ok (.getfield 9, 3) := by decide +kernel
theorem dX1_allBears_5 : decode cX1_allBears 5 = .ok (.ishl, 1) := by decide +kernel
theorem dX1_allBears_6 : decode cX1_allBears 6 = .ok (.iconst 1, 1) := by decide +kernel
theorem dX1_allBears_7 : decode cX1_allBears 7 = .ok (.isub, 1) := by decide +kernel
theorem dX1_allBears_8 : decode cX1_allBears 8 = .ok (.ireturn, 1) := by decide +kernel
theorem dX1_thoseOfKind_0 : decode cX1_thoseOfKind 0 = .ok (.iconst 0, 1) := by decide +kernel
theorem dX1_thoseOfKind_1 : decode cX1_thoseOfKind 1 = .ok (.istore_n 2, 1) := by decide +kernel
theorem dX1_thoseOfKind_2 : decode cX1_thoseOfKind 2 = .ok (.iconst 0, 1) := by decide +kernel
theorem dX1_thoseOfKind_3 : decode cX1_thoseOfKind 3 = .ok (.istore_n 3, 1) := by decide +kernel
theorem dX1_thoseOfKind_4 : decode cX1_thoseOfKind 4 = .ok (.iload_n 3, 1) := by decide +kernel
theorem dX1_thoseOfKind_5 : decode cX1_thoseOfKind 5 = .ok (.aload_n 0, 1) := by decide +kernel
theorem dX1_thoseOfKind_6 : decode cX1_thoseOfKind 6 = .ok (.getfield 9, 3) := by decide +kernel
theorem dX1_thoseOfKind_9 : decode cX1_thoseOfKind 9 = .ok (.if_icmp .ge 27, 3) := by decide +kernel
theorem dX1_thoseOfKind_12 : decode cX1_thoseOfKind 12 = .ok (.aload_n 0, 1) := by decide +kernel
theorem dX1_thoseOfKind_13 : decode cX1_thoseOfKind 13 = .ok (.getfield 29, 3) := by decide +kernel
theorem dX1_thoseOfKind_16 : decode cX1_thoseOfKind 16 = .ok (.iload_n 3, 1) := by decide +kernel
theorem dX1_thoseOfKind_17 : decode cX1_thoseOfKind 17 = .ok (.invokevirtual 60, 3) := by decide +kernel
theorem dX1_thoseOfKind_20 : decode cX1_thoseOfKind 20 = .ok (.iload_n 1, 1) := by decide +kernel
theorem dX1_thoseOfKind_21 : decode cX1_thoseOfKind 21 = .ok (.invokestatic 64, 3) := by decide +kernel
theorem dX1_thoseOfKind_24 : decode cX1_thoseOfKind 24 = .ok (.ifCond .eq 6, 3) := by decide +kernel
theorem dX1_thoseOfKind_27 : decode cX1_thoseOfKind 27 = .ok (.iinc 2 1, 3) := by decide +kernel
theorem dX1_thoseOfKind_30 : decode cX1_thoseOfKind 30 = .ok (.iinc 3 1, 3) := by decide +kernel
theorem dX1_thoseOfKind_33 : decode cX1_thoseOfKind 33 = .ok (.goto (-29), 3) := by decide +kernel
theorem dX1_thoseOfKind_36 : decode cX1_thoseOfKind 36 = .ok (.iload_n 2, 1) := by decide +kernel
theorem dX1_thoseOfKind_37 : decode cX1_thoseOfKind 37 = .ok (.ireturn, 1) := by decide +kernel
theorem dX1_canBe_0 : decode cX1_canBe 0 = .ok (.iload_n 1, 1) := by decide +kernel
theorem dX1_canBe_1 : decode cX1_canBe 1 = .ok (.tableswitch 80 0 2 #[27, 46, 63], 27) := by decide +kernel
theorem dX1_canBe_28 : decode cX1_canBe 28 = .ok (.aload_n 0, 1) := by decide +kernel
theorem dX1_canBe_29 : decode cX1_canBe 29 = .ok (.getfield 36, 3) := by decide +kernel
theorem dX1_canBe_32 : decode cX1_canBe 32 = .ok (.iload_n 2, 1) := by decide +kernel
theorem dX1_canBe_33 : decode cX1_canBe 33 = .ok (.invokevirtual 60, 3) := by decide +kernel
theorem dX1_canBe_36 : decode cX1_canBe 36 = .ok (.bipush 9, 2) := by decide +kernel
theorem dX1_canBe_38 : decode cX1_canBe 38 = .ok (.if_icmp .ge 7, 3) := by decide +kernel
theorem dX1_canBe_41 : decode cX1_canBe 41 = .ok (.iconst 1, 1) := by decide +kernel
theorem dX1_canBe_42 : decode cX1_canBe 42 = .ok (.goto 4, 3) := by decide +kernel
theorem dX1_canBe_45 : decode cX1_canBe 45 = .ok (.iconst 0, 1) := by decide +kernel
theorem dX1_canBe_46 : decode cX1_canBe 46 = .ok (.ireturn, 1) := by decide +kernel
theorem dX1_canBe_47 : decode cX1_canBe 47 = .ok (.aload_n 0, 1) := by decide +kernel
theorem dX1_canBe_48 : decode cX1_canBe 48 = .ok (.getfield 36, 3) := by decide +kernel
theorem dX1_canBe_51 : decode cX1_canBe 51 = .ok (.iload_n 2, 1) := by decide +kernel
theorem dX1_canBe_52 : decode cX1_canBe 52 = .ok (.invokevirtual 60, 3) := by decide +kernel
theorem dX1_canBe_55 : decode cX1_canBe 55 = .ok (.ifCond .le 7, 3) := by decide +kernel
theorem dX1_canBe_58 : decode cX1_canBe 58 = .ok (.iconst 1, 1) := by decide +kernel
theorem dX1_canBe_59 : decode cX1_canBe 59 = .ok (.goto 4, 3) := by decide +kernel
theorem dX1_canBe_62 : decode cX1_canBe 62 = .ok (.iconst 0, 1) := by decide +kernel
theorem dX1_canBe_63 : decode cX1_canBe 63 = .ok (.ireturn, 1) := by decide +kernel
theorem dX1_canBe_64 : decode cX1_canBe 64 = .ok (.aload_n 0, 1) := by decide +kernel
theorem dX1_canBe_65 : decode cX1_canBe 65 = .ok (.getfield 33, 3) := by decide +kernel
theorem dX1_canBe_68 : decode cX1_canBe 68 = .ok (.iload_n 2, 1) := by decide +kernel
theorem dX1_canBe_69 : decode cX1_canBe 69 = .ok (.invokevirtual 60, 3) := by decide +kernel
theorem dX1_canBe_72 : decode cX1_canBe 72 = .ok (.ifCond .le 7, 3) := by decide +kernel
theorem dX1_canBe_75 : decode cX1_canBe 75 = .ok (.iconst 1, 1) := by decide +kernel
theorem dX1_canBe_76 : decode cX1_canBe 76 = .ok (.goto 4, 3) := by decide +kernel
theorem dX1_canBe_79 : decode cX1_canBe 79 = .ok (.iconst 0, 1) := by decide +kernel
theorem dX1_canBe_80 : decode cX1_canBe 80 = .ok (.ireturn, 1) := by decide +kernel
theorem dX1_canBe_81 : decode cX1_canBe 81 = .ok (.iconst 1, 1) := by decide +kernel
theorem dX1_canBe_82 : decode cX1_canBe 82 = .ok (.ireturn, 1) := by decide +kernel
theorem dX1_commit_0 : decode cX1_commit 0 = .ok (.aload_n 0, 1) := by decide +kernel
theorem dX1_commit_1 : decode cX1_commit 1 = .ok (.getfield 21, 3) := by decide +kernel
theorem dX1_commit_4 : decode cX1_commit 4 = .ok (.bipush 40, 2) := by decide +kernel
theorem dX1_commit_6 : decode cX1_commit 6 = .ok (.if_icmp .lt 4, 3) := by decide +kernel
theorem dX1_commit_9 : decode cX1_commit 9 = .ok (.return_, 1) := by decide +kernel
theorem dX1_commit_10 : decode cX1_commit 10 = .ok (.aload_n 0, 1) := by decide +kernel
theorem dX1_commit_11 : decode cX1_commit 11 = .ok (.iload_n 1, 1) := by decide +kernel
theorem dX1_commit_12 : decode cX1_commit 12 = .ok (.iload_n 2, 1) := by decide +kernel
theorem dX1_commit_13 : decode cX1_commit 13 = .ok (.iconst 1, 1) := by decide +kernel
theorem dX1_commit_14 : decode cX1_commit 14 = .ok (.invokevirtual 68, 3) := by decide +kernel
theorem dX1_commit_17 : decode cX1_commit 17 = .ok (.aload_n 0, 1) := by decide +kernel
theorem dX1_commit_18 : decode cX1_commit 18 = .ok (.getfield 42, 3) := by decide +kernel
theorem dX1_commit_21 : decode cX1_commit 21 = .ok (.aload_n 0, 1) := by decide +kernel
theorem dX1_commit_22 : decode cX1_commit 22 = .ok (.getfield 21, 3) := by decide +kernel
theorem dX1_commit_25 : decode cX1_commit 25 = .ok (.iload_n 1, 1) := by decide +kernel
theorem dX1_commit_26 : decode cX1_commit 26 = .ok (.invokevirtual 52, 3) := by decide +kernel
theorem dX1_commit_29 : decode cX1_commit 29 = .ok (.aload_n 0, 1) := by decide +kernel
theorem dX1_commit_30 : decode cX1_commit 30 = .ok (.getfield 45, 3) := by decide +kernel
theorem dX1_commit_33 : decode cX1_commit 33 = .ok (.aload_n 0, 1) := by decide +kernel
theorem dX1_commit_34 : decode cX1_commit 34 = .ok (.getfield 21, 3) := by decide +kernel
theorem dX1_commit_37 : decode cX1_commit 37 = .ok (.iload_n 2, 1) := by decide +kernel
theorem dX1_commit_38 : decode cX1_commit 38 = .ok (.invokevirtual 52, 3) := by decide +kernel
theorem dX1_commit_41 : decode cX1_commit 41 = .ok (.aload_n 0, 1) := by decide +kernel
theorem dX1_commit_42 : decode cX1_commit 42 = .ok (.dup, 1) := by decide +kernel
theorem dX1_commit_43 : decode cX1_commit 43 = .ok (.getfield 21, 3) := by decide +kernel
theorem dX1_commit_46 : decode cX1_commit 46 = .ok (.iconst 1, 1) := by decide +kernel
theorem dX1_commit_47 : decode cX1_commit 47 = .ok (.iadd, 1) := by decide +kernel
theorem dX1_commit_48 : decode cX1_commit 48 = .ok (.putfield 21, 3) := by decide +kernel
theorem dX1_commit_51 : decode cX1_commit 51 = .ok (.return_, 1) := by decide +kernel
theorem dX1_takeBackTo_0 : decode cX1_takeBackTo 0 = .ok (.aload_n 0, 1) := by decide +kernel
theorem dX1_takeBackTo_1 : decode cX1_takeBackTo 1 = .ok (.getfield 21, 3) := by decide +kernel
theorem dX1_takeBackTo_4 : decode cX1_takeBackTo 4 = .ok (.iconst 1, 1) := by decide +kernel
theorem dX1_takeBackTo_5 : decode cX1_takeBackTo 5 = .ok (.isub, 1) := by decide +kernel
theorem dX1_takeBackTo_6 : decode cX1_takeBackTo 6 = .ok (.istore_n 2, 1) := by decide +kernel
theorem dX1_takeBackTo_7 : decode cX1_takeBackTo 7 = .ok (.iload_n 2, 1) := by decide +kernel
theorem dX1_takeBackTo_8 : decode cX1_takeBackTo 8 = .ok (.iload_n 1, 1) := by decide +kernel
theorem dX1_takeBackTo_9 : decode cX1_takeBackTo 9 = .ok (.if_icmp .lt 39, 3) := by decide +kernel
theorem dX1_takeBackTo_12 : decode cX1_takeBackTo 12 = .ok (.iload_n 2, 1) := by decide +kernel
theorem dX1_takeBackTo_13 : decode cX1_takeBackTo 13 = .ok (.ifCond .lt 35, 3) := by decide +kernel
theorem dX1_takeBackTo_16 : decode cX1_takeBackTo 16 = .ok (.aload_n 0, 1) := by decide +kernel
theorem dX1_takeBackTo_17 : decode cX1_takeBackTo 17 = .ok (.aload_n 0, 1) := by decide +kernel
theorem dX1_takeBackTo_18 : decode cX1_takeBackTo 18 = .ok (.getfield 42, 3) := by decide +kernel
theorem dX1_takeBackTo_21 : decode cX1_takeBackTo 21 = .ok (.iload_n 2, 1) := by decide +kernel
theorem dX1_takeBackTo_22 : decode cX1_takeBackTo 22 = .ok (.invokevirtual 60, 3) := by decide +kernel
theorem dX1_takeBackTo_25 : decode cX1_takeBackTo 25 = .ok (.aload_n 0, 1) := by decide +kernel
theorem dX1_takeBackTo_26 : decode cX1_takeBackTo 26 = .ok (.getfield 45, 3) := by decide +kernel
theorem dX1_takeBackTo_29 : decode cX1_takeBackTo 29 = .ok (.iload_n 2, 1) := by decide +kernel
theorem dX1_takeBackTo_30 : decode cX1_takeBackTo 30 = .ok (.invokevirtual 60, 3) := by decide +kernel
theorem dX1_takeBackTo_33 : decode cX1_takeBackTo 33 = .ok (.iconst (-1), 1) := by decide +kernel
theorem dX1_takeBackTo_34 : decode cX1_takeBackTo 34 = .ok (.invokevirtual 68, 3) := by decide +kernel
theorem dX1_takeBackTo_37 : decode cX1_takeBackTo 37 = .ok (.aload_n 0, 1) := by decide +kernel
theorem dX1_takeBackTo_38 : decode cX1_takeBackTo 38 = .ok (.iload_n 2, 1) := by decide +kernel
theorem dX1_takeBackTo_39 : decode cX1_takeBackTo 39 = .ok (.putfield 21, 3) := by decide +kernel
theorem dX1_takeBackTo_42 : decode cX1_takeBackTo 42 = .ok (.iinc 2 (-1), 3) := by decide +kernel
theorem dX1_takeBackTo_45 : decode cX1_takeBackTo 45 = .ok (.goto (-38), 3) := by decide +kernel
theorem dX1_takeBackTo_48 : decode cX1_takeBackTo 48 = .ok (.return_, 1) := by decide +kernel
theorem dX1_change_0 : decode cX1_change 0 = .ok (.iload_n 1, 1) := by decide +kernel
theorem dX1_change_1 : decode cX1_change 1 = .ok (.tableswitch 109 0 3 #[31, 52, 73, 94], 31) := by decide +kernel
theorem dX1_change_32 : decode cX1_change 32 = .ok (.aload_n 0, 1) := by decide +kernel
theorem dX1_change_33 : decode cX1_change 33 = .ok (.getfield 36, 3) := by decide +kernel
theorem dX1_change_36 : decode cX1_change 36 = .ok (.iload_n 2, 1) := by decide +kernel
theorem dX1_change_37 : decode cX1_change 37 = .ok (.aload_n 0, 1) := by decide +kernel
theorem dX1_change_38 : decode cX1_change 38 = .ok (.getfield 36, 3) := by decide +kernel
theorem dX1_change_41 : decode cX1_change 41 = .ok (.iload_n 2, 1) := by decide +kernel
theorem dX1_change_42 : decode cX1_change 42 = .ok (.invokevirtual 60, 3) := by decide +kernel
theorem dX1_change_45 : decode cX1_change 45 = .ok (.iload_n 3, 1) := by decide +kernel
theorem dX1_change_46 : decode cX1_change 46 = .ok (.iadd, 1) := by decide +kernel
theorem dX1_change_47 : decode cX1_change 47 = .ok (.invokevirtual 52, 3) := by decide +kernel
theorem dX1_change_50 : decode cX1_change 50 = .ok (.goto 60, 3) := by decide +kernel
theorem dX1_change_53 : decode cX1_change 53 = .ok (.aload_n 0, 1) := by decide +kernel
theorem dX1_change_54 : decode cX1_change 54 = .ok (.getfield 36, 3) := by decide +kernel
theorem dX1_change_57 : decode cX1_change 57 = .ok (.iload_n 2, 1) := by decide +kernel
theorem dX1_change_58 : decode cX1_change 58 = .ok (.aload_n 0, 1) := by decide +kernel
theorem dX1_change_59 : decode cX1_change 59 = .ok (.getfield 36, 3) := by decide +kernel
theorem dX1_change_62 : decode cX1_change 62 = .ok (.iload_n 2, 1) := by decide +kernel
theorem dX1_change_63 : decode cX1_change 63 = .ok (.invokevirtual 60, 3) := by decide +kernel
theorem dX1_change_66 : decode cX1_change 66 = .ok (.iload_n 3, 1) := by decide +kernel
theorem dX1_change_67 : decode cX1_change 67 = .ok (.isub, 1) := by decide +kernel
theorem dX1_change_68 : decode cX1_change 68 = .ok (.invokevirtual 52, 3) := by decide +kernel
theorem dX1_change_71 : decode cX1_change 71 = .ok (.goto 39, 3) := by decide +kernel
theorem dX1_change_74 : decode cX1_change 74 = .ok (.aload_n 0, 1) := by decide +kernel
theorem dX1_change_75 : decode cX1_change 75 = .ok (.getfield 33, 3) := by decide +kernel
theorem dX1_change_78 : decode cX1_change 78 = .ok (.iload_n 2, 1) := by decide +kernel
theorem dX1_change_79 : decode cX1_change 79 = .ok (.aload_n 0, 1) := by decide +kernel
theorem dX1_change_80 : decode cX1_change 80 = .ok (.getfield 33, 3) := by decide +kernel
theorem dX1_change_83 : decode cX1_change 83 = .ok (.iload_n 2, 1) := by decide +kernel
theorem dX1_change_84 : decode cX1_change 84 = .ok (.invokevirtual 60, 3) := by decide +kernel
theorem dX1_change_87 : decode cX1_change 87 = .ok (.iload_n 3, 1) := by decide +kernel
theorem dX1_change_88 : decode cX1_change 88 = .ok (.isub, 1) := by decide +kernel
theorem dX1_change_89 : decode cX1_change 89 = .ok (.invokevirtual 52, 3) := by decide +kernel
theorem dX1_change_92 : decode cX1_change 92 = .ok (.goto 18, 3) := by decide +kernel
theorem dX1_change_95 : decode cX1_change 95 = .ok (.aload_n 0, 1) := by decide +kernel
theorem dX1_change_96 : decode cX1_change 96 = .ok (.dup, 1) := by decide +kernel
theorem dX1_change_97 : decode cX1_change 97 = .ok (.getfield 18, 3) := by decide +kernel
theorem dX1_change_100 : decode cX1_change 100 = .ok (.iconst 1, 1) := by decide +kernel
theorem dX1_change_101 : decode cX1_change 101 = .ok (.iload_n 2, 1) := by decide +kernel
theorem dX1_change_102 : decode cX1_change 102 = .ok (.ishl, 1) := by decide +kernel
theorem dX1_change_103 : decode cX1_change 103 = .ok (.ixor, 1) := by decide +kernel
theorem dX1_change_104 : decode cX1_change 104 = .ok (.putfield 18, 3) := by decide +kernel
theorem dX1_change_107 : decode cX1_change 107 = .ok (.goto 3, 3) := by decide +kernel
theorem dX1_change_110 : decode cX1_change 110 = .ok (.return_, 1) := by decide +kernel
theorem dX1_seenBy_0 : decode cX1_seenBy 0 = .ok (.iload_n 3, 1) := by decide +kernel
theorem dX1_seenBy_1 : decode cX1_seenBy 1 = .ok (.bipush 9, 2) := by decide +kernel
theorem dX1_seenBy_3 : decode cX1_seenBy 3 = .ok (.if_icmp .lt 5, 3) := by decide +kernel
theorem dX1_seenBy_6 : decode cX1_seenBy 6 = .ok (.iconst 0, 1) := by decide +kernel
theorem dX1_seenBy_7 : decode cX1_seenBy 7 = .ok (.ireturn, 1) := by decide +kernel
theorem dX1_seenBy_8 : decode cX1_seenBy 8 = .ok (.iload_n 2, 1) := by decide +kernel
theorem dX1_seenBy_9 : decode cX1_seenBy 9 = .ok (.iconst 5, 1) := by decide +kernel
theorem dX1_seenBy_10 : decode cX1_seenBy 10 = .ok (.if_icmp .ne 10, 3) := by decide +kernel
theorem dX1_seenBy_13 : decode cX1_seenBy 13 = .ok (.iload_n 3, 1) := by decide +kernel
theorem dX1_seenBy_14 : decode cX1_seenBy 14 = .ok (.iconst 3, 1) := by decide +kernel
theorem dX1_seenBy_15 : decode cX1_seenBy 15 = .ok (.if_icmp .lt 5, 3) := by decide +kernel
theorem dX1_seenBy_18 : decode cX1_seenBy 18 = .ok (.iconst 0, 1) := by decide +kernel
theorem dX1_seenBy_19 : decode cX1_seenBy 19 = .ok (.ireturn, 1) := by decide +kernel
theorem dX1_seenBy_20 : decode cX1_seenBy 20 = .ok (.aload_n 0, 1) := by decide +kernel
theorem dX1_seenBy_21 : decode cX1_seenBy 21 = .ok (.getfield 39, 3) := by decide +kernel
theorem dX1_seenBy_24 : decode cX1_seenBy 24 = .ok (.iload_n 1, 1) := by decide +kernel
theorem dX1_seenBy_25 : decode cX1_seenBy 25 = .ok (.invokevirtual 60, 3) := by decide +kernel
theorem dX1_seenBy_28 : decode cX1_seenBy 28 = .ok (.istore 4, 2) := by decide +kernel
theorem dX1_seenBy_30 : decode cX1_seenBy 30 = .ok (.iload_n 2, 1) := by decide +kernel
theorem dX1_seenBy_31 : decode cX1_seenBy 31 = .ok (.iconst 2, 1) := by decide +kernel
theorem dX1_seenBy_32 : decode cX1_seenBy 32 = .ok (.if_icmp .ne 15, 3) := by decide +kernel
theorem dX1_seenBy_35 : decode cX1_seenBy 35 = .ok (.iload 4, 2) := by decide +kernel
theorem dX1_seenBy_37 : decode cX1_seenBy 37 = .ok (.iload 4, 2) := by decide +kernel
theorem dX1_seenBy_39 : decode cX1_seenBy 39 = .ok (.iconst 1, 1) := by decide +kernel
theorem dX1_seenBy_40 : decode cX1_seenBy 40 = .ok (.ishl, 1) := by decide +kernel
theorem dX1_seenBy_41 : decode cX1_seenBy 41 = .ok (.bipush 63, 2) := by decide +kernel
theorem dX1_seenBy_43 : decode cX1_seenBy 43 = .ok (.iand, 1) := by decide +kernel
theorem dX1_seenBy_44 : decode cX1_seenBy 44 = .ok (.ior, 1) := by decide +kernel
theorem dX1_seenBy_45 : decode cX1_seenBy 45 = .ok (.istore 4, 2) := by decide +kernel
theorem dX1_seenBy_47 : decode cX1_seenBy 47 = .ok (.iload_n 2, 1) := by decide +kernel
theorem dX1_seenBy_48 : decode cX1_seenBy 48 = .ok (.iconst 1, 1) := by decide +kernel
theorem dX1_seenBy_49 : decode cX1_seenBy 49 = .ok (.invokestatic 64, 3) := by decide +kernel
theorem dX1_seenBy_52 : decode cX1_seenBy 52 = .ok (.ifCond .ne 15, 3) := by decide +kernel
theorem dX1_seenBy_55 : decode cX1_seenBy 55 = .ok (.aload_n 0, 1) := by decide +kernel
theorem dX1_seenBy_56 : decode cX1_seenBy 56 = .ok (.getfield 33, 3) := by decide +kernel
theorem dX1_seenBy_59 : decode cX1_seenBy 59 = .ok (.iload_n 1, 1) := by decide +kernel
theorem dX1_seenBy_60 : decode cX1_seenBy 60 = .ok (.invokevirtual 60, 3) := by decide +kernel
theorem dX1_seenBy_63 : decode cX1_seenBy 63 = .ok (.iconst 2, 1) := by decide +kernel
theorem dX1_seenBy_64 : decode cX1_seenBy 64 = .ok (.if_icmp .lt 6, 3) := by decide +kernel
theorem dX1_seenBy_67 : decode cX1_seenBy 67 = .ok (.iload 4, 2) := by decide +kernel
theorem dX1_seenBy_69 : decode cX1_seenBy 69 = .ok (.ireturn, 1) := by decide +kernel
theorem dX1_seenBy_70 : decode cX1_seenBy 70 = .ok (.aload_n 0, 1) := by decide +kernel
theorem dX1_seenBy_71 : decode cX1_seenBy 71 = .ok (.getfield 33, 3) := by decide +kernel
theorem dX1_seenBy_74 : decode cX1_seenBy 74 = .ok (.iload_n 1, 1) := by decide +kernel
theorem dX1_seenBy_75 : decode cX1_seenBy 75 = .ok (.invokevirtual 60, 3) := by decide +kernel
theorem dX1_seenBy_78 : decode cX1_seenBy 78 = .ok (.iconst 1, 1) := by decide +kernel
theorem dX1_seenBy_79 : decode cX1_seenBy 79 = .ok (.if_icmp .ne 11, 3) := by decide +kernel
theorem dX1_seenBy_82 : decode cX1_seenBy 82 = .ok (.iload 4, 2) := by decide +kernel
theorem dX1_seenBy_84 : decode cX1_seenBy 84 = .ok (.bipush 21, 2) := by decide +kernel
theorem dX1_seenBy_86 : decode cX1_seenBy 86 = .ok (.iand, 1) := by decide +kernel
theorem dX1_seenBy_87 : decode cX1_seenBy 87 = .ok (.goto 4, 3) := by decide +kernel
theorem dX1_seenBy_90 : decode cX1_seenBy 90 = .ok (.iconst 0, 1) := by decide +kernel
theorem dX1_seenBy_91 : decode cX1_seenBy 91 = .ok (.ireturn, 1) := by decide +kernel
theorem dX1_toldOf_0 : decode cX1_toldOf 0 = .ok (.aload_n 0, 1) := by decide +kernel
theorem dX1_toldOf_1 : decode cX1_toldOf 1 = .ok (.getfield 18, 3) := by decide +kernel
theorem dX1_toldOf_4 : decode cX1_toldOf 4 = .ok (.iload_n 1, 1) := by decide +kernel
theorem dX1_toldOf_5 : decode cX1_toldOf 5 = .ok (.invokestatic 72, 3) := by decide +kernel
theorem dX1_toldOf_8 : decode cX1_toldOf 8 = .ok (.ifCond .eq 7, 3) := by decide +kernel
theorem dX1_toldOf_11 : decode cX1_toldOf 11 = .ok (.iconst 0, 1) := by decide +kernel
theorem dX1_toldOf_12 : decode cX1_toldOf 12 = .ok (.goto 10, 3) := by decide +kernel
theorem dX1_toldOf_15 : decode cX1_toldOf 15 = .ok (.aload_n 0, 1) := by decide +kernel
theorem dX1_toldOf_16 : decode cX1_toldOf 16 = .ok (.iload_n 1, 1) := by decide +kernel
theorem dX1_toldOf_17 : decode cX1_toldOf 17 = .ok (.iload_n 2, 1) := by decide +kernel
theorem dX1_toldOf_18 : decode cX1_toldOf 18 = .ok (.iload_n 3, 1) := by decide +kernel
theorem dX1_toldOf_19 : decode cX1_toldOf 19 = .ok (.invokevirtual 75, 3) := by decide +kernel
theorem dX1_toldOf_22 : decode cX1_toldOf 22 = .ok (.ireturn, 1) := by decide +kernel
theorem dX1_onesOf_0 : decode cX1_onesOf 0 = .ok (.iload_n 1, 1) := by decide +kernel
theorem dX1_onesOf_1 : decode cX1_onesOf 1 = .ok (.iconst 4, 1) := by decide +kernel
theorem dX1_onesOf_2 : decode cX1_onesOf 2 = .ok (.if_icmp .ne 5, 3) := by decide +kernel
theorem dX1_onesOf_5 : decode cX1_onesOf 5 = .ok (.iload_n 0, 1) := by decide +kernel
theorem dX1_onesOf_6 : decode cX1_onesOf 6 = .ok (.ireturn, 1) := by decide +kernel
theorem dX1_onesOf_7 : decode cX1_onesOf 7 = .ok (.iload_n 1, 1) := by decide +kernel
theorem dX1_onesOf_8 : decode cX1_onesOf 8 = .ok (.iconst 3, 1) := by decide +kernel
theorem dX1_onesOf_9 : decode cX1_onesOf 9 = .ok (.invokestatic 64, 3) := by decide +kernel
theorem dX1_onesOf_12 : decode cX1_onesOf 12 = .ok (.ifCond .eq 14, 3) := by decide +kernel
theorem dX1_onesOf_15 : decode cX1_onesOf 15 = .ok (.iload_n 2, 1) := by decide +kernel
theorem dX1_onesOf_16 : decode cX1_onesOf 16 = .ok (.iconst 5, 1) := by decide +kernel
theorem dX1_onesOf_17 : decode cX1_onesOf 17 = .ok (.if_icmp .lt 9, 3) := by decide +kernel
theorem dX1_onesOf_20 : decode cX1_onesOf 20 = .ok (.iload_n 0, 1) := by decide +kernel
theorem dX1_onesOf_21 : decode cX1_onesOf 21 = .ok (.iload_n 3, 1) := by decide +kernel
theorem dX1_onesOf_22 : decode cX1_onesOf 22 = .ok (.iconst (-1), 1) := by decide +kernel
theorem dX1_onesOf_23 : decode cX1_onesOf 23 = .ok (.ixor, 1) := by decide +kernel
theorem dX1_onesOf_24 : decode cX1_onesOf 24 = .ok (.iand, 1) := by decide +kernel
theorem dX1_onesOf_25 : decode cX1_onesOf 25 = .ok (.ireturn, 1) := by decide +kernel
theorem dX1_onesOf_26 : decode cX1_onesOf 26 = .ok (.iload_n 0, 1) := by decide +kernel
theorem dX1_onesOf_27 : decode cX1_onesOf 27 = .ok (.iload_n 3, 1) := by decide +kernel
theorem dX1_onesOf_28 : decode cX1_onesOf 28 = .ok (.iand, 1) := by decide +kernel
theorem dX1_onesOf_29 : decode cX1_onesOf 29 = .ok (.ireturn, 1) := by decide +kernel
theorem dX1_answerIf_0 : decode cX1_answerIf 0 = .ok (.aload_n 0, 1) := by decide +kernel
theorem dX1_answerIf_1 : decode cX1_answerIf 1 = .ok (.getfield 36, 3) := by decide +kernel
theorem dX1_answerIf_4 : decode cX1_answerIf 4 = .ok (.iload_n 1, 1) := by decide +kernel
theorem dX1_answerIf_5 : decode cX1_answerIf 5 = .ok (.invokevirtual 60, 3) := by decide +kernel
theorem dX1_answerIf_8 : decode cX1_answerIf 8 = .ok (.istore 5, 2) := by decide +kernel
theorem dX1_answerIf_10 : decode cX1_answerIf 10 = .ok (.aload_n 0, 1) := by decide +kernel
theorem dX1_answerIf_11 : decode cX1_answerIf 11 = .ok (.iload_n 1, 1) := by decide +kernel
theorem dX1_answerIf_12 : decode cX1_answerIf 12 = .ok (.iload_n 2, 1) := by decide +kernel
theorem dX1_answerIf_13 : decode cX1_answerIf 13 = .ok (.iload 5, 2) := by decide +kernel
theorem dX1_answerIf_15 : decode cX1_answerIf 15 = .ok (.invokevirtual 79, 3) := by decide +kernel
theorem dX1_answerIf_18 : decode cX1_answerIf 18 = .ok (.istore 6, 2) := by decide +kernel
theorem dX1_answerIf_20 : decode cX1_answerIf 20 = .ok (.iload 6, 2) := by decide +kernel
theorem dX1_answerIf_22 : decode cX1_answerIf 22 = .ok (.iload_n 3, 1) := by decide +kernel
theorem dX1_answerIf_23 : decode cX1_answerIf 23 = .ok (.invokestatic 72, 3) := by decide +kernel
theorem dX1_answerIf_26 : decode cX1_answerIf 26 = .ok (.ifCond .ne 6, 3) := by decide +kernel
theorem dX1_answerIf_29 : decode cX1_answerIf 29 = .ok (.bipush (-9), 2) := by decide +kernel
theorem dX1_answerIf_31 : decode cX1_answerIf 31 = .ok (.ireturn, 1) := by decide +kernel
theorem dX1_answerIf_32 : decode cX1_answerIf 32 = .ok (.iload 6, 2) := by decide +kernel
theorem dX1_answerIf_34 : decode cX1_answerIf 34 = .ok (.iload_n 2, 1) := by decide +kernel
theorem dX1_answerIf_35 : decode cX1_answerIf 35 = .ok (.iload 5, 2) := by decide +kernel
theorem dX1_answerIf_37 : decode cX1_answerIf 37 = .ok (.iload 4, 2) := by decide +kernel
theorem dX1_answerIf_39 : decode cX1_answerIf 39 = .ok (.invokestatic 82, 3) := by decide +kernel
theorem dX1_answerIf_42 : decode cX1_answerIf 42 = .ok (.iload_n 3, 1) := by decide +kernel
theorem dX1_answerIf_43 : decode cX1_answerIf 43 = .ok (.invokestatic 72, 3) := by decide +kernel
theorem dX1_answerIf_46 : decode cX1_answerIf 46 = .ok (.ifCond .eq 7, 3) := by decide +kernel
theorem dX1_answerIf_49 : decode cX1_answerIf 49 = .ok (.iconst 1, 1) := by decide +kernel
theorem dX1_answerIf_50 : decode cX1_answerIf 50 = .ok (.goto 4, 3) := by decide +kernel
theorem dX1_answerIf_53 : decode cX1_answerIf 53 = .ok (.iconst 0, 1) := by decide +kernel
theorem dX1_answerIf_54 : decode cX1_answerIf 54 = .ok (.ireturn, 1) := by decide +kernel
theorem dX1_answerOf_0 : decode cX1_answerOf 0 = .ok (.aload_n 0, 1) := by decide +kernel
theorem dX1_answerOf_1 : decode cX1_answerOf 1 = .ok (.iload_n 1, 1) := by decide +kernel
theorem dX1_answerOf_2 : decode cX1_answerOf 2 = .ok (.aload_n 0, 1) := by decide +kernel
theorem dX1_answerOf_3 : decode cX1_answerOf 3 = .ok (.getfield 29, 3) := by decide +kernel
theorem dX1_answerOf_6 : decode cX1_answerOf 6 = .ok (.iload_n 1, 1) := by decide +kernel
theorem dX1_answerOf_7 : decode cX1_answerOf 7 = .ok (.invokevirtual 60, 3) := by decide +kernel
theorem dX1_answerOf_10 : decode cX1_answerOf 10 = .ok (.iload_n 2, 1) := by decide +kernel
theorem dX1_answerOf_11 : decode cX1_answerOf 11 = .ok (.aload_n 0, 1) := by decide +kernel
theorem dX1_answerOf_12 : decode cX1_answerOf 12 = .ok (.getfield 15, 3) := by decide +kernel
theorem dX1_answerOf_15 : decode cX1_answerOf 15 = .ok (.invokevirtual 86, 3) := by decide +kernel
theorem dX1_answerOf_18 : decode cX1_answerOf 18 = .ok (.ireturn, 1) := by decide +kernel
theorem dX2_init_0 : decode cX2_init 0 = .ok (.aload_n 0, 1) := by decide +kernel
theorem dX2_init_1 : decode cX2_init 1 = .ok (.invokespecial 3, 3) := by decide +kernel
theorem dX2_init_4 : decode cX2_init 4 = .ok (.aload_n 0, 1) := by decide +kernel
theorem dX2_init_5 : decode cX2_init 5 = .ok (.iconst 0, 1) := by decide +kernel
theorem dX2_init_6 : decode cX2_init 6 = .ok (.putfield 9, 3) := by decide +kernel
theorem dX2_init_9 : decode cX2_init 9 = .ok (.aload_n 0, 1) := by decide +kernel
theorem dX2_init_10 : decode cX2_init 10 = .ok (.new 15, 3) := by decide +kernel
theorem dX2_init_13 : decode cX2_init 13 = .ok (.dup, 1) := by decide +kernel
theorem dX2_init_14 : decode cX2_init 14 = .ok (.bipush 8, 2) := by decide +kernel
theorem dX2_init_16 : decode cX2_init 16 = .ok (.invokespecial 17, 3) := by decide +kernel
theorem dX2_init_19 : decode cX2_init 19 = .ok (.putfield 20, 3) := by decide +kernel
theorem dX2_init_22 : decode cX2_init 22 = .ok (.aload_n 0, 1) := by decide +kernel
theorem dX2_init_23 : decode cX2_init 23 = .ok (.new 15, 3) := by decide +kernel
theorem dX2_init_26 : decode cX2_init 26 = .ok (.dup, 1) := by decide +kernel
theorem dX2_init_27 : decode cX2_init 27 = .ok (.bipush 8, 2) := by decide +kernel
theorem dX2_init_29 : decode cX2_init 29 = .ok (.invokespecial 17, 3) := by decide +kernel
theorem dX2_init_32 : decode cX2_init 32 = .ok (.putfield 24, 3) := by decide +kernel
theorem dX2_init_35 : decode cX2_init 35 = .ok (.aload_n 0, 1) := by decide +kernel
theorem dX2_init_36 : decode cX2_init 36 = .ok (.new 15, 3) := by decide +kernel
theorem dX2_init_39 : decode cX2_init 39 = .ok (.dup, 1) := by decide +kernel
theorem dX2_init_40 : decode cX2_init 40 = .ok (.bipush 8, 2) := by decide +kernel
theorem dX2_init_42 : decode cX2_init 42 = .ok (.invokespecial 17, 3) := by decide +kernel
theorem dX2_init_45 : decode cX2_init 45 = .ok (.putfield 27, 3) := by decide +kernel
theorem dX2_init_48 : decode cX2_init 48 = .ok (.return_, 1) := by decide +kernel
theorem dX2_setsWith_0 : decode cX2_setsWith 0 = .ok (.iload_n 0, 1) := by decide +kernel
theorem dX2_setsWith_1 : decode cX2_setsWith 1 = .ok (.ifCond .lt 19, 3) := by decide +kernel
theorem dX2_setsWith_4 : decode cX2_setsWith 4 = .ok (.iload_n 0, 1) := by decide +kernel
theorem dX2_setsWith_5 : decode cX2_setsWith 5 = .ok (.getstatic 30, 3) := by decide +kernel
theorem dX2_setsWith_8 : decode cX2_setsWith 8 = .ok (.arraylength, 1) := by decide +kernel
theorem dX2_setsWith_9 : decode cX2_setsWith 9 = .ok (.if_icmp .ge 11, 3) := by decide +kernel
theorem dX2_setsWith_12 : decode cX2_setsWith 12 = .ok (.getstatic 30, 3) := by decide +kernel
theorem dX2_setsWith_15 : decode cX2_setsWith 15 = .ok (.iload_n 0, 1) := by decide +kernel
theorem dX2_setsWith_16 : decode cX2_setsWith 16 = .ok (.laload, 1) := by decide +kernel
theorem dX2_setsWith_17 : decode cX2_setsWith 17 = .ok (.goto 4, 3) := by decide +kernel
theorem dX2_setsWith_20 : decode cX2_setsWith 20 = .ok (.lconst 0, 1) := by decide +kernel
theorem dX2_setsWith_21 : decode cX2_setsWith 21 = .ok (.lreturn, 1) := by decide +kernel
theorem dX2_readFrom_0 : decode cX2_readFrom 0 = .ok (.aload_n 1, 1) := by decide +kernel
theorem dX2_readFrom_1 : decode cX2_readFrom 1 = .ok (.iload_n 2, 1) := by decide +kernel
theorem dX2_readFrom_2 : decode cX2_readFrom 2 = .ok (.invokevirtual 34, 3) := by decide +kernel
theorem dX2_readFrom_5 : decode cX2_readFrom 5 = .ok (.ifCond .ne 5, 3) := by decide +kernel
theorem dX2_readFrom_8 : decode cX2_readFrom 8 = .ok (.iconst 1, 1) := by decide +kernel
theorem dX2_readFrom_9 : decode cX2_readFrom 9 = .ok (.ireturn, 1) := by decide +kernel
theorem dX2_readFrom_10 : decode cX2_readFrom 10 = .ok (.aload_n 1, 1) := by decide +kernel
theorem dX2_readFrom_11 : decode cX2_readFrom 11 = .ok (.iload_n 2, 1) := by decide +kernel
theorem dX2_readFrom_12 : decode cX2_readFrom 12 = .ok (.invokevirtual 40, 3) := by decide +kernel
theorem dX2_readFrom_15 : decode cX2_readFrom 15 = .ok (.istore 4, 2) := by decide +kernel
theorem dX2_readFrom_17 : decode cX2_readFrom 17 = .ok (.iload 4, 2) := by decide +kernel
theorem dX2_readFrom_19 : decode cX2_readFrom 19 = .ok (.iconst 2, 1) := by decide +kernel
theorem dX2_readFrom_20 : decode cX2_readFrom 20 = .ok (.irem, 1) := by decide +kernel
theorem dX2_readFrom_21 : decode cX2_readFrom 21 = .ok (.ifCond .ne 10, 3) := by decide +kernel
theorem dX2_readFrom_24 : decode cX2_readFrom 24 = .ok (.iload 4, 2) := by decide +kernel
theorem dX2_readFrom_26 : decode cX2_readFrom 26 = .ok (.bipush 16, 2) := by decide +kernel
theorem dX2_readFrom_28 : decode cX2_readFrom 28 = .ok (.if_icmp .le 5, 3) := by decide +kernel
theorem dX2_readFrom_31 : decode cX2_readFrom 31 = .ok (.iconst 5, 1) := by decide +kernel
theorem dX2_readFrom_32 : decode cX2_readFrom 32 = .ok (.ireturn, 1) := by decide +kernel
theorem dX2_readFrom_33 : decode cX2_readFrom 33 = .ok (.aload_n 0, 1) := by decide +kernel
theorem dX2_readFrom_34 : decode cX2_readFrom 34 = .ok (.iload 4, 2) := by decide +kernel
theorem dX2_readFrom_36 : decode cX2_readFrom 36 = .ok (.iconst 2, 1) := by decide +kernel
theorem dX2_readFrom_37 : decode cX2_readFrom 37 = .ok (.idiv, 1) := by decide +kernel
theorem dX2_readFrom_38 : decode cX2_readFrom 38 = .ok (.putfield 9, 3) := by decide +kernel
theorem dX2_readFrom_41 : decode cX2_readFrom 41 = .ok (.iconst 0, 1) := by decide +kernel
theorem dX2_readFrom_42 : decode cX2_readFrom 42 = .ok (.istore 5, 2) := by decide +kernel
theorem dX2_readFrom_44 : decode cX2_readFrom 44 = .ok (.iload 5, 2) := by decide +kernel
theorem dX2_readFrom_46 : decode cX2_readFrom 46 = .ok (.aload_n 0, 1) := by decide +kernel
theorem dX2_readFrom_47 : decode cX2_readFrom 47 = .ok (.getfield 9, 3) := by decide +kernel
theorem dX2_readFrom_50 : decode cX2_readFrom 50 = .ok (.if_icmp .ge 122, 3) := by decide +kernel
theorem dX2_readFrom_53 : decode cX2_readFrom 53 = .ok (.aload_n 1, 1) := by decide +kernel
theorem dX2_readFrom_54 : decode cX2_readFrom 54 = .ok (.iload_n 2, 1) := by decide +kernel
theorem dX2_readFrom_55 : decode cX2_readFrom 55 = .ok (.iconst 2, 1) := by decide +kernel
theorem dX2_readFrom_56 : decode cX2_readFrom 56 = .ok (.iload 5, 2) := by decide +kernel
theorem dX2_readFrom_58 : decode cX2_readFrom 58 = .ok (.imul, 1) := by decide +kernel
theorem dX2_readFrom_59 : decode cX2_readFrom 59 = .ok (.invokevirtual 44, 3) := by decide +kernel
theorem dX2_readFrom_62 : decode cX2_readFrom 62 = .ok (.istore 6, 2) := by decide +kernel
theorem dX2_readFrom_64 : decode cX2_readFrom 64 = .ok (.aload_n 1, 1) := by decide +kernel
theorem dX2_readFrom_65 : decode cX2_readFrom 65 = .ok (.iload_n 2, 1) := by decide +kernel
theorem dX2_readFrom_66 : decode cX2_readFrom 66 = .ok (.iconst 2, 1) := by decide +kernel
theorem dX2_readFrom_67 : decode cX2_readFrom 67 = .ok (.iload 5, 2) := by decide +kernel
theorem dX2_readFrom_69 : decode cX2_readFrom 69 = .ok (.imul, 1) := by decide +kernel
theorem dX2_readFrom_70 : decode cX2_readFrom 70 = .ok (.iconst 1, 1) := by decide +kernel
theorem dX2_readFrom_71 : decode cX2_readFrom 71 = .ok (.iadd, 1) := by decide +kernel
theorem dX2_readFrom_72 : decode cX2_readFrom 72 = .ok (.invokevirtual 44, 3) := by decide +kernel
theorem dX2_readFrom_75 : decode cX2_readFrom 75 = .ok (.istore 7, 2) := by decide +kernel
theorem dX2_readFrom_77 : decode cX2_readFrom 77 = .ok (.iload 6, 2) := by decide +kernel
theorem dX2_readFrom_79 : decode cX2_readFrom 79 = .ok (.ifCond .lt 22, 3) := by decide +kernel
theorem dX2_readFrom_82 : decode cX2_readFrom 82 = .ok (.iload 6, 2) := by decide +kernel
theorem dX2_readFrom_84 : decode cX2_readFrom 84 = .ok (.bipush 8, 2) := by decide +kernel
theorem dX2_readFrom_86 : decode cX2_readFrom 86 = .ok (.idiv, 1) := by decide +kernel
theorem dX2_readFrom_87 : decode cX2_readFrom 87 = .ok (.iload_n 3, 1) := by decide +kernel
theorem dX2_readFrom_88 : decode cX2_readFrom 88 = .ok (.if_icmp .ge 13, 3) := by decide +kernel
theorem dX2_readFrom_91 : decode cX2_readFrom 91 = .ok (.iload 6, 2) := by decide +kernel
theorem dX2_readFrom_93 : decode cX2_readFrom 93 = .ok (.bipush 8, 2) := by decide +kernel
theorem dX2_readFrom_95 : decode cX2_readFrom 95 = .ok (.irem, 1) := by decide +kernel
theorem dX2_readFrom_96 : decode cX2_readFrom 96 = .ok (.bipush 6, 2) := by decide +kernel
theorem dX2_readFrom_98 : decode cX2_readFrom 98 = .ok (.if_icmp .lt 5, 3) := by decide +kernel
theorem dX2_readFrom_101 : decode cX2_readFrom 101 = .ok (.iconst 3, 1) := by decide +kernel
theorem dX2_readFrom_102 : decode cX2_readFrom 102 = .ok (.ireturn, 1) := by decide +kernel
theorem dX2_readFrom_103 : decode cX2_readFrom 103 = .ok (.iload 7, 2) := by decide +kernel
theorem dX2_readFrom_105 : decode cX2_readFrom 105 = .ok (.ifCond .lt 9, 3) := by decide +kernel
theorem dX2_readFrom_108 : decode cX2_readFrom 108 = .ok (.iload 7, 2) := by decide +kernel
theorem dX2_readFrom_110 : decode cX2_readFrom 110 = .ok (.iconst 2, 1) := by decide +kernel
theorem dX2_readFrom_111 : decode cX2_readFrom 111 = .ok (.if_icmp .le 5, 3) := by decide +kernel
theorem dX2_readFrom_114 : decode cX2_readFrom 114 = .ok (.iconst 3, 1) := by decide +kernel
theorem dX2_readFrom_115 : decode cX2_readFrom 115 = .ok (.ireturn, 1) := by decide +kernel
theorem dX2_readFrom_116 : decode cX2_readFrom 116 = .ok (.aload_n 0, 1) := by decide +kernel
theorem dX2_readFrom_117 : decode cX2_readFrom 117 = .ok (.getfield 20, 3) := by decide +kernel
theorem dX2_readFrom_120 : decode cX2_readFrom 120 = .ok (.iload 5, 2) := by decide +kernel
theorem dX2_readFrom_122 : decode cX2_readFrom 122 = .ok (.iload 6, 2) := by decide +kernel
theorem dX2_readFrom_124 : decode cX2_readFrom 124 = .ok (.bipush 8, 2) := by decide +kernel
theorem dX2_readFrom_126 : decode cX2_readFrom 126 = .ok (.idiv, 1) := by decide +kernel
theorem dX2_readFrom_127 : decode cX2_readFrom 127 = .ok (.invokevirtual 48, 3) := by decide +kernel
theorem dX2_readFrom_130 : decode cX2_readFrom 130 = .ok (.aload_n 0, 1) := by decide +kernel
theorem dX2_readFrom_131 : decode cX2_readFrom 131 = .ok (.getfield 24, 3) := by decide +kernel
theorem dX2_readFrom_134 : decode cX2_readFrom 134 = .ok (.iload 5, 2) := by decide +kernel
theorem dX2_readFrom_136 : decode cX2_readFrom 136 = .ok (.iload 6, 2) := by decide +kernel
theorem dX2_readFrom_138 : decode cX2_readFrom 138 = .ok (.bipush 8, 2) := by decide +kernel
theorem dX2_readFrom_140 : decode cX2_readFrom 140 = .ok (.irem, 1) := by decide +kernel
theorem dX2_readFrom_141 : decode cX2_readFrom 141 = .ok (.invokevirtual 48, 3) := by decide +kernel
theorem dX2_readFrom_144 : decode cX2_readFrom 144 = .ok (.aload_n 0, 1) := by decide +kernel
theorem dX2_readFrom_145 : decode cX2_readFrom 145 = .ok (.getfield 27, 3) := by decide +kernel
theorem dX2_readFrom_148 : decode cX2_readFrom 148 = .ok (.iload 5, 2) := by decide +kernel
theorem dX2_readFrom_150 : decode cX2_readFrom 150 = .ok (.iload 7, 2) := by decide +kernel
theorem dX2_readFrom_152 : decode cX2_readFrom 152 = .ok (.iconst 2, 1) := by decide +kernel
theorem dX2_readFrom_153 : decode cX2_readFrom 153 = .ok (.if_icmp .ne 8, 3) := by decide +kernel
theorem dX2_readFrom_156 : decode cX2_readFrom 156 = .ok (.bipush (-9), 2) := by decide +kernel
theorem dX2_readFrom_158 : decode cX2_readFrom 158 = .ok (.goto 5, 3) := by decide +kernel
theorem dX2_readFrom_161 : decode cX2_readFrom 161 = .ok (.iload 7, 2) := by decide +kernel
theorem dX2_readFrom_163 : decode cX2_readFrom 163 = .ok (.invokevirtual 48, 3) := by decide +kernel
theorem dX2_readFrom_166 : decode cX2_readFrom 166 = .ok (.iinc 5 1, 3) := by decide +kernel
theorem dX2_readFrom_169 : decode cX2_readFrom 169 = .ok (.goto (-125), 3) := by decide +kernel
theorem dX2_readFrom_172 : decode cX2_readFrom 172 = .ok (.iconst 0, 1) := by decide +kernel
theorem dX2_readFrom_173 : decode cX2_readFrom 173 = .ok (.ireturn, 1) := by decide +kernel
theorem dX2_fits_0 : decode cX2_fits 0 = .ok (.aload_n 1, 1) := by decide +kernel
theorem dX2_fits_1 : decode cX2_fits 1 = .ok (.aload_n 0, 1) := by decide +kernel
theorem dX2_fits_2 : decode cX2_fits 2 = .ok (.getfield 20, 3) := by decide +kernel
theorem dX2_fits_5 : decode cX2_fits 5 = .ok (.iload_n 2, 1) := by decide +kernel
theorem dX2_fits_6 : decode cX2_fits 6 = .ok (.invokevirtual 52, 3) := by decide +kernel
theorem dX2_fits_9 : decode cX2_fits 9 = .ok (.iload_n 3, 1) := by decide +kernel
theorem dX2_fits_10 : decode cX2_fits 10 = .ok (.aload_n 0, 1) := by decide +kernel
theorem dX2_fits_11 : decode cX2_fits 11 = .ok (.getfield 24, 3) := by decide +kernel
theorem dX2_fits_14 : decode cX2_fits 14 = .ok (.iload_n 2, 1) := by decide +kernel
theorem dX2_fits_15 : decode cX2_fits 15 = .ok (.invokevirtual 52, 3) := by decide +kernel
theorem dX2_fits_18 : decode cX2_fits 18 = .ok (.iload 4, 2) := by decide +kernel
theorem dX2_fits_20 : decode cX2_fits 20 = .ok (.invokevirtual 54, 3) := by decide +kernel
theorem dX2_fits_23 : decode cX2_fits 23 = .ok (.aload_n 0, 1) := by decide +kernel
theorem dX2_fits_24 : decode cX2_fits 24 = .ok (.getfield 27, 3) := by decide +kernel
theorem dX2_fits_27 : decode cX2_fits 27 = .ok (.iload_n 2, 1) := by decide +kernel
theorem dX2_fits_28 : decode cX2_fits 28 = .ok (.invokevirtual 52, 3) := by decide +kernel
theorem dX2_fits_31 : decode cX2_fits 31 = .ok (.if_icmp .ne 7, 3) := by decide +kernel
theorem dX2_fits_34 : decode cX2_fits 34 = .ok (.iconst 1, 1) := by decide +kernel
theorem dX2_fits_35 : decode cX2_fits 35 = .ok (.goto 4, 3) := by decide +kernel
theorem dX2_fits_38 : decode cX2_fits 38 = .ok (.iconst 0, 1) := by decide +kernel
theorem dX2_fits_39 : decode cX2_fits 39 = .ok (.ireturn, 1) := by decide +kernel
theorem dX2_fittingSets_0 : decode cX2_fittingSets 0 = .ok (.ldc2_w 60, 3) := by decide +kernel
theorem dX2_fittingSets_3 : decode cX2_fittingSets 3 = .ok (.lstore_n 2, 1) := by decide +kernel
theorem dX2_fittingSets_4 : decode cX2_fittingSets 4 = .ok (.iconst 0, 1) := by decide +kernel
theorem dX2_fittingSets_5 : decode cX2_fittingSets 5 = .ok (.istore 4, 2) := by decide +kernel
theorem dX2_fittingSets_7 : decode cX2_fittingSets 7 = .ok (.iload 4, 2) := by decide +kernel
theorem dX2_fittingSets_9 : decode cX2_fittingSets 9 = .ok (.aload_n 0, 1) := by decide +kernel
theorem dX2_fittingSets_10 : decode cX2_fittingSets 10 = .ok (.getfield 9, 3) := by decide +kernel
theorem dX2_fittingSets_13 : decode cX2_fittingSets 13 = .ok (.if_icmp .ge 82, 3) := by decide +kernel
theorem dX2_fittingSets_16 : decode cX2_fittingSets 16 = .ok (.aload_n 1, 1) := by decide +kernel
theorem dX2_fittingSets_17 : decode cX2_fittingSets 17 = .ok (.getfield 62, 3) := by decide +kernel
theorem dX2_fittingSets_20 : decode cX2_fittingSets 20 = .ok (.aload_n 0, 1) := by decide +kernel
theorem dX2_fittingSets_21 : decode cX2_fittingSets 21 = .ok (.getfield 20, 3) := by decide +kernel
theorem dX2_fittingSets_24 : decode cX2_fittingSets 24 = .ok (.iload 4, 2) := by decide +kernel
theorem dX2_fittingSets_26 : decode cX2_fittingSets 26 = .ok (.invokevirtual 52, 3) := by decide +kernel
theorem dX2_fittingSets_29 : decode cX2_fittingSets 29 = .ok (.invokevirtual 52, 3) := by decide +kernel
theorem dX2_fittingSets_32 : decode cX2_fittingSets 32 = .ok (.istore 5, 2) := by decide +kernel
theorem dX2_fittingSets_34 : decode cX2_fittingSets 34 = .ok (.aload_n 0, 1) := by decide +kernel
theorem dX2_fittingSets_35 : decode cX2_fittingSets 35 = .ok (.getfield 24, 3) := by decide +kernel
theorem dX2_fittingSets_38 : decode cX2_fittingSets 38 = .ok (.iload 4, 2) := by decide +kernel
theorem dX2_fittingSets_40 : decode cX2_fittingSets 40 = .ok (.invokevirtual 52, 3) := by decide +kernel
theorem dX2_fittingSets_43 : decode cX2_fittingSets 43 = .ok (.invokestatic 65, 3) := by decide +kernel
theorem dX2_fittingSets_46 : decode cX2_fittingSets 46 = .ok (.lstore 6, 2) := by decide +kernel
theorem dX2_fittingSets_48 : decode cX2_fittingSets 48 = .ok (.aload_n 0, 1) := by decide +kernel
theorem dX2_fittingSets_49 : decode cX2_fittingSets 49 = .ok (.aload_n 1, 1) := by decide +kernel
theorem dX2_fittingSets_50 : decode cX2_fittingSets 50 = .ok (.iload 4, 2) := by decide +kernel
theorem dX2_fittingSets_52 : decode cX2_fittingSets 52 = .ok (.iload 5, 2) := by decide +kernel
theorem dX2_fittingSets_54 : decode cX2_fittingSets 54 = .ok (.bipush 63, 2) := by decide +kernel
theorem dX2_fittingSets_56 : decode cX2_fittingSets 56 = .ok (.invokevirtual 69, 3) := by decide +kernel
theorem dX2_fittingSets_59 : decode cX2_fittingSets 59 = .ok (.ifCond .ne 12, 3) := by decide +kernel
theorem dX2_fittingSets_62 : decode cX2_fittingSets 62 = .ok (.lload_n 2, 1) := by decide +kernel
theorem dX2_fittingSets_63 : decode cX2_fittingSets 63 = .ok (.lload 6, 2) := by decide +kernel
theorem dX2_fittingSets_65 : decode cX2_fittingSets 65 = .ok (.ldc2_w 60, 3) := by decide +kernel
theorem dX2_fittingSets_68 : decode cX2_fittingSets 68 = .ok (.lxor, 1) := by decide +kernel
theorem dX2_fittingSets_69 : decode cX2_fittingSets 69 = .ok (.land, 1) := by decide +kernel
theorem dX2_fittingSets_70 : decode cX2_fittingSets 70 = .ok (.lstore_n 2, 1) := by decide +kernel
theorem dX2_fittingSets_71 : decode cX2_fittingSets 71 = .ok (.aload_n 0, 1) := by decide +kernel
theorem dX2_fittingSets_72 : decode cX2_fittingSets 72 = .ok (.aload_n 1, 1) := by decide +kernel
theorem dX2_fittingSets_73 : decode cX2_fittingSets 73 = .ok (.iload 4, 2) := by decide +kernel
theorem dX2_fittingSets_75 : decode cX2_fittingSets 75 = .ok (.iload 5, 2) := by decide +kernel
theorem dX2_fittingSets_77 : decode cX2_fittingSets 77 = .ok (.iconst 0, 1) := by decide +kernel
theorem dX2_fittingSets_78 : decode cX2_fittingSets 78 = .ok (.invokevirtual 69, 3) := by decide +kernel
theorem dX2_fittingSets_81 : decode cX2_fittingSets 81 = .ok (.ifCond .ne 8, 3) := by decide +kernel
theorem dX2_fittingSets_84 : decode cX2_fittingSets 84 = .ok (.lload_n 2, 1) := by decide +kernel
theorem dX2_fittingSets_85 : decode cX2_fittingSets 85 = .ok (.lload 6, 2) := by decide +kernel
theorem dX2_fittingSets_87 : decode cX2_fittingSets 87 = .ok (.land, 1) := by decide +kernel
theorem dX2_fittingSets_88 : decode cX2_fittingSets 88 = .ok (.lstore_n 2, 1) := by decide +kernel
theorem dX2_fittingSets_89 : decode cX2_fittingSets 89 = .ok (.iinc 4 1, 3) := by decide +kernel
theorem dX2_fittingSets_92 : decode cX2_fittingSets 92 = .ok (.goto (-85), 3) := by decide +kernel
theorem dX2_fittingSets_95 : decode cX2_fittingSets 95 = .ok (.lload_n 2, 1) := by decide +kernel
theorem dX2_fittingSets_96 : decode cX2_fittingSets 96 = .ok (.lreturn, 1) := by decide +kernel
theorem dX2_fitKind_0 : decode cX2_fitKind 0 = .ok (.iconst 0, 1) := by decide +kernel
theorem dX2_fitKind_1 : decode cX2_fitKind 1 = .ok (.istore 4, 2) := by decide +kernel
theorem dX2_fitKind_3 : decode cX2_fitKind 3 = .ok (.iload 4, 2) := by decide +kernel
theorem dX2_fitKind_5 : decode cX2_fitKind 5 = .ok (.aload_n 0, 1) := by decide +kernel
theorem dX2_fitKind_6 : decode cX2_fitKind 6 = .ok (.getfield 9, 3) := by decide +kernel
theorem dX2_fitKind_9 : decode cX2_fitKind 9 = .ok (.if_icmp .ge 39, 3) := by decide +kernel
theorem dX2_fitKind_12 : decode cX2_fitKind 12 = .ok (.aload_n 0, 1) := by decide +kernel
theorem dX2_fitKind_13 : decode cX2_fitKind 13 = .ok (.getfield 20, 3) := by decide +kernel
theorem dX2_fitKind_16 : decode cX2_fitKind 16 = .ok (.iload 4, 2) := by decide +kernel
theorem dX2_fitKind_18 : decode cX2_fitKind 18 = .ok (.invokevirtual 52, 3) := by decide +kernel
theorem dX2_fitKind_21 : decode cX2_fitKind 21 = .ok (.iload_n 2, 1) := by decide +kernel
theorem dX2_fitKind_22 : decode cX2_fitKind 22 = .ok (.if_icmp .ne 20, 3) := by decide +kernel
theorem dX2_fitKind_25 : decode cX2_fitKind 25 = .ok (.aload_n 0, 1) := by decide +kernel
theorem dX2_fitKind_26 : decode cX2_fitKind 26 = .ok (.aload_n 1, 1) := by decide +kernel
theorem dX2_fitKind_27 : decode cX2_fitKind 27 = .ok (.iload 4, 2) := by decide +kernel
theorem dX2_fitKind_29 : decode cX2_fitKind 29 = .ok (.iload_n 3, 1) := by decide +kernel
theorem dX2_fitKind_30 : decode cX2_fitKind 30 = .ok (.aload_n 1, 1) := by decide +kernel
theorem dX2_fitKind_31 : decode cX2_fitKind 31 = .ok (.getfield 73, 3) := by decide +kernel
theorem dX2_fitKind_34 : decode cX2_fitKind 34 = .ok (.invokevirtual 69, 3) := by decide +kernel
theorem dX2_fitKind_37 : decode cX2_fitKind 37 = .ok (.ifCond .ne 5, 3) := by decide +kernel
theorem dX2_fitKind_40 : decode cX2_fitKind 40 = .ok (.iconst 0, 1) := by decide +kernel
theorem dX2_fitKind_41 : decode cX2_fitKind 41 = .ok (.ireturn, 1) := by decide +kernel
theorem dX2_fitKind_42 : decode cX2_fitKind 42 = .ok (.iinc 4 1, 3) := by decide +kernel
theorem dX2_fitKind_45 : decode cX2_fitKind 45 = .ok (.goto (-42), 3) := by decide +kernel
theorem dX2_fitKind_48 : decode cX2_fitKind 48 = .ok (.iconst 1, 1) := by decide +kernel
theorem dX2_fitKind_49 : decode cX2_fitKind 49 = .ok (.ireturn, 1) := by decide +kernel
theorem dX2_whoSpoke_0 : decode cX2_whoSpoke 0 = .ok (.iconst 0, 1) := by decide +kernel
theorem dX2_whoSpoke_1 : decode cX2_whoSpoke 1 = .ok (.istore_n 1, 1) := by decide +kernel
theorem dX2_whoSpoke_2 : decode cX2_whoSpoke 2 = .ok (.iconst 0, 1) := by decide +kernel
theorem dX2_whoSpoke_3 : decode cX2_whoSpoke 3 = .ok (.istore_n 2, 1) := by decide +kernel
theorem dX2_whoSpoke_4 : decode cX2_whoSpoke 4 = .ok (.iload_n 2, 1) := by decide +kernel
theorem dX2_whoSpoke_5 : decode cX2_whoSpoke 5 = .ok (.aload_n 0, 1) := by decide +kernel
theorem dX2_whoSpoke_6 : decode cX2_whoSpoke 6 = .ok (.getfield 9, 3) := by decide +kernel
theorem dX2_whoSpoke_9 : decode cX2_whoSpoke 9 = .ok (.if_icmp .ge 35, 3) := by decide +kernel
theorem dX2_whoSpoke_12 : decode cX2_whoSpoke 12 = .ok (.aload_n 0, 1) := by decide +kernel
theorem dX2_whoSpoke_13 : decode cX2_whoSpoke 13 = .ok (.getfield 27, 3) := by decide +kernel
theorem dX2_whoSpoke_16 : decode cX2_whoSpoke 16 = .ok (.iload_n 2, 1) := by decide +kernel
theorem dX2_whoSpoke_17 : decode cX2_whoSpoke 17 = .ok (.invokevirtual 52, 3) := by decide +kernel
theorem dX2_whoSpoke_20 : decode cX2_whoSpoke 20 = .ok (.bipush (-9), 2) := by decide +kernel
theorem dX2_whoSpoke_22 : decode cX2_whoSpoke 22 = .ok (.if_icmp .eq 16, 3) := by decide +kernel
theorem dX2_whoSpoke_25 : decode cX2_whoSpoke 25 = .ok (.iload_n 1, 1) := by decide +kernel
theorem dX2_whoSpoke_26 : decode cX2_whoSpoke 26 = .ok (.iconst 1, 1) := by decide +kernel
theorem dX2_whoSpoke_27 : decode cX2_whoSpoke 27 = .ok (.aload_n 0, 1) := by decide +kernel
theorem dX2_whoSpoke_28 : decode cX2_whoSpoke 28 = .ok (.getfield 20, 3) := by decide +kernel
theorem dX2_whoSpoke_31 : decode cX2_whoSpoke 31 = .ok (.iload_n 2, 1) := by decide +kernel
theorem dX2_whoSpoke_32 : decode cX2_whoSpoke 32 = .ok (.invokevirtual 52, 3) := by decide +kernel
theorem dX2_whoSpoke_35 : decode cX2_whoSpoke 35 = .ok (.ishl, 1) := by decide +kernel
theorem dX2_whoSpoke_36 : decode cX2_whoSpoke 36 = .ok (.ior, 1) := by decide +kernel
theorem dX2_whoSpoke_37 : decode cX2_whoSpoke 37 = .ok (.istore_n 1, 1) := by decide +kernel
theorem dX2_whoSpoke_38 : decode cX2_whoSpoke 38 = .ok (.iinc 2 1, 3) := by decide +kernel
theorem dX2_whoSpoke_41 : decode cX2_whoSpoke 41 = .ok (.goto (-37), 3) := by decide +kernel
theorem dX2_whoSpoke_44 : decode cX2_whoSpoke 44 = .ok (.iload_n 1, 1) := by decide +kernel
theorem dX2_whoSpoke_45 : decode cX2_whoSpoke 45 = .ok (.ireturn, 1) := by decide +kernel
theorem dX2_whoKeptBack_0 : decode cX2_whoKeptBack 0 = .ok (.iconst 0, 1) := by decide +kernel
theorem dX2_whoKeptBack_1 : decode cX2_whoKeptBack 1 = .ok (.istore_n 2, 1) := by decide +kernel
theorem dX2_whoKeptBack_2 : decode cX2_whoKeptBack 2 = .ok (.iconst 0, 1) := by decide +kernel
theorem dX2_whoKeptBack_3 : decode cX2_whoKeptBack 3 = .ok (.istore_n 3, 1) := by decide +kernel
theorem dX2_whoKeptBack_4 : decode cX2_whoKeptBack 4 = .ok (.iload_n 3, 1) := by decide +kernel
theorem dX2_whoKeptBack_5 : decode cX2_whoKeptBack 5 = .ok (.aload_n 0, 1) := by decide +kernel
theorem dX2_whoKeptBack_6 : decode cX2_whoKeptBack 6 = .ok (.getfield 9, 3) := by decide +kernel
theorem dX2_whoKeptBack_9 : decode cX2_whoKeptBack 9 = .ok (.if_icmp .ge 81, 3) := by decide +kernel
theorem dX2_whoKeptBack_12 : decode cX2_whoKeptBack 12 = .ok (.aload_n 0, 1) := by decide +kernel
theorem dX2_whoKeptBack_13 : decode cX2_whoKeptBack 13 = .ok (.getfield 20, 3) := by decide +kernel
theorem dX2_whoKeptBack_16 : decode cX2_whoKeptBack 16 = .ok (.iload_n 3, 1) := by decide +kernel
theorem dX2_whoKeptBack_17 : decode cX2_whoKeptBack 17 = .ok (.invokevirtual 52, 3) := by decide +kernel
theorem dX2_whoKeptBack_20 : decode cX2_whoKeptBack 20 = .ok (.istore 4, 2) := by decide +kernel
theorem dX2_whoKeptBack_22 : decode cX2_whoKeptBack 22 = .ok (.aload_n 1, 1) := by decide +kernel
theorem dX2_whoKeptBack_23 : decode cX2_whoKeptBack 23 = .ok (.iload 4, 2) := by decide +kernel
theorem dX2_whoKeptBack_25 : decode cX2_whoKeptBack 25 = .ok (.aload_n 1, 1) := by decide +kernel
theorem dX2_whoKeptBack_26 : decode cX2_whoKeptBack 26 = .ok (.getfield 62, 3) := by decide +kernel
theorem dX2_whoKeptBack_29 : decode cX2_whoKeptBack 29 = .ok (.iload 4, 2) := by decide +kernel
theorem dX2_whoKeptBack_31 : decode cX2_whoKeptBack 31 = .ok (.invokevirtual 52, 3) := by decide +kernel
theorem dX2_whoKeptBack_34 : decode cX2_whoKeptBack 34 = .ok (.aload_n 1, 1) := by decide +kernel
theorem dX2_whoKeptBack_35 : decode cX2_whoKeptBack 35 = .ok (.getfield 76, 3) := by decide +kernel
theorem dX2_whoKeptBack_38 : decode cX2_whoKeptBack 38 = .ok (.iload 4, 2) := by decide +kernel
theorem dX2_whoKeptBack_40 : decode cX2_whoKeptBack 40 = .ok (.invokevirtual 52, 3) := by decide +kernel
theorem dX2_whoKeptBack_43 : decode cX2_whoKeptBack 43 = .ok (.invokevirtual 79, 3) := by decide +kernel
theorem dX2_whoKeptBack_46 : decode cX2_whoKeptBack 46 = .ok (.istore 5, 2) := by decide +kernel
theorem dX2_whoKeptBack_48 : decode cX2_whoKeptBack 48 = .ok (.aload_n 0, 1) := by decide +kernel
theorem dX2_whoKeptBack_49 : decode cX2_whoKeptBack 49 = .ok (.getfield 27, 3) := by decide +kernel
theorem dX2_whoKeptBack_52 : decode cX2_whoKeptBack 52 = .ok (.iload_n 3, 1) := by decide +kernel
theorem dX2_whoKeptBack_53 : decode cX2_whoKeptBack 53 = .ok (.invokevirtual 52, 3) := by decide +kernel
theorem dX2_whoKeptBack_56 : decode cX2_whoKeptBack 56 = .ok (.bipush (-9), 2) := by decide +kernel
theorem dX2_whoKeptBack_58 : decode cX2_whoKeptBack 58 = .ok (.if_icmp .ne 26, 3) := by decide +kernel
theorem dX2_whoKeptBack_61 : decode cX2_whoKeptBack 61 = .ok (.iload 5, 2) := by decide +kernel
theorem dX2_whoKeptBack_63 : decode cX2_whoKeptBack 63 = .ok (.aload_n 0, 1) := by decide +kernel
theorem dX2_whoKeptBack_64 : decode cX2_whoKeptBack 64 = .ok (.getfield 24, 3) := by decide +kernel
theorem dX2_whoKeptBack_67 : decode cX2_whoKeptBack 67 = .ok (.iload_n 3, 1) := by decide +kernel
theorem dX2_whoKeptBack_68 : decode cX2_whoKeptBack 68 = .ok (.invokevirtual 52, 3) := by decide +kernel
theorem dX2_whoKeptBack_71 : decode cX2_whoKeptBack 71 = .ok (.invokestatic 83, 3) := by decide +kernel
theorem dX2_whoKeptBack_74 : decode cX2_whoKeptBack 74 = .ok (.ifCond .eq 10, 3) := by decide +kernel
theorem dX2_whoKeptBack_77 : decode cX2_whoKeptBack 77 = .ok (.iload_n 2, 1) := by decide +kernel
theorem dX2_whoKeptBack_78 : decode cX2_whoKeptBack 78 = .ok (.iconst 1, 1) := by decide +kernel
theorem dX2_whoKeptBack_79 : decode cX2_whoKeptBack 79 = .ok (.iload 4, 2) := by decide +kernel
theorem dX2_whoKeptBack_81 : decode cX2_whoKeptBack 81 = .ok (.ishl, 1) := by decide +kernel
theorem dX2_whoKeptBack_82 : decode cX2_whoKeptBack 82 = .ok (.ior, 1) := by decide +kernel
theorem dX2_whoKeptBack_83 : decode cX2_whoKeptBack 83 = .ok (.istore_n 2, 1) := by decide +kernel
theorem dX2_whoKeptBack_84 : decode cX2_whoKeptBack 84 = .ok (.iinc 3 1, 3) := by decide +kernel
theorem dX2_whoKeptBack_87 : decode cX2_whoKeptBack 87 = .ok (.goto (-83), 3) := by decide +kernel
theorem dX2_whoKeptBack_90 : decode cX2_whoKeptBack 90 = .ok (.iload_n 2, 1) := by decide +kernel
theorem dX2_whoKeptBack_91 : decode cX2_whoKeptBack 91 = .ok (.ireturn, 1) := by decide +kernel
theorem dX3_init_0 : decode cX3_init 0 = .ok (.aload_n 0, 1) := by decide +kernel
theorem dX3_init_1 : decode cX3_init 1 = .ok (.invokespecial 3, 3) := by decide +kernel
theorem dX3_init_4 : decode cX3_init 4 = .ok (.aload_n 0, 1) := by decide +kernel
theorem dX3_init_5 : decode cX3_init 5 = .ok (.new 9, 3) := by decide +kernel
theorem dX3_init_8 : decode cX3_init 8 = .ok (.dup, 1) := by decide +kernel
theorem dX3_init_9 : decode cX3_init 9 = .ok (.bipush 60, 2) := by decide +kernel
theorem dX3_init_11 : decode cX3_init 11 = .ok (.invokespecial 11, 3) := by decide +kernel
theorem dX3_init_14 : decode cX3_init 14 = .ok (.putfield 14, 3) := by decide +kernel
theorem dX3_init_17 : decode cX3_init 17 = .ok (.aload_n 0, 1) := by decide +kernel
theorem dX3_init_18 : decode cX3_init 18 = .ok (.iconst 0, 1) := by decide +kernel
theorem dX3_init_19 : decode cX3_init 19 = .ok (.putfield 20, 3) := by decide +kernel
theorem dX3_init_22 : decode cX3_init 22 = .ok (.aload_n 0, 1) := by decide +kernel
theorem dX3_init_23 : decode cX3_init 23 = .ok (.iconst 0, 1) := by decide +kernel
theorem dX3_init_24 : decode cX3_init 24 = .ok (.putfield 24, 3) := by decide +kernel
theorem dX3_init_27 : decode cX3_init 27 = .ok (.aload_n 0, 1) := by decide +kernel
theorem dX3_init_28 : decode cX3_init 28 = .ok (.bipush (-9), 2) := by decide +kernel
theorem dX3_init_30 : decode cX3_init 30 = .ok (.putfield 27, 3) := by decide +kernel
theorem dX3_init_33 : decode cX3_init 33 = .ok (.return_, 1) := by decide +kernel
theorem dX3_readInto_0 : decode cX3_readInto 0 = .ok (.aload_n 0, 1) := by decide +kernel
theorem dX3_readInto_1 : decode cX3_readInto 1 = .ok (.aload_n 2, 1) := by decide +kernel
theorem dX3_readInto_2 : decode cX3_readInto 2 = .ok (.iload_n 3, 1) := by decide +kernel
theorem dX3_readInto_3 : decode cX3_readInto 3 = .ok (.invokevirtual 30, 3) := by decide +kernel
theorem dX3_readInto_6 : decode cX3_readInto 6 = .ok (.aload_n 1, 1) := by decide +kernel
theorem dX3_readInto_7 : decode cX3_readInto 7 = .ok (.invokevirtual 34, 3) := by decide +kernel
theorem dX3_readInto_10 : decode cX3_readInto 10 = .ok (.aload_n 0, 1) := by decide +kernel
theorem dX3_readInto_11 : decode cX3_readInto 11 = .ok (.invokevirtual 39, 3) := by decide +kernel
theorem dX3_readInto_14 : decode cX3_readInto 14 = .ok (.aload_n 0, 1) := by decide +kernel
theorem dX3_readInto_15 : decode cX3_readInto 15 = .ok (.invokevirtual 42, 3) := by decide +kernel
theorem dX3_readInto_18 : decode cX3_readInto 18 = .ok (.bipush 107, 2) := by decide +kernel
theorem dX3_readInto_20 : decode cX3_readInto 20 = .ok (.if_icmp .eq 8, 3) := by decide +kernel
theorem dX3_readInto_23 : decode cX3_readInto 23 = .ok (.aload_n 0, 1) := by decide +kernel
theorem dX3_readInto_24 : decode cX3_readInto 24 = .ok (.getfield 24, 3) := by decide +kernel
theorem dX3_readInto_27 : decode cX3_readInto 27 = .ok (.ireturn, 1) := by decide +kernel
theorem dX3_readInto_28 : decode cX3_readInto 28 = .ok (.aload_n 0, 1) := by decide +kernel
theorem dX3_readInto_29 : decode cX3_readInto 29 = .ok (.dup, 1) := by decide +kernel
theorem dX3_readInto_30 : decode cX3_readInto 30 = .ok (.getfield 24, 3) := by decide +kernel
theorem dX3_readInto_33 : decode cX3_readInto 33 = .ok (.iconst 1, 1) := by decide +kernel
theorem dX3_readInto_34 : decode cX3_readInto 34 = .ok (.iadd, 1) := by decide +kernel
theorem dX3_readInto_35 : decode cX3_readInto 35 = .ok (.putfield 24, 3) := by decide +kernel
theorem dX3_readInto_38 : decode cX3_readInto 38 = .ok (.aload_n 1, 1) := by decide +kernel
theorem dX3_readInto_39 : decode cX3_readInto 39 = .ok (.aload_n 0, 1) := by decide +kernel
theorem dX3_readInto_40 : decode cX3_readInto 40 = .ok (.invokevirtual 46, 3) := by decide +kernel
theorem dX3_readInto_43 : decode cX3_readInto 43 = .ok (.putfield 49, 3) := by decide +kernel
theorem dX3_readInto_46 : decode cX3_readInto 46 = .ok (.aload_n 0, 1) := by decide +kernel
theorem dX3_readInto_47 : decode cX3_readInto 47 = .ok (.invokevirtual 39, 3) := by decide +kernel
theorem dX3_readInto_50 : decode cX3_readInto 50 = .ok (.iconst 0, 1) := by decide +kernel
theorem dX3_readInto_51 : decode cX3_readInto 51 = .ok (.istore 4, 2) := by decide +kernel
theorem dX3_readInto_53 : decode cX3_readInto 53 = .ok (.iload 4, 2) := by decide +kernel
theorem dX3_readInto_55 : decode cX3_readInto 55 = .ok (.bipush 6, 2) := by decide +kernel
theorem dX3_readInto_57 : decode cX3_readInto 57 = .ok (.if_icmp .gt 43, 3) := by decide +kernel
theorem dX3_readInto_60 : decode cX3_readInto 60 = .ok (.aload_n 0, 1) := by decide +kernel
theorem dX3_readInto_61 : decode cX3_readInto 61 = .ok (.getfield 27, 3) := by decide +kernel
theorem dX3_readInto_64 : decode cX3_readInto 64 = .ok (.bipush (-9), 2) := by decide +kernel
theorem dX3_readInto_66 : decode cX3_readInto 66 = .ok (.if_icmp .ne 34, 3) := by decide +kernel
theorem dX3_readInto_69 : decode cX3_readInto 69 = .ok (.iload 4, 2) := by decide +kernel
theorem dX3_readInto_71 : decode cX3_readInto 71 = .ok (.ifCond .eq 14, 3) := by decide +kernel
theorem dX3_readInto_74 : decode cX3_readInto 74 = .ok (.aload_n 0, 1) := by decide +kernel
theorem dX3_readInto_75 : decode cX3_readInto 75 = .ok (.getfield 24, 3) := by decide +kernel
theorem dX3_readInto_78 : decode cX3_readInto 78 = .ok (.aload_n 0, 1) := by decide +kernel
theorem dX3_readInto_79 : decode cX3_readInto 79 = .ok (.getfield 20, 3) := by decide +kernel
theorem dX3_readInto_82 : decode cX3_readInto 82 = .ok (.if_icmp .ge 18, 3) := by decide +kernel
theorem dX3_readInto_85 : decode cX3_readInto 85 = .ok (.aload_n 0, 1) := by decide +kernel
theorem dX3_readInto_86 : decode cX3_readInto 86 = .ok (.aload_n 1, 1) := by decide +kernel
theorem dX3_readInto_87 : decode cX3_readInto 87 = .ok (.invokevirtual 52, 3) := by decide +kernel
theorem dX3_readInto_90 : decode cX3_readInto 90 = .ok (.aload_n 0, 1) := by decide +kernel
theorem dX3_readInto_91 : decode cX3_readInto 91 = .ok (.invokevirtual 39, 3) := by decide +kernel
theorem dX3_readInto_94 : decode cX3_readInto 94 = .ok (.iinc 4 1, 3) := by decide +kernel
theorem dX3_readInto_97 : decode cX3_readInto 97 = .ok (.goto (-44), 3) := by decide +kernel
theorem dX3_readInto_100 : decode cX3_readInto 100 = .ok (.aload_n 0, 1) := by decide +kernel
theorem dX3_readInto_101 : decode cX3_readInto 101 = .ok (.getfield 27, 3) := by decide +kernel
theorem dX3_readInto_104 : decode cX3_readInto 104 = .ok (.ireturn, 1) := by decide +kernel
theorem dX3_open_0 : decode cX3_open 0 = .ok (.aload_n 0, 1) := by decide +kernel
theorem dX3_open_1 : decode cX3_open 1 = .ok (.aload_n 1, 1) := by decide +kernel
theorem dX3_open_2 : decode cX3_open 2 = .ok (.iload_n 2, 1) := by decide +kernel
theorem dX3_open_3 : decode cX3_open 3 = .ok (.invokevirtual 56, 3) := by decide +kernel
theorem dX3_open_6 : decode cX3_open 6 = .ok (.putfield 20, 3) := by decide +kernel
theorem dX3_open_9 : decode cX3_open 9 = .ok (.iconst 0, 1) := by decide +kernel
theorem dX3_open_10 : decode cX3_open 10 = .ok (.istore_n 3, 1) := by decide +kernel
theorem dX3_open_11 : decode cX3_open 11 = .ok (.iload_n 3, 1) := by decide +kernel
theorem dX3_open_12 : decode cX3_open 12 = .ok (.aload_n 0, 1) := by decide +kernel
theorem dX3_open_13 : decode cX3_open 13 = .ok (.getfield 20, 3) := by decide +kernel
theorem dX3_open_16 : decode cX3_open 16 = .ok (.if_icmp .ge 23, 3) := by decide +kernel
theorem dX3_open_19 : decode cX3_open 19 = .ok (.aload_n 0, 1) := by decide +kernel
theorem dX3_open_20 : decode cX3_open 20 = .ok (.getfield 14, 3) := by decide +kernel
theorem dX3_open_23 : decode cX3_open 23 = .ok (.iload_n 3, 1) := by decide +kernel
theorem dX3_open_24 : decode cX3_open 24 = .ok (.aload_n 1, 1) := by decide +kernel
theorem dX3_open_25 : decode cX3_open 25 = .ok (.iload_n 2, 1) := by decide +kernel
theorem dX3_open_26 : decode cX3_open 26 = .ok (.iload_n 3, 1) := by decide +kernel
theorem dX3_open_27 : decode cX3_open 27 = .ok (.invokevirtual 62, 3) := by decide +kernel
theorem dX3_open_30 : decode cX3_open 30 = .ok (.invokevirtual 66, 3) := by decide +kernel
theorem dX3_open_33 : decode cX3_open 33 = .ok (.iinc 3 1, 3) := by decide +kernel
theorem dX3_open_36 : decode cX3_open 36 = .ok (.goto (-25), 3) := by decide +kernel
theorem dX3_open_39 : decode cX3_open 39 = .ok (.aload_n 0, 1) := by decide +kernel
theorem dX3_open_40 : decode cX3_open 40 = .ok (.iconst 0, 1) := by decide +kernel
theorem dX3_open_41 : decode cX3_open 41 = .ok (.putfield 24, 3) := by decide +kernel
theorem dX3_open_44 : decode cX3_open 44 = .ok (.aload_n 0, 1) := by decide +kernel
theorem dX3_open_45 : decode cX3_open 45 = .ok (.bipush (-9), 2) := by decide +kernel
theorem dX3_open_47 : decode cX3_open 47 = .ok (.putfield 27, 3) := by decide +kernel
theorem dX3_open_50 : decode cX3_open 50 = .ok (.return_, 1) := by decide +kernel
theorem dX3_readBear_0 : decode cX3_readBear 0 = .ok (.aload_n 1, 1) := by decide +kernel
theorem dX3_readBear_1 : decode cX3_readBear 1 = .ok (.getfield 70, 3) := by decide +kernel
theorem dX3_readBear_4 : decode cX3_readBear 4 = .ok (.bipush 6, 2) := by decide +kernel
theorem dX3_readBear_6 : decode cX3_readBear 6 = .ok (.if_icmp .ge 13, 3) := by decide +kernel
theorem dX3_readBear_9 : decode cX3_readBear 9 = .ok (.aload_n 0, 1) := by decide +kernel
theorem dX3_readBear_10 : decode cX3_readBear 10 = .ok (.invokevirtual 42, 3) := by decide +kernel
theorem dX3_readBear_13 : decode cX3_readBear 13 = .ok (.invokestatic 73, 3) := by decide +kernel
theorem dX3_readBear_16 : decode cX3_readBear 16 = .ok (.goto 5, 3) := by decide +kernel
theorem dX3_readBear_19 : decode cX3_readBear 19 = .ok (.bipush (-9), 2) := by decide +kernel
theorem dX3_readBear_21 : decode cX3_readBear 21 = .ok (.istore_n 2, 1) := by decide +kernel
theorem dX3_readBear_22 : decode cX3_readBear 22 = .ok (.iload_n 2, 1) := by decide +kernel
theorem dX3_readBear_23 : decode cX3_readBear 23 = .ok (.bipush (-9), 2) := by decide +kernel
theorem dX3_readBear_25 : decode cX3_readBear 25 = .ok (.if_icmp .ne 12, 3) := by decide +kernel
theorem dX3_readBear_28 : decode cX3_readBear 28 = .ok (.aload_n 0, 1) := by decide +kernel
theorem dX3_readBear_29 : decode cX3_readBear 29 = .ok (.aload_n 0, 1) := by decide +kernel
theorem dX3_readBear_30 : decode cX3_readBear 30 = .ok (.getfield 24, 3) := by decide +kernel
theorem dX3_readBear_33 : decode cX3_readBear 33 = .ok (.invokevirtual 76, 3) := by decide +kernel
theorem dX3_readBear_36 : decode cX3_readBear 36 = .ok (.return_, 1) := by decide +kernel
theorem dX3_readBear_37 : decode cX3_readBear 37 = .ok (.aload_n 0, 1) := by decide +kernel
theorem dX3_readBear_38 : decode cX3_readBear 38 = .ok (.dup, 1) := by decide +kernel
theorem dX3_readBear_39 : decode cX3_readBear 39 = .ok (.getfield 24, 3) := by decide +kernel
theorem dX3_readBear_42 : decode cX3_readBear 42 = .ok (.iconst 1, 1) := by decide +kernel
theorem dX3_readBear_43 : decode cX3_readBear 43 = .ok (.iadd, 1) := by decide +kernel
theorem dX3_readBear_44 : decode cX3_readBear 44 = .ok (.putfield 24, 3) := by decide +kernel
theorem dX3_readBear_47 : decode cX3_readBear 47 = .ok (.aload_n 0, 1) := by decide +kernel
theorem dX3_readBear_48 : decode cX3_readBear 48 = .ok (.iconst 2, 1) := by decide +kernel
theorem dX3_readBear_49 : decode cX3_readBear 49 = .ok (.invokevirtual 79, 3) := by decide +kernel
theorem dX3_readBear_52 : decode cX3_readBear 52 = .ok (.istore_n 3, 1) := by decide +kernel
theorem dX3_readBear_53 : decode cX3_readBear 53 = .ok (.aload_n 0, 1) := by decide +kernel
theorem dX3_readBear_54 : decode cX3_readBear 54 = .ok (.bipush 9, 2) := by decide +kernel
theorem dX3_readBear_56 : decode cX3_readBear 56 = .ok (.invokevirtual 79, 3) := by decide +kernel
theorem dX3_readBear_59 : decode cX3_readBear 59 = .ok (.istore 4, 2) := by decide +kernel
theorem dX3_readBear_61 : decode cX3_readBear 61 = .ok (.aload_n 0, 1) := by decide +kernel
theorem dX3_readBear_62 : decode cX3_readBear 62 = .ok (.invokevirtual 46, 3) := by decide +kernel
theorem dX3_readBear_65 : decode cX3_readBear 65 = .ok (.istore 5, 2) := by decide +kernel
theorem dX3_readBear_67 : decode cX3_readBear 67 = .ok (.aload_n 0, 1) := by decide +kernel
theorem dX3_readBear_68 : decode cX3_readBear 68 = .ok (.getfield 27, 3) := by decide +kernel
theorem dX3_readBear_71 : decode cX3_readBear 71 = .ok (.bipush (-9), 2) := by decide +kernel
theorem dX3_readBear_73 : decode cX3_readBear 73 = .ok (.if_icmp .ne 13, 3) := by decide +kernel
theorem dX3_readBear_76 : decode cX3_readBear 76 = .ok (.aload_n 1, 1) := by decide +kernel
theorem dX3_readBear_77 : decode cX3_readBear 77 = .ok (.iload_n 2, 1) := by decide +kernel
theorem dX3_readBear_78 : decode cX3_readBear 78 = .ok (.iload_n 3, 1) := by decide +kernel
theorem dX3_readBear_79 : decode cX3_readBear 79 = .ok (.iload 4, 2) := by decide +kernel
theorem dX3_readBear_81 : decode cX3_readBear 81 = .ok (.iload 5, 2) := by decide +kernel
theorem dX3_readBear_83 : decode cX3_readBear 83 = .ok (.invokevirtual 82, 3) := by decide +kernel
theorem dX3_readBear_86 : decode cX3_readBear 86 = .ok (.return_, 1) := by decide +kernel
theorem dX3_skipBlanks_0 : decode cX3_skipBlanks 0 = .ok (.aload_n 0, 1) := by decide +kernel
theorem dX3_skipBlanks_1 : decode cX3_skipBlanks 1 = .ok (.getfield 24, 3) := by decide +kernel
theorem dX3_skipBlanks_4 : decode cX3_skipBlanks 4 = .ok (.aload_n 0, 1) := by decide +kernel
theorem dX3_skipBlanks_5 : decode cX3_skipBlanks 5 = .ok (.getfield 20, 3) := by decide +kernel
theorem dX3_skipBlanks_8 : decode cX3_skipBlanks 8 = .ok (.if_icmp .ge 32, 3) := by decide +kernel
theorem dX3_skipBlanks_11 : decode cX3_skipBlanks 11 = .ok (.aload_n 0, 1) := by decide +kernel
theorem dX3_skipBlanks_12 : decode cX3_skipBlanks 12 = .ok (.getfield 14, 3) := by decide +kernel
theorem dX3_skipBlanks_15 : decode cX3_skipBlanks 15 = .ok (.aload_n 0, 1) := by decide +kernel
theorem dX3_skipBlanks_16 : decode cX3_skipBlanks 16 = .ok (.getfield 24, 3) := by decide +kernel
theorem dX3_skipBlanks_19 : decode cX3_skipBlanks 19 = .ok (.invokevirtual 86, 3) := by decide +kernel
theorem dX3_skipBlanks_22 : decode cX3_skipBlanks 22 = .ok (.bipush 32, 2) := by decide +kernel
theorem dX3_skipBlanks_24 : decode cX3_skipBlanks 24 = .ok (.if_icmp .ne 16, 3) := by decide +kernel
theorem dX3_skipBlanks_27 : decode cX3_skipBlanks 27 = .ok (.aload_n 0, 1) := by decide +kernel
theorem dX3_skipBlanks_28 : decode cX3_skipBlanks 28 = .ok (.dup, 1) := by decide +kernel
theorem dX3_skipBlanks_29 : decode cX3_skipBlanks 29 = .ok (.getfield 24, 3) := by decide +kernel
theorem dX3_skipBlanks_32 : decode cX3_skipBlanks 32 = .ok (.iconst 1, 1) := by decide +kernel
theorem dX3_skipBlanks_33 : decode cX3_skipBlanks 33 = .ok (.iadd, 1) := by decide +kernel
theorem dX3_skipBlanks_34 : decode cX3_skipBlanks 34 = .ok (.putfield 24, 3) := by decide +kernel
theorem dX3_skipBlanks_37 : decode cX3_skipBlanks 37 = .ok (.goto (-37), 3) := by decide +kernel
theorem dX3_skipBlanks_40 : decode cX3_skipBlanks 40 = .ok (.return_, 1) := by decide +kernel
theorem dX3_byteHere_0 : decode cX3_byteHere 0 = .ok (.aload_n 0, 1) := by decide +kernel
theorem dX3_byteHere_1 : decode cX3_byteHere 1 = .ok (.getfield 24, 3) := by decide +kernel
theorem dX3_byteHere_4 : decode cX3_byteHere 4 = .ok (.aload_n 0, 1) := by decide +kernel
theorem dX3_byteHere_5 : decode cX3_byteHere 5 = .ok (.getfield 20, 3) := by decide +kernel
theorem dX3_byteHere_8 : decode cX3_byteHere 8 = .ok (.if_icmp .ge 17, 3) := by decide +kernel
theorem dX3_byteHere_11 : decode cX3_byteHere 11 = .ok (.aload_n 0, 1) := by decide +kernel
theorem dX3_byteHere_12 : decode cX3_byteHere 12 = .ok (.getfield 14, 3) := by decide +kernel
theorem dX3_byteHere_15 : decode cX3_byteHere 15 = .ok (.aload_n 0, 1) := by decide +kernel
theorem dX3_byteHere_16 : decode cX3_byteHere 16 = .ok (.getfield 24, 3) := by decide +kernel
theorem dX3_byteHere_19 : decode cX3_byteHere 19 = .ok (.invokevirtual 86, 3) := by decide +kernel
theorem dX3_byteHere_22 : decode cX3_byteHere 22 = .ok (.goto 6, 3) := by decide +kernel
theorem dX3_byteHere_25 : decode cX3_byteHere 25 = .ok (.sipush 256, 3) := by decide +kernel
theorem dX3_byteHere_28 : decode cX3_byteHere 28 = .ok (.ireturn, 1) := by decide +kernel
theorem dX3_fail_0 : decode cX3_fail 0 = .ok (.aload_n 0, 1) := by decide +kernel
theorem dX3_fail_1 : decode cX3_fail 1 = .ok (.getfield 27, 3) := by decide +kernel
theorem dX3_fail_4 : decode cX3_fail 4 = .ok (.bipush (-9), 2) := by decide +kernel
theorem dX3_fail_6 : decode cX3_fail 6 = .ok (.if_icmp .ne 8, 3) := by decide +kernel
theorem dX3_fail_9 : decode cX3_fail 9 = .ok (.aload_n 0, 1) := by decide +kernel
theorem dX3_fail_10 : decode cX3_fail 10 = .ok (.iload_n 1, 1) := by decide +kernel
theorem dX3_fail_11 : decode cX3_fail 11 = .ok (.putfield 27, 3) := by decide +kernel
theorem dX3_fail_14 : decode cX3_fail 14 = .ok (.return_, 1) := by decide +kernel
theorem dX3_oneFigure_0 : decode cX3_oneFigure 0 = .ok (.aload_n 0, 1) := by decide +kernel
theorem dX3_oneFigure_1 : decode cX3_oneFigure 1 = .ok (.invokevirtual 42, 3) := by decide +kernel
theorem dX3_oneFigure_4 : decode cX3_oneFigure 4 = .ok (.bipush 48, 2) := by decide +kernel
theorem dX3_oneFigure_6 : decode cX3_oneFigure 6 = .ok (.isub, 1) := by decide +kernel
theorem dX3_oneFigure_7 : decode cX3_oneFigure 7 = .ok (.istore_n 2, 1) := by decide +kernel
theorem dX3_oneFigure_8 : decode cX3_oneFigure 8 = .ok (.iload_n 2, 1) := by decide +kernel
theorem dX3_oneFigure_9 : decode cX3_oneFigure 9 = .ok (.ifCond .lt 8, 3) := by decide +kernel
theorem dX3_oneFigure_12 : decode cX3_oneFigure 12 = .ok (.iload_n 2, 1) := by decide +kernel
theorem dX3_oneFigure_13 : decode cX3_oneFigure 13 = .ok (.iload_n 1, 1) := by decide +kernel
theorem dX3_oneFigure_14 : decode cX3_oneFigure 14 = .ok (.if_icmp .le 13, 3) := by decide +kernel
theorem dX3_oneFigure_17 : decode cX3_oneFigure 17 = .ok (.aload_n 0, 1) := by decide +kernel
theorem dX3_oneFigure_18 : decode cX3_oneFigure 18 = .ok (.aload_n 0, 1) := by decide +kernel
theorem dX3_oneFigure_19 : decode cX3_oneFigure 19 = .ok (.getfield 24, 3) := by decide +kernel
theorem dX3_oneFigure_22 : decode cX3_oneFigure 22 = .ok (.invokevirtual 76, 3) := by decide +kernel
theorem dX3_oneFigure_25 : decode cX3_oneFigure 25 = .ok (.iconst 0, 1) := by decide +kernel
theorem dX3_oneFigure_26 : decode cX3_oneFigure 26 = .ok (.ireturn, 1) := by decide +kernel
theorem dX3_oneFigure_27 : decode cX3_oneFigure 27 = .ok (.aload_n 0, 1) := by decide +kernel
theorem dX3_oneFigure_28 : decode cX3_oneFigure 28 = .ok (.dup, 1) := by decide +kernel
theorem dX3_oneFigure_29 : decode cX3_oneFigure 29 = .ok (.getfield 24, 3) := by decide +kernel
theorem dX3_oneFigure_32 : decode cX3_oneFigure 32 = .ok (.iconst 1, 1) := by decide +kernel
theorem dX3_oneFigure_33 : decode cX3_oneFigure 33 = .ok (.iadd, 1) := by decide +kernel
theorem dX3_oneFigure_34 : decode cX3_oneFigure 34 = .ok (.putfield 24, 3) := by decide +kernel
theorem dX3_oneFigure_37 : decode cX3_oneFigure 37 = .ok (.iload_n 2, 1) := by decide +kernel
theorem dX3_oneFigure_38 : decode cX3_oneFigure 38 = .ok (.ireturn, 1) := by decide +kernel
theorem dX3_twoFigures_0 : decode cX3_twoFigures 0 = .ok (.aload_n 0, 1) := by decide +kernel
theorem dX3_twoFigures_1 : decode cX3_twoFigures 1 = .ok (.getfield 24, 3) := by decide +kernel
theorem dX3_twoFigures_4 : decode cX3_twoFigures 4 = .ok (.istore_n 1, 1) := by decide +kernel
theorem dX3_twoFigures_5 : decode cX3_twoFigures 5 = .ok (.aload_n 0, 1) := by decide +kernel
theorem dX3_twoFigures_6 : decode cX3_twoFigures 6 = .ok (.bipush 9, 2) := by decide +kernel
theorem dX3_twoFigures_8 : decode cX3_twoFigures 8 = .ok (.invokevirtual 79, 3) := by decide +kernel
theorem dX3_twoFigures_11 : decode cX3_twoFigures 11 = .ok (.istore_n 2, 1) := by decide +kernel
theorem dX3_twoFigures_12 : decode cX3_twoFigures 12 = .ok (.aload_n 0, 1) := by decide +kernel
theorem dX3_twoFigures_13 : decode cX3_twoFigures 13 = .ok (.getfield 27, 3) := by decide +kernel
theorem dX3_twoFigures_16 : decode cX3_twoFigures 16 = .ok (.bipush (-9), 2) := by decide +kernel
theorem dX3_twoFigures_18 : decode cX3_twoFigures 18 = .ok (.if_icmp .eq 5, 3) := by decide +kernel
theorem dX3_twoFigures_21 : decode cX3_twoFigures 21 = .ok (.iconst 0, 1) := by decide +kernel
theorem dX3_twoFigures_22 : decode cX3_twoFigures 22 = .ok (.ireturn, 1) := by decide +kernel
theorem dX3_twoFigures_23 : decode cX3_twoFigures 23 = .ok (.bipush 10, 2) := by decide +kernel
theorem dX3_twoFigures_25 : decode cX3_twoFigures 25 = .ok (.iload_n 2, 1) := by decide +kernel
theorem dX3_twoFigures_26 : decode cX3_twoFigures 26 = .ok (.imul, 1) := by decide +kernel
theorem dX3_twoFigures_27 : decode cX3_twoFigures 27 = .ok (.aload_n 0, 1) := by decide +kernel
theorem dX3_twoFigures_28 : decode cX3_twoFigures 28 = .ok (.bipush 9, 2) := by decide +kernel
theorem dX3_twoFigures_30 : decode cX3_twoFigures 30 = .ok (.invokevirtual 79, 3) := by decide +kernel
theorem dX3_twoFigures_33 : decode cX3_twoFigures 33 = .ok (.iadd, 1) := by decide +kernel
theorem dX3_twoFigures_34 : decode cX3_twoFigures 34 = .ok (.istore_n 3, 1) := by decide +kernel
theorem dX3_twoFigures_35 : decode cX3_twoFigures 35 = .ok (.iload_n 3, 1) := by decide +kernel
theorem dX3_twoFigures_36 : decode cX3_twoFigures 36 = .ok (.bipush 63, 2) := by decide +kernel
theorem dX3_twoFigures_38 : decode cX3_twoFigures 38 = .ok (.if_icmp .le 8, 3) := by decide +kernel
theorem dX3_twoFigures_41 : decode cX3_twoFigures 41 = .ok (.aload_n 0, 1) := by decide +kernel
theorem dX3_twoFigures_42 : decode cX3_twoFigures 42 = .ok (.iload_n 1, 1) := by decide +kernel
theorem dX3_twoFigures_43 : decode cX3_twoFigures 43 = .ok (.invokevirtual 76, 3) := by decide +kernel
theorem dX3_twoFigures_46 : decode cX3_twoFigures 46 = .ok (.iload_n 3, 1) := by decide +kernel
theorem dX3_twoFigures_47 : decode cX3_twoFigures 47 = .ok (.ireturn, 1) := by decide +kernel
theorem dX3_kindOfLetter_0 : decode cX3_kindOfLetter 0 = .ok (.iload_n 0, 1) := by decide +kernel
theorem dX3_kindOfLetter_1 : decode cX3_kindOfLetter 1 = .ok (.tableswitch 95 98 114 #[83, 95, 95, 95, 95, 91, 95, 95, 95, 95, 85, 89, 95, 95, 87, 95, 93], 83) := by decide +kernel
theorem dX3_kindOfLetter_84 : decode cX3_kindOfLetter 84 = .ok (.iconst 0, 1) := by decide +kernel
theorem dX3_kindOfLetter_85 : decode cX3_kindOfLetter 85 = .ok (.ireturn, 1) := by decide +kernel
theorem dX3_kindOfLetter_86 : decode cX3_kindOfLetter 86 = .ok (.iconst 1, 1) := by decide +kernel
theorem dX3_kindOfLetter_87 : decode cX3_kindOfLetter 87 = .ok (.ireturn, 1) := by decide +kernel
theorem dX3_kindOfLetter_88 : decode cX3_kindOfLetter 88 = .ok (.iconst 2, 1) := by decide +kernel
theorem dX3_kindOfLetter_89 : decode cX3_kindOfLetter 89 = .ok (.ireturn, 1) := by decide +kernel
theorem dX3_kindOfLetter_90 : decode cX3_kindOfLetter 90 = .ok (.iconst 3, 1) := by decide +kernel
theorem dX3_kindOfLetter_91 : decode cX3_kindOfLetter 91 = .ok (.ireturn, 1) := by decide +kernel
theorem dX3_kindOfLetter_92 : decode cX3_kindOfLetter 92 = .ok (.iconst 4, 1) := by decide +kernel
theorem dX3_kindOfLetter_93 : decode cX3_kindOfLetter 93 = .ok (.ireturn, 1) := by decide +kernel
theorem dX3_kindOfLetter_94 : decode cX3_kindOfLetter 94 = .ok (.iconst 5, 1) := by decide +kernel
theorem dX3_kindOfLetter_95 : decode cX3_kindOfLetter 95 = .ok (.ireturn, 1) := by decide +kernel
theorem dX3_kindOfLetter_96 : decode cX3_kindOfLetter 96 = .ok (.bipush (-9), 2) := by decide +kernel
theorem dX3_kindOfLetter_98 : decode cX3_kindOfLetter 98 = .ok (.ireturn, 1) := by decide +kernel
theorem dX4_init_0 : decode cX4_init 0 = .ok (.aload_n 0, 1) := by decide +kernel
theorem dX4_init_1 : decode cX4_init 1 = .ok (.invokespecial 1, 3) := by decide +kernel
theorem dX4_init_4 : decode cX4_init 4 = .ok (.aload_n 0, 1) := by decide +kernel
theorem dX4_init_5 : decode cX4_init 5 = .ok (.iload_n 1, 1) := by decide +kernel
theorem dX4_init_6 : decode cX4_init 6 = .ok (.putfield 7, 3) := by decide +kernel
theorem dX4_init_9 : decode cX4_init 9 = .ok (.aload_n 0, 1) := by decide +kernel
theorem dX4_init_10 : decode cX4_init 10 = .ok (.iload_n 2, 1) := by decide +kernel
theorem dX4_init_11 : decode cX4_init 11 = .ok (.putfield 13, 3) := by decide +kernel
theorem dX4_init_14 : decode cX4_init 14 = .ok (.aload_n 0, 1) := by decide +kernel
theorem dX4_init_15 : decode cX4_init 15 = .ok (.new 16, 3) := by decide +kernel
theorem dX4_init_18 : decode cX4_init 18 = .ok (.dup, 1) := by decide +kernel
theorem dX4_init_19 : decode cX4_init 19 = .ok (.iload_n 1, 1) := by decide +kernel
theorem dX4_init_20 : decode cX4_init 20 = .ok (.invokespecial 18, 3) := by decide +kernel
theorem dX4_init_23 : decode cX4_init 23 = .ok (.putfield 21, 3) := by decide +kernel
theorem dX4_init_26 : decode cX4_init 26 = .ok (.aload_n 0, 1) := by decide +kernel
theorem dX4_init_27 : decode cX4_init 27 = .ok (.new 16, 3) := by decide +kernel
theorem dX4_init_30 : decode cX4_init 30 = .ok (.dup, 1) := by decide +kernel
theorem dX4_init_31 : decode cX4_init 31 = .ok (.iload_n 1, 1) := by decide +kernel
theorem dX4_init_32 : decode cX4_init 32 = .ok (.iload_n 2, 1) := by decide +kernel
theorem dX4_init_33 : decode cX4_init 33 = .ok (.imul, 1) := by decide +kernel
theorem dX4_init_34 : decode cX4_init 34 = .ok (.invokespecial 18, 3) := by decide +kernel
theorem dX4_init_37 : decode cX4_init 37 = .ok (.putfield 25, 3) := by decide +kernel
theorem dX4_init_40 : decode cX4_init 40 = .ok (.iconst 0, 1) := by decide +kernel
theorem dX4_init_41 : decode cX4_init 41 = .ok (.istore_n 3, 1) := by decide +kernel
theorem dX4_init_42 : decode cX4_init 42 = .ok (.iload_n 3, 1) := by decide +kernel
theorem dX4_init_43 : decode cX4_init 43 = .ok (.iload_n 1, 1) := by decide +kernel
theorem dX4_init_44 : decode cX4_init 44 = .ok (.if_icmp .ge 18, 3) := by decide +kernel
theorem dX4_init_47 : decode cX4_init 47 = .ok (.aload_n 0, 1) := by decide +kernel
theorem dX4_init_48 : decode cX4_init 48 = .ok (.getfield 21, 3) := by decide +kernel
theorem dX4_init_51 : decode cX4_init 51 = .ok (.iload_n 3, 1) := by decide +kernel
theorem dX4_init_52 : decode cX4_init 52 = .ok (.iconst (-1), 1) := by decide +kernel
theorem dX4_init_53 : decode cX4_init 53 = .ok (.invokevirtual 28, 3) := by decide +kernel
theorem dX4_init_56 : decode cX4_init 56 = .ok (.iinc 3 1, 3) := by decide +kernel
theorem dX4_init_59 : decode cX4_init 59 = .ok (.goto (-17), 3) := by decide +kernel
theorem dX4_init_62 : decode cX4_init 62 = .ok (.return_, 1) := by decide +kernel
theorem dX4_isNumber_0 : decode cX4_isNumber 0 = .ok (.iload_n 1, 1) := by decide +kernel
theorem dX4_isNumber_1 : decode cX4_isNumber 1 = .ok (.ifCond .lt 15, 3) := by decide +kernel
theorem dX4_isNumber_4 : decode cX4_isNumber 4 = .ok (.iload_n 1, 1) := by decide +kernel
theorem dX4_isNumber_5 : decode cX4_isNumber 5 = .ok (.aload_n 0, 1) := by decide +kernel
theorem dX4_isNumber_6 : decode cX4_isNumber 6 = .ok (.getfield 7, 3) := by decide +kernel
theorem dX4_isNumber_9 : decode cX4_isNumber 9 = .ok (.if_icmp .ge 7, 3) := by decide +kernel
theorem dX4_isNumber_12 : decode cX4_isNumber 12 = .ok (.iconst 1, 1) := by decide +kernel
theorem dX4_isNumber_13 : decode cX4_isNumber 13 = .ok (.goto 4, 3) := by decide +kernel
theorem dX4_isNumber_16 : decode cX4_isNumber 16 = .ok (.iconst 0, 1) := by decide +kernel
theorem dX4_isNumber_17 : decode cX4_isNumber 17 = .ok (.ireturn, 1) := by decide +kernel
theorem dX4_sizeOf_0 : decode cX4_sizeOf 0 = .ok (.aload_n 0, 1) := by decide +kernel
theorem dX4_sizeOf_1 : decode cX4_sizeOf 1 = .ok (.iload_n 1, 1) := by decide +kernel
theorem dX4_sizeOf_2 : decode cX4_sizeOf 2 = .ok (.invokevirtual 32, 3) := by decide +kernel
theorem dX4_sizeOf_5 : decode cX4_sizeOf 5 = .ok (.ifCond .eq 14, 3) := by decide +kernel
theorem dX4_sizeOf_8 : decode cX4_sizeOf 8 = .ok (.aload_n 0, 1) := by decide +kernel
theorem dX4_sizeOf_9 : decode cX4_sizeOf 9 = .ok (.getfield 21, 3) := by decide +kernel
theorem dX4_sizeOf_12 : decode cX4_sizeOf 12 = .ok (.iload_n 1, 1) := by decide +kernel
theorem dX4_sizeOf_13 : decode cX4_sizeOf 13 = .ok (.invokevirtual 36, 3) := by decide +kernel
theorem dX4_sizeOf_16 : decode cX4_sizeOf 16 = .ok (.goto 4, 3) := by decide +kernel
theorem dX4_sizeOf_19 : decode cX4_sizeOf 19 = .ok (.iconst (-1), 1) := by decide +kernel
theorem dX4_sizeOf_20 : decode cX4_sizeOf 20 = .ok (.ireturn, 1) := by decide +kernel
theorem dX4_has_0 : decode cX4_has 0 = .ok (.aload_n 0, 1) := by decide +kernel
theorem dX4_has_1 : decode cX4_has 1 = .ok (.iload_n 1, 1) := by decide +kernel
theorem dX4_has_2 : decode cX4_has 2 = .ok (.invokevirtual 40, 3) := by decide +kernel
theorem dX4_has_5 : decode cX4_has 5 = .ok (.iconst (-1), 1) := by decide +kernel
theorem dX4_has_6 : decode cX4_has 6 = .ok (.if_icmp .eq 7, 3) := by decide +kernel
theorem dX4_has_9 : decode cX4_has 9 = .ok (.iconst 1, 1) := by decide +kernel
theorem dX4_has_10 : decode cX4_has 10 = .ok (.goto 4, 3) := by decide +kernel
theorem dX4_has_13 : decode cX4_has 13 = .ok (.iconst 0, 1) := by decide +kernel
theorem dX4_has_14 : decode cX4_has 14 = .ok (.ireturn, 1) := by decide +kernel
theorem dX4_hasPlace_0 : decode cX4_hasPlace 0 = .ok (.iload_n 2, 1) := by decide +kernel
theorem dX4_hasPlace_1 : decode cX4_hasPlace 1 = .ok (.ifCond .lt 16, 3) := by decide +kernel
theorem dX4_hasPlace_4 : decode cX4_hasPlace 4 = .ok (.iload_n 2, 1) := by decide +kernel
theorem dX4_hasPlace_5 : decode cX4_hasPlace 5 = .ok (.aload_n 0, 1) := by decide +kernel
theorem dX4_hasPlace_6 : decode cX4_hasPlace 6 = .ok (.iload_n 1, 1) := by decide +kernel
theorem dX4_hasPlace_7 : decode cX4_hasPlace 7 = .ok (.invokevirtual 40, 3) := by decide +kernel
theorem dX4_hasPlace_10 : decode cX4_hasPlace 10 = .ok (.if_icmp .ge 7, 3) := by decide +kernel
theorem dX4_hasPlace_13 : decode cX4_hasPlace 13 = .ok (.iconst 1, 1) := by decide +kernel
theorem dX4_hasPlace_14 : decode cX4_hasPlace 14 = .ok (.goto 4, 3) := by decide +kernel
theorem dX4_hasPlace_17 : decode cX4_hasPlace 17 = .ok (.iconst 0, 1) := by decide +kernel
theorem dX4_hasPlace_18 : decode cX4_hasPlace 18 = .ok (.ireturn, 1) := by decide +kernel
theorem dX4_get_0 : decode cX4_get 0 = .ok (.aload_n 0, 1) := by decide +kernel
theorem dX4_get_1 : decode cX4_get 1 = .ok (.iload_n 1, 1) := by decide +kernel
theorem dX4_get_2 : decode cX4_get 2 = .ok (.iload_n 2, 1) := by decide +kernel
theorem dX4_get_3 : decode cX4_get 3 = .ok (.invokevirtual 43, 3) := by decide +kernel
theorem dX4_get_6 : decode cX4_get 6 = .ok (.ifCond .eq 21, 3) := by decide +kernel
theorem dX4_get_9 : decode cX4_get 9 = .ok (.aload_n 0, 1) := by decide +kernel
theorem dX4_get_10 : decode cX4_get 10 = .ok (.getfield 25, 3) := by decide +kernel
theorem dX4_get_13 : decode cX4_get 13 = .ok (.iload_n 1, 1) := by decide +kernel
theorem dX4_get_14 : decode cX4_get 14 = .ok (.aload_n 0, 1) := by decide +kernel
theorem dX4_get_15 : decode cX4_get 15 = .ok (.getfield 13, 3) := by decide +kernel
theorem dX4_get_18 : decode cX4_get 18 = .ok (.imul, 1) := by decide +kernel
theorem dX4_get_19 : decode cX4_get 19 = .ok (.iload_n 2, 1) := by decide +kernel
theorem dX4_get_20 : decode cX4_get 20 = .ok (.iadd, 1) := by decide +kernel
theorem dX4_get_21 : decode cX4_get 21 = .ok (.invokevirtual 36, 3) := by decide +kernel
theorem dX4_get_24 : decode cX4_get 24 = .ok (.goto 4, 3) := by decide +kernel
theorem dX4_get_27 : decode cX4_get 27 = .ok (.iconst 0, 1) := by decide +kernel
theorem dX4_get_28 : decode cX4_get 28 = .ok (.ireturn, 1) := by decide +kernel
theorem dX4_set_0 : decode cX4_set 0 = .ok (.aload_n 0, 1) := by decide +kernel
theorem dX4_set_1 : decode cX4_set 1 = .ok (.iload_n 1, 1) := by decide +kernel
theorem dX4_set_2 : decode cX4_set 2 = .ok (.iload_n 2, 1) := by decide +kernel
theorem dX4_set_3 : decode cX4_set 3 = .ok (.invokevirtual 43, 3) := by decide +kernel
theorem dX4_set_6 : decode cX4_set 6 = .ok (.ifCond .eq 19, 3) := by decide +kernel
theorem dX4_set_9 : decode cX4_set 9 = .ok (.aload_n 0, 1) := by decide +kernel
theorem dX4_set_10 : decode cX4_set 10 = .ok (.getfield 25, 3) := by decide +kernel
theorem dX4_set_13 : decode cX4_set 13 = .ok (.iload_n 1, 1) := by decide +kernel
theorem dX4_set_14 : decode cX4_set 14 = .ok (.aload_n 0, 1) := by decide +kernel
theorem dX4_set_15 : decode cX4_set 15 = .ok (.getfield 13, 3) := by decide +kernel
theorem dX4_set_18 : decode cX4_set 18 = .ok (.imul, 1) := by decide +kernel
theorem dX4_set_19 : decode cX4_set 19 = .ok (.iload_n 2, 1) := by decide +kernel
theorem dX4_set_20 : decode cX4_set 20 = .ok (.iadd, 1) := by decide +kernel
theorem dX4_set_21 : decode cX4_set 21 = .ok (.iload_n 3, 1) := by decide +kernel
theorem dX4_set_22 : decode cX4_set 22 = .ok (.invokevirtual 28, 3) := by decide +kernel
theorem dX4_set_25 : decode cX4_set 25 = .ok (.return_, 1) := by decide +kernel
theorem dX4_make_0 : decode cX4_make 0 = .ok (.aload_n 0, 1) := by decide +kernel
theorem dX4_make_1 : decode cX4_make 1 = .ok (.iload_n 1, 1) := by decide +kernel
theorem dX4_make_2 : decode cX4_make 2 = .ok (.invokevirtual 32, 3) := by decide +kernel
theorem dX4_make_5 : decode cX4_make 5 = .ok (.ifCond .eq 15, 3) := by decide +kernel
theorem dX4_make_8 : decode cX4_make 8 = .ok (.iload_n 2, 1) := by decide +kernel
theorem dX4_make_9 : decode cX4_make 9 = .ok (.ifCond .lt 11, 3) := by decide +kernel
theorem dX4_make_12 : decode cX4_make 12 = .ok (.iload_n 2, 1) := by decide +kernel
theorem dX4_make_13 : decode cX4_make 13 = .ok (.aload_n 0, 1) := by decide +kernel
theorem dX4_make_14 : decode cX4_make 14 = .ok (.getfield 13, 3) := by decide +kernel
theorem dX4_make_17 : decode cX4_make 17 = .ok (.if_icmp .le 4, 3) := by decide +kernel
theorem dX4_make_20 : decode cX4_make 20 = .ok (.return_, 1) := by decide +kernel
theorem dX4_make_21 : decode cX4_make 21 = .ok (.aload_n 0, 1) := by decide +kernel
theorem dX4_make_22 : decode cX4_make 22 = .ok (.getfield 21, 3) := by decide +kernel
theorem dX4_make_25 : decode cX4_make 25 = .ok (.iload_n 1, 1) := by decide +kernel
theorem dX4_make_26 : decode cX4_make 26 = .ok (.iload_n 2, 1) := by decide +kernel
theorem dX4_make_27 : decode cX4_make 27 = .ok (.invokevirtual 28, 3) := by decide +kernel
theorem dX4_make_30 : decode cX4_make 30 = .ok (.iconst 0, 1) := by decide +kernel
theorem dX4_make_31 : decode cX4_make 31 = .ok (.istore 4, 2) := by decide +kernel
theorem dX4_make_33 : decode cX4_make 33 = .ok (.iload 4, 2) := by decide +kernel
theorem dX4_make_35 : decode cX4_make 35 = .ok (.iload_n 2, 1) := by decide +kernel
theorem dX4_make_36 : decode cX4_make 36 = .ok (.if_icmp .ge 26, 3) := by decide +kernel
theorem dX4_make_39 : decode cX4_make 39 = .ok (.aload_n 0, 1) := by decide +kernel
theorem dX4_make_40 : decode cX4_make 40 = .ok (.getfield 25, 3) := by decide +kernel
theorem dX4_make_43 : decode cX4_make 43 = .ok (.iload_n 1, 1) := by decide +kernel
theorem dX4_make_44 : decode cX4_make 44 = .ok (.aload_n 0, 1) := by decide +kernel
theorem dX4_make_45 : decode cX4_make 45 = .ok (.getfield 13, 3) := by decide +kernel
theorem dX4_make_48 : decode cX4_make 48 = .ok (.imul, 1) := by decide +kernel
theorem dX4_make_49 : decode cX4_make 49 = .ok (.iload 4, 2) := by decide +kernel
theorem dX4_make_51 : decode cX4_make 51 = .ok (.iadd, 1) := by decide +kernel
theorem dX4_make_52 : decode cX4_make 52 = .ok (.iload_n 3, 1) := by decide +kernel
theorem dX4_make_53 : decode cX4_make 53 = .ok (.invokevirtual 28, 3) := by decide +kernel
theorem dX4_make_56 : decode cX4_make 56 = .ok (.iinc 4 1, 3) := by decide +kernel
theorem dX4_make_59 : decode cX4_make 59 = .ok (.goto (-26), 3) := by decide +kernel
theorem dX4_make_62 : decode cX4_make 62 = .ok (.return_, 1) := by decide +kernel
theorem dX4_thoseThere_0 : decode cX4_thoseThere 0 = .ok (.iconst 0, 1) := by decide +kernel
theorem dX4_thoseThere_1 : decode cX4_thoseThere 1 = .ok (.istore_n 1, 1) := by decide +kernel
theorem dX4_thoseThere_2 : decode cX4_thoseThere 2 = .ok (.iconst 0, 1) := by decide +kernel
theorem dX4_thoseThere_3 : decode cX4_thoseThere 3 = .ok (.istore_n 2, 1) := by decide +kernel
theorem dX4_thoseThere_4 : decode cX4_thoseThere 4 = .ok (.iload_n 2, 1) := by decide +kernel
theorem dX4_thoseThere_5 : decode cX4_thoseThere 5 = .ok (.aload_n 0, 1) := by decide +kernel
theorem dX4_thoseThere_6 : decode cX4_thoseThere 6 = .ok (.getfield 7, 3) := by decide +kernel
theorem dX4_thoseThere_9 : decode cX4_thoseThere 9 = .ok (.if_icmp .ge 20, 3) := by decide +kernel
theorem dX4_thoseThere_12 : decode cX4_thoseThere 12 = .ok (.aload_n 0, 1) := by decide +kernel
theorem dX4_thoseThere_13 : decode cX4_thoseThere 13 = .ok (.iload_n 2, 1) := by decide +kernel
theorem dX4_thoseThere_14 : decode cX4_thoseThere 14 = .ok (.invokevirtual 58, 3) := by decide +kernel
theorem dX4_thoseThere_17 : decode cX4_thoseThere 17 = .ok (.ifCond .eq 6, 3) := by decide +kernel
theorem dX4_thoseThere_20 : decode cX4_thoseThere 20 = .ok (.iinc 1 1, 3) := by decide +kernel
theorem dX4_thoseThere_23 : decode cX4_thoseThere 23 = .ok (.iinc 2 1, 3) := by decide +kernel
theorem dX4_thoseThere_26 : decode cX4_thoseThere 26 = .ok (.goto (-22), 3) := by decide +kernel
theorem dX4_thoseThere_29 : decode cX4_thoseThere 29 = .ok (.iload_n 1, 1) := by decide +kernel
theorem dX4_thoseThere_30 : decode cX4_thoseThere 30 = .ok (.ireturn, 1) := by decide +kernel
theorem dX4_digestFrom_0 : decode cX4_digestFrom 0 = .ok (.iconst 0, 1) := by decide +kernel
theorem dX4_digestFrom_1 : decode cX4_digestFrom 1 = .ok (.istore_n 3, 1) := by decide +kernel
theorem dX4_digestFrom_2 : decode cX4_digestFrom 2 = .ok (.iload_n 3, 1) := by decide +kernel
theorem dX4_digestFrom_3 : decode cX4_digestFrom 3 = .ok (.aload_n 0, 1) := by decide +kernel
theorem dX4_digestFrom_4 : decode cX4_digestFrom 4 = .ok (.getfield 7, 3) := by decide +kernel
theorem dX4_digestFrom_7 : decode cX4_digestFrom 7 = .ok (.if_icmp .ge 56, 3) := by decide +kernel
theorem dX4_digestFrom_10 : decode cX4_digestFrom 10 = .ok (.ldc2_w 61, 3) := by decide +kernel
theorem dX4_digestFrom_13 : decode cX4_digestFrom 13 = .ok (.lload_n 1, 1) := by decide +kernel
theorem dX4_digestFrom_14 : decode cX4_digestFrom 14 = .ok (.lmul, 1) := by decide +kernel
theorem dX4_digestFrom_15 : decode cX4_digestFrom 15 = .ok (.aload_n 0, 1) := by decide +kernel
theorem dX4_digestFrom_16 : decode cX4_digestFrom 16 = .ok (.iload_n 3, 1) := by decide +kernel
theorem dX4_digestFrom_17 : decode cX4_digestFrom 17 = .ok (.invokevirtual 40, 3) := by decide +kernel
theorem dX4_digestFrom_20 : decode cX4_digestFrom 20 = .ok (.i2l, 1) := by decide +kernel
theorem dX4_digestFrom_21 : decode cX4_digestFrom 21 = .ok (.ladd, 1) := by decide +kernel
theorem dX4_digestFrom_22 : decode cX4_digestFrom 22 = .ok (.lstore_n 1, 1) := by decide +kernel
theorem dX4_digestFrom_23 : decode cX4_digestFrom 23 = .ok (.iconst 0, 1) := by decide +kernel
theorem dX4_digestFrom_24 : decode cX4_digestFrom 24 = .ok (.istore 4, 2) := by decide +kernel
theorem dX4_digestFrom_26 : decode cX4_digestFrom 26 = .ok (.iload 4, 2) := by decide +kernel
theorem dX4_digestFrom_28 : decode cX4_digestFrom 28 = .ok (.aload_n 0, 1) := by decide +kernel
theorem dX4_digestFrom_29 : decode cX4_digestFrom 29 = .ok (.iload_n 3, 1) := by decide +kernel
theorem dX4_digestFrom_30 : decode cX4_digestFrom 30 = .ok (.invokevirtual 40, 3) := by decide +kernel
theorem dX4_digestFrom_33 : decode cX4_digestFrom 33 = .ok (.if_icmp .ge 24, 3) := by decide +kernel
theorem dX4_digestFrom_36 : decode cX4_digestFrom 36 = .ok (.ldc2_w 61, 3) := by decide +kernel
theorem dX4_digestFrom_39 : decode cX4_digestFrom 39 = .ok (.lload_n 1, 1) := by decide +kernel
theorem dX4_digestFrom_40 : decode cX4_digestFrom 40 = .ok (.lmul, 1) := by decide +kernel
theorem dX4_digestFrom_41 : decode cX4_digestFrom 41 = .ok (.aload_n 0, 1) := by decide +kernel
theorem dX4_digestFrom_42 : decode cX4_digestFrom 42 = .ok (.iload_n 3, 1) := by decide +kernel
theorem dX4_digestFrom_43 : decode cX4_digestFrom 43 = .ok (.iload 4, 2) := by decide +kernel
theorem dX4_digestFrom_45 : decode cX4_digestFrom 45 = .ok (.invokevirtual 55, 3) := by decide +kernel
theorem dX4_digestFrom_48 : decode cX4_digestFrom 48 = .ok (.i2l, 1) := by decide +kernel
theorem dX4_digestFrom_49 : decode cX4_digestFrom 49 = .ok (.ladd, 1) := by decide +kernel
theorem dX4_digestFrom_50 : decode cX4_digestFrom 50 = .ok (.lstore_n 1, 1) := by decide +kernel
theorem dX4_digestFrom_51 : decode cX4_digestFrom 51 = .ok (.iinc 4 1, 3) := by decide +kernel
theorem dX4_digestFrom_54 : decode cX4_digestFrom 54 = .ok (.goto (-28), 3) := by decide +kernel
theorem dX4_digestFrom_57 : decode cX4_digestFrom 57 = .ok (.iinc 3 1, 3) := by decide +kernel
theorem dX4_digestFrom_60 : decode cX4_digestFrom 60 = .ok (.goto (-58), 3) := by decide +kernel
theorem dX4_digestFrom_63 : decode cX4_digestFrom 63 = .ok (.lload_n 1, 1) := by decide +kernel
theorem dX4_digestFrom_64 : decode cX4_digestFrom 64 = .ok (.lreturn, 1) := by decide +kernel
theorem dX5_init_0 : decode cX5_init 0 = .ok (.aload_n 0, 1) := by decide +kernel
theorem dX5_init_1 : decode cX5_init 1 = .ok (.invokespecial 3, 3) := by decide +kernel
theorem dX5_init_4 : decode cX5_init 4 = .ok (.aload_n 0, 1) := by decide +kernel
theorem dX5_init_5 : decode cX5_init 5 = .ok (.iconst 0, 1) := by decide +kernel
theorem dX5_init_6 : decode cX5_init 6 = .ok (.putfield 9, 3) := by decide +kernel
theorem dX5_init_9 : decode cX5_init 9 = .ok (.aload_n 0, 1) := by decide +kernel
theorem dX5_init_10 : decode cX5_init 10 = .ok (.new 15, 3) := by decide +kernel
theorem dX5_init_13 : decode cX5_init 13 = .ok (.dup, 1) := by decide +kernel
theorem dX5_init_14 : decode cX5_init 14 = .ok (.bipush 6, 2) := by decide +kernel
theorem dX5_init_16 : decode cX5_init 16 = .ok (.invokespecial 17, 3) := by decide +kernel
theorem dX5_init_19 : decode cX5_init 19 = .ok (.putfield 20, 3) := by decide +kernel
theorem dX5_init_22 : decode cX5_init 22 = .ok (.aload_n 0, 1) := by decide +kernel
theorem dX5_init_23 : decode cX5_init 23 = .ok (.new 15, 3) := by decide +kernel
theorem dX5_init_26 : decode cX5_init 26 = .ok (.dup, 1) := by decide +kernel
theorem dX5_init_27 : decode cX5_init 27 = .ok (.bipush 6, 2) := by decide +kernel
theorem dX5_init_29 : decode cX5_init 29 = .ok (.invokespecial 17, 3) := by decide +kernel
theorem dX5_init_32 : decode cX5_init 32 = .ok (.putfield 24, 3) := by decide +kernel
theorem dX5_init_35 : decode cX5_init 35 = .ok (.return_, 1) := by decide +kernel
theorem dX5_hear_0 : decode cX5_hear 0 = .ok (.aload_n 0, 1) := by decide +kernel
theorem dX5_hear_1 : decode cX5_hear 1 = .ok (.aload_n 1, 1) := by decide +kernel
theorem dX5_hear_2 : decode cX5_hear 2 = .ok (.getfield 27, 3) := by decide +kernel
theorem dX5_hear_5 : decode cX5_hear 5 = .ok (.putfield 9, 3) := by decide +kernel
theorem dX5_hear_8 : decode cX5_hear 8 = .ok (.iconst 0, 1) := by decide +kernel
theorem dX5_hear_9 : decode cX5_hear 9 = .ok (.istore_n 2, 1) := by decide +kernel
theorem dX5_hear_10 : decode cX5_hear 10 = .ok (.iload_n 2, 1) := by decide +kernel
theorem dX5_hear_11 : decode cX5_hear 11 = .ok (.aload_n 0, 1) := by decide +kernel
theorem dX5_hear_12 : decode cX5_hear 12 = .ok (.getfield 9, 3) := by decide +kernel
theorem dX5_hear_15 : decode cX5_hear 15 = .ok (.if_icmp .ge 77, 3) := by decide +kernel
theorem dX5_hear_18 : decode cX5_hear 18 = .ok (.aload_n 1, 1) := by decide +kernel
theorem dX5_hear_19 : decode cX5_hear 19 = .ok (.getfield 30, 3) := by decide +kernel
theorem dX5_hear_22 : decode cX5_hear 22 = .ok (.iload_n 2, 1) := by decide +kernel
theorem dX5_hear_23 : decode cX5_hear 23 = .ok (.invokevirtual 33, 3) := by decide +kernel
theorem dX5_hear_26 : decode cX5_hear 26 = .ok (.istore_n 3, 1) := by decide +kernel
theorem dX5_hear_27 : decode cX5_hear 27 = .ok (.aload_n 1, 1) := by decide +kernel
theorem dX5_hear_28 : decode cX5_hear 28 = .ok (.getfield 37, 3) := by decide +kernel
theorem dX5_hear_31 : decode cX5_hear 31 = .ok (.iload_n 2, 1) := by decide +kernel
theorem dX5_hear_32 : decode cX5_hear 32 = .ok (.invokevirtual 33, 3) := by decide +kernel
theorem dX5_hear_35 : decode cX5_hear 35 = .ok (.istore 4, 2) := by decide +kernel
theorem dX5_hear_37 : decode cX5_hear 37 = .ok (.aload_n 1, 1) := by decide +kernel
theorem dX5_hear_38 : decode cX5_hear 38 = .ok (.iload_n 2, 1) := by decide +kernel
theorem dX5_hear_39 : decode cX5_hear 39 = .ok (.iload_n 3, 1) := by decide +kernel
theorem dX5_hear_40 : decode cX5_hear 40 = .ok (.iload 4, 2) := by decide +kernel
theorem dX5_hear_42 : decode cX5_hear 42 = .ok (.invokevirtual 40, 3) := by decide +kernel
theorem dX5_hear_45 : decode cX5_hear 45 = .ok (.istore 5, 2) := by decide +kernel
theorem dX5_hear_47 : decode cX5_hear 47 = .ok (.iload 5, 2) := by decide +kernel
theorem dX5_hear_49 : decode cX5_hear 49 = .ok (.iload_n 3, 1) := by decide +kernel
theorem dX5_hear_50 : decode cX5_hear 50 = .ok (.iload 4, 2) := by decide +kernel
theorem dX5_hear_52 : decode cX5_hear 52 = .ok (.aload_n 1, 1) := by decide +kernel
theorem dX5_hear_53 : decode cX5_hear 53 = .ok (.getfield 44, 3) := by decide +kernel
theorem dX5_hear_56 : decode cX5_hear 56 = .ok (.invokestatic 47, 3) := by decide +kernel
theorem dX5_hear_59 : decode cX5_hear 59 = .ok (.istore 6, 2) := by decide +kernel
theorem dX5_hear_61 : decode cX5_hear 61 = .ok (.aload_n 0, 1) := by decide +kernel
theorem dX5_hear_62 : decode cX5_hear 62 = .ok (.getfield 20, 3) := by decide +kernel
theorem dX5_hear_65 : decode cX5_hear 65 = .ok (.iload_n 2, 1) := by decide +kernel
theorem dX5_hear_66 : decode cX5_hear 66 = .ok (.iload 6, 2) := by decide +kernel
theorem dX5_hear_68 : decode cX5_hear 68 = .ok (.invokevirtual 51, 3) := by decide +kernel
theorem dX5_hear_71 : decode cX5_hear 71 = .ok (.aload_n 0, 1) := by decide +kernel
theorem dX5_hear_72 : decode cX5_hear 72 = .ok (.getfield 24, 3) := by decide +kernel
theorem dX5_hear_75 : decode cX5_hear 75 = .ok (.iload_n 2, 1) := by decide +kernel
theorem dX5_hear_76 : decode cX5_hear 76 = .ok (.iload 5, 2) := by decide +kernel
theorem dX5_hear_78 : decode cX5_hear 78 = .ok (.iload 6, 2) := by decide +kernel
theorem dX5_hear_80 : decode cX5_hear 80 = .ok (.iconst (-1), 1) := by decide +kernel
theorem dX5_hear_81 : decode cX5_hear 81 = .ok (.ixor, 1) := by decide +kernel
theorem dX5_hear_82 : decode cX5_hear 82 = .ok (.iand, 1) := by decide +kernel
theorem dX5_hear_83 : decode cX5_hear 83 = .ok (.invokevirtual 51, 3) := by decide +kernel
theorem dX5_hear_86 : decode cX5_hear 86 = .ok (.iinc 2 1, 3) := by decide +kernel
theorem dX5_hear_89 : decode cX5_hear 89 = .ok (.goto (-79), 3) := by decide +kernel
theorem dX5_hear_92 : decode cX5_hear 92 = .ok (.return_, 1) := by decide +kernel
theorem dX5_toldBy_0 : decode cX5_toldBy 0 = .ok (.iconst 0, 1) := by decide +kernel
theorem dX5_toldBy_1 : decode cX5_toldBy 1 = .ok (.istore_n 2, 1) := by decide +kernel
theorem dX5_toldBy_2 : decode cX5_toldBy 2 = .ok (.iconst 0, 1) := by decide +kernel
theorem dX5_toldBy_3 : decode cX5_toldBy 3 = .ok (.istore_n 3, 1) := by decide +kernel
theorem dX5_toldBy_4 : decode cX5_toldBy 4 = .ok (.iload_n 3, 1) := by decide +kernel
theorem dX5_toldBy_5 : decode cX5_toldBy 5 = .ok (.aload_n 0, 1) := by decide +kernel
theorem dX5_toldBy_6 : decode cX5_toldBy 6 = .ok (.getfield 9, 3) := by decide +kernel
theorem dX5_toldBy_9 : decode cX5_toldBy 9 = .ok (.if_icmp .ge 37, 3) := by decide +kernel
theorem dX5_toldBy_12 : decode cX5_toldBy 12 = .ok (.iload_n 1, 1) := by decide +kernel
theorem dX5_toldBy_13 : decode cX5_toldBy 13 = .ok (.iload_n 3, 1) := by decide +kernel
theorem dX5_toldBy_14 : decode cX5_toldBy 14 = .ok (.invokestatic 55, 3) := by decide +kernel
theorem dX5_toldBy_17 : decode cX5_toldBy 17 = .ok (.ifCond .eq 23, 3) := by decide +kernel
theorem dX5_toldBy_20 : decode cX5_toldBy 20 = .ok (.iload_n 2, 1) := by decide +kernel
theorem dX5_toldBy_21 : decode cX5_toldBy 21 = .ok (.aload_n 0, 1) := by decide +kernel
theorem dX5_toldBy_22 : decode cX5_toldBy 22 = .ok (.getfield 20, 3) := by decide +kernel
theorem dX5_toldBy_25 : decode cX5_toldBy 25 = .ok (.iload_n 3, 1) := by decide +kernel
theorem dX5_toldBy_26 : decode cX5_toldBy 26 = .ok (.invokevirtual 33, 3) := by decide +kernel
theorem dX5_toldBy_29 : decode cX5_toldBy 29 = .ok (.aload_n 0, 1) := by decide +kernel
theorem dX5_toldBy_30 : decode cX5_toldBy 30 = .ok (.getfield 24, 3) := by decide +kernel
theorem dX5_toldBy_33 : decode cX5_toldBy 33 = .ok (.iload_n 3, 1) := by decide +kernel
theorem dX5_toldBy_34 : decode cX5_toldBy 34 = .ok (.invokevirtual 33, 3) := by decide +kernel
theorem dX5_toldBy_37 : decode cX5_toldBy 37 = .ok (.ior, 1) := by decide +kernel
theorem dX5_toldBy_38 : decode cX5_toldBy 38 = .ok (.ior, 1) := by decide +kernel
theorem dX5_toldBy_39 : decode cX5_toldBy 39 = .ok (.istore_n 2, 1) := by decide +kernel
theorem dX5_toldBy_40 : decode cX5_toldBy 40 = .ok (.iinc 3 1, 3) := by decide +kernel
theorem dX5_toldBy_43 : decode cX5_toldBy 43 = .ok (.goto (-39), 3) := by decide +kernel
theorem dX5_toldBy_46 : decode cX5_toldBy 46 = .ok (.iload_n 2, 1) := by decide +kernel
theorem dX5_toldBy_47 : decode cX5_toldBy 47 = .ok (.ireturn, 1) := by decide +kernel
theorem dX5_balance_0 : decode cX5_balance 0 = .ok (.iconst 0, 1) := by decide +kernel
theorem dX5_balance_1 : decode cX5_balance 1 = .ok (.istore_n 3, 1) := by decide +kernel
theorem dX5_balance_2 : decode cX5_balance 2 = .ok (.iconst 0, 1) := by decide +kernel
theorem dX5_balance_3 : decode cX5_balance 3 = .ok (.istore 4, 2) := by decide +kernel
theorem dX5_balance_5 : decode cX5_balance 5 = .ok (.iload 4, 2) := by decide +kernel
theorem dX5_balance_7 : decode cX5_balance 7 = .ok (.aload_n 0, 1) := by decide +kernel
theorem dX5_balance_8 : decode cX5_balance 8 = .ok (.getfield 9, 3) := by decide +kernel
theorem dX5_balance_11 : decode cX5_balance 11 = .ok (.if_icmp .ge 59, 3) := by decide +kernel
theorem dX5_balance_14 : decode cX5_balance 14 = .ok (.iload_n 1, 1) := by decide +kernel
theorem dX5_balance_15 : decode cX5_balance 15 = .ok (.iload 4, 2) := by decide +kernel
theorem dX5_balance_17 : decode cX5_balance 17 = .ok (.invokestatic 55, 3) := by decide +kernel
theorem dX5_balance_20 : decode cX5_balance 20 = .ok (.ifCond .ne 6, 3) := by decide +kernel
theorem dX5_balance_23 : decode cX5_balance 23 = .ok (.goto 41, 3) := by decide +kernel
theorem dX5_balance_26 : decode cX5_balance 26 = .ok (.aload_n 0, 1) := by decide +kernel
theorem dX5_balance_27 : decode cX5_balance 27 = .ok (.getfield 20, 3) := by decide +kernel
theorem dX5_balance_30 : decode cX5_balance 30 = .ok (.iload 4, 2) := by decide +kernel
theorem dX5_balance_32 : decode cX5_balance 32 = .ok (.invokevirtual 33, 3) := by decide +kernel
theorem dX5_balance_35 : decode cX5_balance 35 = .ok (.iload_n 2, 1) := by decide +kernel
theorem dX5_balance_36 : decode cX5_balance 36 = .ok (.invokestatic 55, 3) := by decide +kernel
theorem dX5_balance_39 : decode cX5_balance 39 = .ok (.ifCond .eq 6, 3) := by decide +kernel
theorem dX5_balance_42 : decode cX5_balance 42 = .ok (.iinc 3 1, 3) := by decide +kernel
theorem dX5_balance_45 : decode cX5_balance 45 = .ok (.aload_n 0, 1) := by decide +kernel
theorem dX5_balance_46 : decode cX5_balance 46 = .ok (.getfield 24, 3) := by decide +kernel
theorem dX5_balance_49 : decode cX5_balance 49 = .ok (.iload 4, 2) := by decide +kernel
theorem dX5_balance_51 : decode cX5_balance 51 = .ok (.invokevirtual 33, 3) := by decide +kernel
theorem dX5_balance_54 : decode cX5_balance 54 = .ok (.iload_n 2, 1) := by decide +kernel
theorem dX5_balance_55 : decode cX5_balance 55 = .ok (.invokestatic 55, 3) := by decide +kernel
theorem dX5_balance_58 : decode cX5_balance 58 = .ok (.ifCond .eq 6, 3) := by decide +kernel
theorem dX5_balance_61 : decode cX5_balance 61 = .ok (.iinc 3 (-1), 3) := by decide +kernel
theorem dX5_balance_64 : decode cX5_balance 64 = .ok (.iinc 4 1, 3) := by decide +kernel
theorem dX5_balance_67 : decode cX5_balance 67 = .ok (.goto (-62), 3) := by decide +kernel
theorem dX5_balance_70 : decode cX5_balance 70 = .ok (.iload_n 3, 1) := by decide +kernel
theorem dX5_balance_71 : decode cX5_balance 71 = .ok (.ireturn, 1) := by decide +kernel
theorem dX5_shownBy_0 : decode cX5_shownBy 0 = .ok (.iconst 0, 1) := by decide +kernel
theorem dX5_shownBy_1 : decode cX5_shownBy 1 = .ok (.istore_n 2, 1) := by decide +kernel
theorem dX5_shownBy_2 : decode cX5_shownBy 2 = .ok (.iconst 0, 1) := by decide +kernel
theorem dX5_shownBy_3 : decode cX5_shownBy 3 = .ok (.istore_n 3, 1) := by decide +kernel
theorem dX5_shownBy_4 : decode cX5_shownBy 4 = .ok (.iload_n 3, 1) := by decide +kernel
theorem dX5_shownBy_5 : decode cX5_shownBy 5 = .ok (.bipush 6, 2) := by decide +kernel
theorem dX5_shownBy_7 : decode cX5_shownBy 7 = .ok (.if_icmp .ge 24, 3) := by decide +kernel
theorem dX5_shownBy_10 : decode cX5_shownBy 10 = .ok (.aload_n 0, 1) := by decide +kernel
theorem dX5_shownBy_11 : decode cX5_shownBy 11 = .ok (.iload_n 1, 1) := by decide +kernel
theorem dX5_shownBy_12 : decode cX5_shownBy 12 = .ok (.iload_n 3, 1) := by decide +kernel
theorem dX5_shownBy_13 : decode cX5_shownBy 13 = .ok (.invokevirtual 59, 3) := by decide +kernel
theorem dX5_shownBy_16 : decode cX5_shownBy 16 = .ok (.ifCond .le 9, 3) := by decide +kernel
theorem dX5_shownBy_19 : decode cX5_shownBy 19 = .ok (.iload_n 2, 1) := by decide +kernel
theorem dX5_shownBy_20 : decode cX5_shownBy 20 = .ok (.iconst 1, 1) := by decide +kernel
theorem dX5_shownBy_21 : decode cX5_shownBy 21 = .ok (.iload_n 3, 1) := by decide +kernel
theorem dX5_shownBy_22 : decode cX5_shownBy 22 = .ok (.ishl, 1) := by decide +kernel
theorem dX5_shownBy_23 : decode cX5_shownBy 23 = .ok (.ior, 1) := by decide +kernel
theorem dX5_shownBy_24 : decode cX5_shownBy 24 = .ok (.istore_n 2, 1) := by decide +kernel
theorem dX5_shownBy_25 : decode cX5_shownBy 25 = .ok (.iinc 3 1, 3) := by decide +kernel
theorem dX5_shownBy_28 : decode cX5_shownBy 28 = .ok (.goto (-24), 3) := by decide +kernel
theorem dX5_shownBy_31 : decode cX5_shownBy 31 = .ok (.iload_n 2, 1) := by decide +kernel
theorem dX5_shownBy_32 : decode cX5_shownBy 32 = .ok (.ireturn, 1) := by decide +kernel
theorem dX5_tiedBy_0 : decode cX5_tiedBy 0 = .ok (.iconst 0, 1) := by decide +kernel
theorem dX5_tiedBy_1 : decode cX5_tiedBy 1 = .ok (.istore_n 2, 1) := by decide +kernel
theorem dX5_tiedBy_2 : decode cX5_tiedBy 2 = .ok (.iconst 0, 1) := by decide +kernel
theorem dX5_tiedBy_3 : decode cX5_tiedBy 3 = .ok (.istore_n 3, 1) := by decide +kernel
theorem dX5_tiedBy_4 : decode cX5_tiedBy 4 = .ok (.iload_n 3, 1) := by decide +kernel
theorem dX5_tiedBy_5 : decode cX5_tiedBy 5 = .ok (.bipush 6, 2) := by decide +kernel
theorem dX5_tiedBy_7 : decode cX5_tiedBy 7 = .ok (.if_icmp .ge 24, 3) := by decide +kernel
theorem dX5_tiedBy_10 : decode cX5_tiedBy 10 = .ok (.aload_n 0, 1) := by decide +kernel
theorem dX5_tiedBy_11 : decode cX5_tiedBy 11 = .ok (.iload_n 1, 1) := by decide +kernel
theorem dX5_tiedBy_12 : decode cX5_tiedBy 12 = .ok (.iload_n 3, 1) := by decide +kernel
theorem dX5_tiedBy_13 : decode cX5_tiedBy 13 = .ok (.invokevirtual 59, 3) := by decide +kernel
theorem dX5_tiedBy_16 : decode cX5_tiedBy 16 = .ok (.ifCond .ne 9, 3) := by decide +kernel
theorem dX5_tiedBy_19 : decode cX5_tiedBy 19 = .ok (.iload_n 2, 1) := by decide +kernel
theorem dX5_tiedBy_20 : decode cX5_tiedBy 20 = .ok (.iconst 1, 1) := by decide +kernel
theorem dX5_tiedBy_21 : decode cX5_tiedBy 21 = .ok (.iload_n 3, 1) := by decide +kernel
theorem dX5_tiedBy_22 : decode cX5_tiedBy 22 = .ok (.ishl, 1) := by decide +kernel
theorem dX5_tiedBy_23 : decode cX5_tiedBy 23 = .ok (.ior, 1) := by decide +kernel
theorem dX5_tiedBy_24 : decode cX5_tiedBy 24 = .ok (.istore_n 2, 1) := by decide +kernel
theorem dX5_tiedBy_25 : decode cX5_tiedBy 25 = .ok (.iinc 3 1, 3) := by decide +kernel
theorem dX5_tiedBy_28 : decode cX5_tiedBy 28 = .ok (.goto (-24), 3) := by decide +kernel
theorem dX5_tiedBy_31 : decode cX5_tiedBy 31 = .ok (.iload_n 2, 1) := by decide +kernel
theorem dX5_tiedBy_32 : decode cX5_tiedBy 32 = .ok (.aload_n 0, 1) := by decide +kernel
theorem dX5_tiedBy_33 : decode cX5_tiedBy 33 = .ok (.iload_n 1, 1) := by decide +kernel
theorem dX5_tiedBy_34 : decode cX5_tiedBy 34 = .ok (.invokevirtual 63, 3) := by decide +kernel
theorem dX5_tiedBy_37 : decode cX5_tiedBy 37 = .ok (.iand, 1) := by decide +kernel
theorem dX5_tiedBy_38 : decode cX5_tiedBy 38 = .ok (.ireturn, 1) := by decide +kernel
theorem dX5_clash_0 : decode cX5_clash 0 = .ok (.aload_n 0, 1) := by decide +kernel
theorem dX5_clash_1 : decode cX5_clash 1 = .ok (.getfield 20, 3) := by decide +kernel
theorem dX5_clash_4 : decode cX5_clash 4 = .ok (.iload_n 1, 1) := by decide +kernel
theorem dX5_clash_5 : decode cX5_clash 5 = .ok (.invokevirtual 33, 3) := by decide +kernel
theorem dX5_clash_8 : decode cX5_clash 8 = .ok (.aload_n 0, 1) := by decide +kernel
theorem dX5_clash_9 : decode cX5_clash 9 = .ok (.getfield 24, 3) := by decide +kernel
theorem dX5_clash_12 : decode cX5_clash 12 = .ok (.iload_n 2, 1) := by decide +kernel
theorem dX5_clash_13 : decode cX5_clash 13 = .ok (.invokevirtual 33, 3) := by decide +kernel
theorem dX5_clash_16 : decode cX5_clash 16 = .ok (.iand, 1) := by decide +kernel
theorem dX5_clash_17 : decode cX5_clash 17 = .ok (.aload_n 0, 1) := by decide +kernel
theorem dX5_clash_18 : decode cX5_clash 18 = .ok (.getfield 24, 3) := by decide +kernel
theorem dX5_clash_21 : decode cX5_clash 21 = .ok (.iload_n 1, 1) := by decide +kernel
theorem dX5_clash_22 : decode cX5_clash 22 = .ok (.invokevirtual 33, 3) := by decide +kernel
theorem dX5_clash_25 : decode cX5_clash 25 = .ok (.aload_n 0, 1) := by decide +kernel
theorem dX5_clash_26 : decode cX5_clash 26 = .ok (.getfield 20, 3) := by decide +kernel
theorem dX5_clash_29 : decode cX5_clash 29 = .ok (.iload_n 2, 1) := by decide +kernel
theorem dX5_clash_30 : decode cX5_clash 30 = .ok (.invokevirtual 33, 3) := by decide +kernel
theorem dX5_clash_33 : decode cX5_clash 33 = .ok (.iand, 1) := by decide +kernel
theorem dX5_clash_34 : decode cX5_clash 34 = .ok (.ior, 1) := by decide +kernel
theorem dX5_clash_35 : decode cX5_clash 35 = .ok (.ireturn, 1) := by decide +kernel
theorem dX5_hasRivals_0 : decode cX5_hasRivals 0 = .ok (.iconst 0, 1) := by decide +kernel
theorem dX5_hasRivals_1 : decode cX5_hasRivals 1 = .ok (.istore_n 2, 1) := by decide +kernel
theorem dX5_hasRivals_2 : decode cX5_hasRivals 2 = .ok (.iconst 0, 1) := by decide +kernel
theorem dX5_hasRivals_3 : decode cX5_hasRivals 3 = .ok (.istore_n 3, 1) := by decide +kernel
theorem dX5_hasRivals_4 : decode cX5_hasRivals 4 = .ok (.iconst 0, 1) := by decide +kernel
theorem dX5_hasRivals_5 : decode cX5_hasRivals 5 = .ok (.istore 4, 2) := by decide +kernel
theorem dX5_hasRivals_7 : decode cX5_hasRivals 7 = .ok (.iload 4, 2) := by decide +kernel
theorem dX5_hasRivals_9 : decode cX5_hasRivals 9 = .ok (.aload_n 0, 1) := by decide +kernel
theorem dX5_hasRivals_10 : decode cX5_hasRivals 10 = .ok (.getfield 9, 3) := by decide +kernel
theorem dX5_hasRivals_13 : decode cX5_hasRivals 13 = .ok (.if_icmp .ge 45, 3) := by decide +kernel
theorem dX5_hasRivals_16 : decode cX5_hasRivals 16 = .ok (.iload_n 1, 1) := by decide +kernel
theorem dX5_hasRivals_17 : decode cX5_hasRivals 17 = .ok (.iload 4, 2) := by decide +kernel
theorem dX5_hasRivals_19 : decode cX5_hasRivals 19 = .ok (.invokestatic 55, 3) := by decide +kernel
theorem dX5_hasRivals_22 : decode cX5_hasRivals 22 = .ok (.ifCond .ne 6, 3) := by decide +kernel
theorem dX5_hasRivals_25 : decode cX5_hasRivals 25 = .ok (.goto 27, 3) := by decide +kernel
theorem dX5_hasRivals_28 : decode cX5_hasRivals 28 = .ok (.iload_n 2, 1) := by decide +kernel
theorem dX5_hasRivals_29 : decode cX5_hasRivals 29 = .ok (.aload_n 0, 1) := by decide +kernel
theorem dX5_hasRivals_30 : decode cX5_hasRivals 30 = .ok (.getfield 20, 3) := by decide +kernel
theorem dX5_hasRivals_33 : decode cX5_hasRivals 33 = .ok (.iload 4, 2) := by decide +kernel
theorem dX5_hasRivals_35 : decode cX5_hasRivals 35 = .ok (.invokevirtual 33, 3) := by decide +kernel
theorem dX5_hasRivals_38 : decode cX5_hasRivals 38 = .ok (.ior, 1) := by decide +kernel
theorem dX5_hasRivals_39 : decode cX5_hasRivals 39 = .ok (.istore_n 2, 1) := by decide +kernel
theorem dX5_hasRivals_40 : decode cX5_hasRivals 40 = .ok (.iload_n 3, 1) := by decide +kernel
theorem dX5_hasRivals_41 : decode cX5_hasRivals 41 = .ok (.aload_n 0, 1) := by decide +kernel
theorem dX5_hasRivals_42 : decode cX5_hasRivals 42 = .ok (.getfield 24, 3) := by decide +kernel
theorem dX5_hasRivals_45 : decode cX5_hasRivals 45 = .ok (.iload 4, 2) := by decide +kernel
theorem dX5_hasRivals_47 : decode cX5_hasRivals 47 = .ok (.invokevirtual 33, 3) := by decide +kernel
theorem dX5_hasRivals_50 : decode cX5_hasRivals 50 = .ok (.ior, 1) := by decide +kernel
theorem dX5_hasRivals_51 : decode cX5_hasRivals 51 = .ok (.istore_n 3, 1) := by decide +kernel
theorem dX5_hasRivals_52 : decode cX5_hasRivals 52 = .ok (.iinc 4 1, 3) := by decide +kernel
theorem dX5_hasRivals_55 : decode cX5_hasRivals 55 = .ok (.goto (-48), 3) := by decide +kernel
theorem dX5_hasRivals_58 : decode cX5_hasRivals 58 = .ok (.iload_n 2, 1) := by decide +kernel
theorem dX5_hasRivals_59 : decode cX5_hasRivals 59 = .ok (.iload_n 3, 1) := by decide +kernel
theorem dX5_hasRivals_60 : decode cX5_hasRivals 60 = .ok (.iand, 1) := by decide +kernel
theorem dX5_hasRivals_61 : decode cX5_hasRivals 61 = .ok (.ifCond .eq 7, 3) := by decide +kernel
theorem dX5_hasRivals_64 : decode cX5_hasRivals 64 = .ok (.iconst 1, 1) := by decide +kernel
theorem dX5_hasRivals_65 : decode cX5_hasRivals 65 = .ok (.goto 4, 3) := by decide +kernel
theorem dX5_hasRivals_68 : decode cX5_hasRivals 68 = .ok (.iconst 0, 1) := by decide +kernel
theorem dX5_hasRivals_69 : decode cX5_hasRivals 69 = .ok (.ireturn, 1) := by decide +kernel
theorem dX6_init_0 : decode cX6_init 0 = .ok (.aload_n 0, 1) := by decide +kernel
theorem dX6_init_1 : decode cX6_init 1 = .ok (.invokespecial 3, 3) := by decide +kernel
theorem dX6_init_4 : decode cX6_init 4 = .ok (.aload_n 0, 1) := by decide +kernel
theorem dX6_init_5 : decode cX6_init 5 = .ok (.iconst 0, 1) := by decide +kernel
theorem dX6_init_6 : decode cX6_init 6 = .ok (.putfield 9, 3) := by decide +kernel
theorem dX6_init_9 : decode cX6_init 9 = .ok (.aload_n 0, 1) := by decide +kernel
theorem dX6_init_10 : decode cX6_init 10 = .ok (.iconst 0, 1) := by decide +kernel
theorem dX6_init_11 : decode cX6_init 11 = .ok (.putfield 15, 3) := by decide +kernel
theorem dX6_init_14 : decode cX6_init 14 = .ok (.aload_n 0, 1) := by decide +kernel
theorem dX6_init_15 : decode cX6_init 15 = .ok (.iconst 0, 1) := by decide +kernel
theorem dX6_init_16 : decode cX6_init 16 = .ok (.putfield 18, 3) := by decide +kernel
theorem dX6_init_19 : decode cX6_init 19 = .ok (.aload_n 0, 1) := by decide +kernel
theorem dX6_init_20 : decode cX6_init 20 = .ok (.new 21, 3) := by decide +kernel
theorem dX6_init_23 : decode cX6_init 23 = .ok (.dup, 1) := by decide +kernel
theorem dX6_init_24 : decode cX6_init 24 = .ok (.bipush 6, 2) := by decide +kernel
theorem dX6_init_26 : decode cX6_init 26 = .ok (.invokespecial 23, 3) := by decide +kernel
theorem dX6_init_29 : decode cX6_init 29 = .ok (.putfield 26, 3) := by decide +kernel
theorem dX6_init_32 : decode cX6_init 32 = .ok (.aload_n 0, 1) := by decide +kernel
theorem dX6_init_33 : decode cX6_init 33 = .ok (.new 21, 3) := by decide +kernel
theorem dX6_init_36 : decode cX6_init 36 = .ok (.dup, 1) := by decide +kernel
theorem dX6_init_37 : decode cX6_init 37 = .ok (.bipush 60, 2) := by decide +kernel
theorem dX6_init_39 : decode cX6_init 39 = .ok (.invokespecial 23, 3) := by decide +kernel
theorem dX6_init_42 : decode cX6_init 42 = .ok (.putfield 30, 3) := by decide +kernel
theorem dX6_init_45 : decode cX6_init 45 = .ok (.aload_n 0, 1) := by decide +kernel
theorem dX6_init_46 : decode cX6_init 46 = .ok (.new 21, 3) := by decide +kernel
theorem dX6_init_49 : decode cX6_init 49 = .ok (.dup, 1) := by decide +kernel
theorem dX6_init_50 : decode cX6_init 50 = .ok (.iconst 4, 1) := by decide +kernel
theorem dX6_init_51 : decode cX6_init 51 = .ok (.invokespecial 23, 3) := by decide +kernel
theorem dX6_init_54 : decode cX6_init 54 = .ok (.putfield 33, 3) := by decide +kernel
theorem dX6_init_57 : decode cX6_init 57 = .ok (.return_, 1) := by decide +kernel
theorem dX6_open_0 : decode cX6_open 0 = .ok (.aload_n 0, 1) := by decide +kernel
theorem dX6_open_1 : decode cX6_open 1 = .ok (.aload_n 1, 1) := by decide +kernel
theorem dX6_open_2 : decode cX6_open 2 = .ok (.getfield 36, 3) := by decide +kernel
theorem dX6_open_5 : decode cX6_open 5 = .ok (.putfield 9, 3) := by decide +kernel
theorem dX6_open_8 : decode cX6_open 8 = .ok (.aload_n 0, 1) := by decide +kernel
theorem dX6_open_9 : decode cX6_open 9 = .ok (.iload_n 3, 1) := by decide +kernel
theorem dX6_open_10 : decode cX6_open 10 = .ok (.putfield 15, 3) := by decide +kernel
theorem dX6_open_13 : decode cX6_open 13 = .ok (.aload_n 0, 1) := by decide +kernel
theorem dX6_open_14 : decode cX6_open 14 = .ok (.iconst 0, 1) := by decide +kernel
theorem dX6_open_15 : decode cX6_open 15 = .ok (.putfield 18, 3) := by decide +kernel
theorem dX6_open_18 : decode cX6_open 18 = .ok (.iconst 0, 1) := by decide +kernel
theorem dX6_open_19 : decode cX6_open 19 = .ok (.istore 4, 2) := by decide +kernel
theorem dX6_open_21 : decode cX6_open 21 = .ok (.iload 4, 2) := by decide +kernel
theorem dX6_open_23 : decode cX6_open 23 = .ok (.aload_n 0, 1) := by decide +kernel
theorem dX6_open_24 : decode cX6_open 24 = .ok (.getfield 9, 3) := by decide +kernel
theorem dX6_open_27 : decode cX6_open 27 = .ok (.if_icmp .ge 95, 3) := by decide +kernel
theorem dX6_open_30 : decode cX6_open 30 = .ok (.aload_n 0, 1) := by decide +kernel
theorem dX6_open_31 : decode cX6_open 31 = .ok (.getfield 26, 3) := by decide +kernel
theorem dX6_open_34 : decode cX6_open 34 = .ok (.iload 4, 2) := by decide +kernel
theorem dX6_open_36 : decode cX6_open 36 = .ok (.aload_n 1, 1) := by decide +kernel
theorem dX6_open_37 : decode cX6_open 37 = .ok (.getfield 39, 3) := by decide +kernel
theorem dX6_open_40 : decode cX6_open 40 = .ok (.iload 4, 2) := by decide +kernel
theorem dX6_open_42 : decode cX6_open 42 = .ok (.invokevirtual 40, 3) := by decide +kernel
theorem dX6_open_45 : decode cX6_open 45 = .ok (.invokevirtual 44, 3) := by decide +kernel
theorem dX6_open_48 : decode cX6_open 48 = .ok (.iconst 0, 1) := by decide +kernel
theorem dX6_open_49 : decode cX6_open 49 = .ok (.istore 5, 2) := by decide +kernel
theorem dX6_open_51 : decode cX6_open 51 = .ok (.iload 5, 2) := by decide +kernel
theorem dX6_open_53 : decode cX6_open 53 = .ok (.bipush 10, 2) := by decide +kernel
theorem dX6_open_55 : decode cX6_open 55 = .ok (.if_icmp .ge 46, 3) := by decide +kernel
theorem dX6_open_58 : decode cX6_open 58 = .ok (.aload_n 0, 1) := by decide +kernel
theorem dX6_open_59 : decode cX6_open 59 = .ok (.getfield 30, 3) := by decide +kernel
theorem dX6_open_62 : decode cX6_open 62 = .ok (.iload 4, 2) := by decide +kernel
theorem dX6_open_64 : decode cX6_open 64 = .ok (.bipush 10, 2) := by decide +kernel
theorem dX6_open_66 : decode cX6_open 66 = .ok (.imul, 1) := by decide +kernel
theorem dX6_open_67 : decode cX6_open 67 = .ok (.iload 5, 2) := by decide +kernel
theorem dX6_open_69 : decode cX6_open 69 = .ok (.iadd, 1) := by decide +kernel
theorem dX6_open_70 : decode cX6_open 70 = .ok (.iload_n 3, 1) := by decide +kernel
theorem dX6_open_71 : decode cX6_open 71 = .ok (.iload 4, 2) := by decide +kernel
theorem dX6_open_73 : decode cX6_open 73 = .ok (.invokestatic 48, 3) := by decide +kernel
theorem dX6_open_76 : decode cX6_open 76 = .ok (.ifCond .eq 15, 3) := by decide +kernel
theorem dX6_open_79 : decode cX6_open 79 = .ok (.aload_n 1, 1) := by decide +kernel
theorem dX6_open_80 : decode cX6_open 80 = .ok (.iload 4, 2) := by decide +kernel
theorem dX6_open_82 : decode cX6_open 82 = .ok (.iload 5, 2) := by decide +kernel
theorem dX6_open_84 : decode cX6_open 84 = .ok (.iload_n 2, 1) := by decide +kernel
theorem dX6_open_85 : decode cX6_open 85 = .ok (.invokestatic 52, 3) := by decide +kernel
theorem dX6_open_88 : decode cX6_open 88 = .ok (.goto 4, 3) := by decide +kernel
theorem dX6_open_91 : decode cX6_open 91 = .ok (.iconst 0, 1) := by decide +kernel
theorem dX6_open_92 : decode cX6_open 92 = .ok (.invokevirtual 44, 3) := by decide +kernel
theorem dX6_open_95 : decode cX6_open 95 = .ok (.iinc 5 1, 3) := by decide +kernel
theorem dX6_open_98 : decode cX6_open 98 = .ok (.goto (-47), 3) := by decide +kernel
theorem dX6_open_101 : decode cX6_open 101 = .ok (.aload_n 0, 1) := by decide +kernel
theorem dX6_open_102 : decode cX6_open 102 = .ok (.dup, 1) := by decide +kernel
theorem dX6_open_103 : decode cX6_open 103 = .ok (.getfield 18, 3) := by decide +kernel
theorem dX6_open_106 : decode cX6_open 106 = .ok (.aload_n 0, 1) := by decide +kernel
theorem dX6_open_107 : decode cX6_open 107 = .ok (.iload 4, 2) := by decide +kernel
theorem dX6_open_109 : decode cX6_open 109 = .ok (.invokevirtual 56, 3) := by decide +kernel
theorem dX6_open_112 : decode cX6_open 112 = .ok (.iadd, 1) := by decide +kernel
theorem dX6_open_113 : decode cX6_open 113 = .ok (.putfield 18, 3) := by decide +kernel
theorem dX6_open_116 : decode cX6_open 116 = .ok (.iinc 4 1, 3) := by decide +kernel
theorem dX6_open_119 : decode cX6_open 119 = .ok (.goto (-98), 3) := by decide +kernel
theorem dX6_open_122 : decode cX6_open 122 = .ok (.return_, 1) := by decide +kernel
theorem dX6_worthIf_0 : decode cX6_worthIf 0 = .ok (.aload_n 0, 1) := by decide +kernel
theorem dX6_worthIf_1 : decode cX6_worthIf 1 = .ok (.getfield 59, 3) := by decide +kernel
theorem dX6_worthIf_4 : decode cX6_worthIf 4 = .ok (.iload_n 1, 1) := by decide +kernel
theorem dX6_worthIf_5 : decode cX6_worthIf 5 = .ok (.invokevirtual 40, 3) := by decide +kernel
theorem dX6_worthIf_8 : decode cX6_worthIf 8 = .ok (.istore 4, 2) := by decide +kernel
theorem dX6_worthIf_10 : decode cX6_worthIf 10 = .ok (.aload_n 0, 1) := by decide +kernel
theorem dX6_worthIf_11 : decode cX6_worthIf 11 = .ok (.iload_n 1, 1) := by decide +kernel
theorem dX6_worthIf_12 : decode cX6_worthIf 12 = .ok (.iload 4, 2) := by decide +kernel
theorem dX6_worthIf_14 : decode cX6_worthIf 14 = .ok (.iload_n 2, 1) := by decide +kernel
theorem dX6_worthIf_15 : decode cX6_worthIf 15 = .ok (.invokevirtual 62, 3) := by decide +kernel
theorem dX6_worthIf_18 : decode cX6_worthIf 18 = .ok (.istore 5, 2) := by decide +kernel
theorem dX6_worthIf_20 : decode cX6_worthIf 20 = .ok (.iload 5, 2) := by decide +kernel
theorem dX6_worthIf_22 : decode cX6_worthIf 22 = .ok (.iload_n 3, 1) := by decide +kernel
theorem dX6_worthIf_23 : decode cX6_worthIf 23 = .ok (.invokestatic 48, 3) := by decide +kernel
theorem dX6_worthIf_26 : decode cX6_worthIf 26 = .ok (.ifCond .ne 5, 3) := by decide +kernel
theorem dX6_worthIf_29 : decode cX6_worthIf 29 = .ok (.iconst 0, 1) := by decide +kernel
theorem dX6_worthIf_30 : decode cX6_worthIf 30 = .ok (.ireturn, 1) := by decide +kernel
theorem dX6_worthIf_31 : decode cX6_worthIf 31 = .ok (.iload 5, 2) := by decide +kernel
theorem dX6_worthIf_33 : decode cX6_worthIf 33 = .ok (.iload 4, 2) := by decide +kernel
theorem dX6_worthIf_35 : decode cX6_worthIf 35 = .ok (.iload_n 2, 1) := by decide +kernel
theorem dX6_worthIf_36 : decode cX6_worthIf 36 = .ok (.aload_n 0, 1) := by decide +kernel
theorem dX6_worthIf_37 : decode cX6_worthIf 37 = .ok (.getfield 66, 3) := by decide +kernel
theorem dX6_worthIf_40 : decode cX6_worthIf 40 = .ok (.invokestatic 69, 3) := by decide +kernel
theorem dX6_worthIf_43 : decode cX6_worthIf 43 = .ok (.iload_n 3, 1) := by decide +kernel
theorem dX6_worthIf_44 : decode cX6_worthIf 44 = .ok (.invokestatic 48, 3) := by decide +kernel
theorem dX6_worthIf_47 : decode cX6_worthIf 47 = .ok (.ifCond .eq 7, 3) := by decide +kernel
theorem dX6_worthIf_50 : decode cX6_worthIf 50 = .ok (.iconst 1, 1) := by decide +kernel
theorem dX6_worthIf_51 : decode cX6_worthIf 51 = .ok (.goto 4, 3) := by decide +kernel
theorem dX6_worthIf_54 : decode cX6_worthIf 54 = .ok (.iconst (-1), 1) := by decide +kernel
theorem dX6_worthIf_55 : decode cX6_worthIf 55 = .ok (.ireturn, 1) := by decide +kernel
theorem dX6_worthNow_0 : decode cX6_worthNow 0 = .ok (.aload_n 0, 1) := by decide +kernel
theorem dX6_worthNow_1 : decode cX6_worthNow 1 = .ok (.getfield 30, 3) := by decide +kernel
theorem dX6_worthNow_4 : decode cX6_worthNow 4 = .ok (.iload_n 1, 1) := by decide +kernel
theorem dX6_worthNow_5 : decode cX6_worthNow 5 = .ok (.bipush 10, 2) := by decide +kernel
theorem dX6_worthNow_7 : decode cX6_worthNow 7 = .ok (.imul, 1) := by decide +kernel
theorem dX6_worthNow_8 : decode cX6_worthNow 8 = .ok (.aload_n 0, 1) := by decide +kernel
theorem dX6_worthNow_9 : decode cX6_worthNow 9 = .ok (.getfield 26, 3) := by decide +kernel
theorem dX6_worthNow_12 : decode cX6_worthNow 12 = .ok (.iload_n 1, 1) := by decide +kernel
theorem dX6_worthNow_13 : decode cX6_worthNow 13 = .ok (.invokevirtual 40, 3) := by decide +kernel
theorem dX6_worthNow_16 : decode cX6_worthNow 16 = .ok (.iadd, 1) := by decide +kernel
theorem dX6_worthNow_17 : decode cX6_worthNow 17 = .ok (.invokevirtual 40, 3) := by decide +kernel
theorem dX6_worthNow_20 : decode cX6_worthNow 20 = .ok (.ireturn, 1) := by decide +kernel
theorem dX6_canWear_0 : decode cX6_canWear 0 = .ok (.aload_n 0, 1) := by decide +kernel
theorem dX6_canWear_1 : decode cX6_canWear 1 = .ok (.getfield 26, 3) := by decide +kernel
theorem dX6_canWear_4 : decode cX6_canWear 4 = .ok (.iload_n 1, 1) := by decide +kernel
theorem dX6_canWear_5 : decode cX6_canWear 5 = .ok (.invokevirtual 40, 3) := by decide +kernel
theorem dX6_canWear_8 : decode cX6_canWear 8 = .ok (.iload_n 2, 1) := by decide +kernel
theorem dX6_canWear_9 : decode cX6_canWear 9 = .ok (.iadd, 1) := by decide +kernel
theorem dX6_canWear_10 : decode cX6_canWear 10 = .ok (.istore_n 3, 1) := by decide +kernel
theorem dX6_canWear_11 : decode cX6_canWear 11 = .ok (.aload_n 0, 1) := by decide +kernel
theorem dX6_canWear_12 : decode cX6_canWear 12 = .ok (.getfield 15, 3) := by decide +kernel
theorem dX6_canWear_15 : decode cX6_canWear 15 = .ok (.iload_n 1, 1) := by decide +kernel
theorem dX6_canWear_16 : decode cX6_canWear 16 = .ok (.invokestatic 48, 3) := by decide +kernel
theorem dX6_canWear_19 : decode cX6_canWear 19 = .ok (.ifCond .eq 17, 3) := by decide +kernel
theorem dX6_canWear_22 : decode cX6_canWear 22 = .ok (.iload_n 3, 1) := by decide +kernel
theorem dX6_canWear_23 : decode cX6_canWear 23 = .ok (.ifCond .lt 13, 3) := by decide +kernel
theorem dX6_canWear_26 : decode cX6_canWear 26 = .ok (.iload_n 3, 1) := by decide +kernel
theorem dX6_canWear_27 : decode cX6_canWear 27 = .ok (.bipush 9, 2) := by decide +kernel
theorem dX6_canWear_29 : decode cX6_canWear 29 = .ok (.if_icmp .gt 7, 3) := by decide +kernel
theorem dX6_canWear_32 : decode cX6_canWear 32 = .ok (.iconst 1, 1) := by decide +kernel
theorem dX6_canWear_33 : decode cX6_canWear 33 = .ok (.goto 4, 3) := by decide +kernel
theorem dX6_canWear_36 : decode cX6_canWear 36 = .ok (.iconst 0, 1) := by decide +kernel
theorem dX6_canWear_37 : decode cX6_canWear 37 = .ok (.ireturn, 1) := by decide +kernel
theorem dX6_wearBy_0 : decode cX6_wearBy 0 = .ok (.aload_n 0, 1) := by decide +kernel
theorem dX6_wearBy_1 : decode cX6_wearBy 1 = .ok (.dup, 1) := by decide +kernel
theorem dX6_wearBy_2 : decode cX6_wearBy 2 = .ok (.getfield 18, 3) := by decide +kernel
theorem dX6_wearBy_5 : decode cX6_wearBy 5 = .ok (.aload_n 0, 1) := by decide +kernel
theorem dX6_wearBy_6 : decode cX6_wearBy 6 = .ok (.iload_n 1, 1) := by decide +kernel
theorem dX6_wearBy_7 : decode cX6_wearBy 7 = .ok (.invokevirtual 56, 3) := by decide +kernel
theorem dX6_wearBy_10 : decode cX6_wearBy 10 = .ok (.isub, 1) := by decide +kernel
theorem dX6_wearBy_11 : decode cX6_wearBy 11 = .ok (.putfield 18, 3) := by decide +kernel
theorem dX6_wearBy_14 : decode cX6_wearBy 14 = .ok (.aload_n 0, 1) := by decide +kernel
theorem dX6_wearBy_15 : decode cX6_wearBy 15 = .ok (.getfield 26, 3) := by decide +kernel
theorem dX6_wearBy_18 : decode cX6_wearBy 18 = .ok (.iload_n 1, 1) := by decide +kernel
theorem dX6_wearBy_19 : decode cX6_wearBy 19 = .ok (.aload_n 0, 1) := by decide +kernel
theorem dX6_wearBy_20 : decode cX6_wearBy 20 = .ok (.getfield 26, 3) := by decide +kernel
theorem dX6_wearBy_23 : decode cX6_wearBy 23 = .ok (.iload_n 1, 1) := by decide +kernel
theorem dX6_wearBy_24 : decode cX6_wearBy 24 = .ok (.invokevirtual 40, 3) := by decide +kernel
theorem dX6_wearBy_27 : decode cX6_wearBy 27 = .ok (.iload_n 2, 1) := by decide +kernel
theorem dX6_wearBy_28 : decode cX6_wearBy 28 = .ok (.iadd, 1) := by decide +kernel
theorem dX6_wearBy_29 : decode cX6_wearBy 29 = .ok (.invokevirtual 44, 3) := by decide +kernel
theorem dX6_wearBy_32 : decode cX6_wearBy 32 = .ok (.aload_n 0, 1) := by decide +kernel
theorem dX6_wearBy_33 : decode cX6_wearBy 33 = .ok (.dup, 1) := by decide +kernel
theorem dX6_wearBy_34 : decode cX6_wearBy 34 = .ok (.getfield 18, 3) := by decide +kernel
theorem dX6_wearBy_37 : decode cX6_wearBy 37 = .ok (.aload_n 0, 1) := by decide +kernel
theorem dX6_wearBy_38 : decode cX6_wearBy 38 = .ok (.iload_n 1, 1) := by decide +kernel
theorem dX6_wearBy_39 : decode cX6_wearBy 39 = .ok (.invokevirtual 56, 3) := by decide +kernel
theorem dX6_wearBy_42 : decode cX6_wearBy 42 = .ok (.iadd, 1) := by decide +kernel
theorem dX6_wearBy_43 : decode cX6_wearBy 43 = .ok (.putfield 18, 3) := by decide +kernel
theorem dX6_wearBy_46 : decode cX6_wearBy 46 = .ok (.return_, 1) := by decide +kernel
theorem dX6_fewestPresses_0 : decode cX6_fewestPresses 0 = .ok (.iconst 0, 1) := by decide +kernel
theorem dX6_fewestPresses_1 : decode cX6_fewestPresses 1 = .ok (.istore_n 1, 1) := by decide +kernel
theorem dX6_fewestPresses_2 : decode cX6_fewestPresses 2 = .ok (.iload_n 1, 1) := by decide +kernel
theorem dX6_fewestPresses_3 : decode cX6_fewestPresses 3 = .ok (.iconst 4, 1) := by decide +kernel
theorem dX6_fewestPresses_4 : decode cX6_fewestPresses 4 = .ok (.if_icmp .gt 21, 3) := by decide +kernel
theorem dX6_fewestPresses_7 : decode cX6_fewestPresses 7 = .ok (.aload_n 0, 1) := by decide +kernel
theorem dX6_fewestPresses_8 : decode cX6_fewestPresses 8 = .ok (.iconst 0, 1) := by decide +kernel
theorem dX6_fewestPresses_9 : decode cX6_fewestPresses 9 = .ok (.iload_n 1, 1) := by decide +kernel
theorem dX6_fewestPresses_10 : decode cX6_fewestPresses 10 = .ok (.iconst 0, 1) := by decide +kernel
theorem dX6_fewestPresses_11 : decode cX6_fewestPresses 11 = .ok (.invokevirtual 73, 3) := by decide +kernel
theorem dX6_fewestPresses_14 : decode cX6_fewestPresses 14 = .ok (.ifCond .eq 5, 3) := by decide +kernel
theorem dX6_fewestPresses_17 : decode cX6_fewestPresses 17 = .ok (.iload_n 1, 1) := by decide +kernel
theorem dX6_fewestPresses_18 : decode cX6_fewestPresses 18 = .ok (.ireturn, 1) := by decide +kernel
theorem dX6_fewestPresses_19 : decode cX6_fewestPresses 19 = .ok (.iinc 1 1, 3) := by decide +kernel
theorem dX6_fewestPresses_22 : decode cX6_fewestPresses 22 = .ok (.goto (-20), 3) := by decide +kernel
theorem dX6_fewestPresses_25 : decode cX6_fewestPresses 25 = .ok (.bipush (-9), 2) := by decide +kernel
theorem dX6_fewestPresses_27 : decode cX6_fewestPresses 27 = .ok (.ireturn, 1) := by decide +kernel
theorem dX6_pressOn_0 : decode cX6_pressOn 0 = .ok (.iload_n 1, 1) := by decide +kernel
theorem dX6_pressOn_1 : decode cX6_pressOn 1 = .ok (.iload_n 2, 1) := by decide +kernel
theorem dX6_pressOn_2 : decode cX6_pressOn 2 = .ok (.if_icmp .ge 8, 3) := by decide +kernel
theorem dX6_pressOn_5 : decode cX6_pressOn 5 = .ok (.iload_n 1, 1) := by decide +kernel
theorem dX6_pressOn_6 : decode cX6_pressOn 6 = .ok (.iconst 4, 1) := by decide +kernel
theorem dX6_pressOn_7 : decode cX6_pressOn 7 = .ok (.if_icmp .lt 16, 3) := by decide +kernel
theorem dX6_pressOn_10 : decode cX6_pressOn 10 = .ok (.aload_n 0, 1) := by decide +kernel
theorem dX6_pressOn_11 : decode cX6_pressOn 11 = .ok (.getfield 18, 3) := by decide +kernel
theorem dX6_pressOn_14 : decode cX6_pressOn 14 = .ok (.ifCond .gt 7, 3) := by decide +kernel
theorem dX6_pressOn_17 : decode cX6_pressOn 17 = .ok (.iconst 1, 1) := by decide +kernel
theorem dX6_pressOn_18 : decode cX6_pressOn 18 = .ok (.goto 4, 3) := by decide +kernel
theorem dX6_pressOn_21 : decode cX6_pressOn 21 = .ok (.iconst 0, 1) := by decide +kernel
theorem dX6_pressOn_22 : decode cX6_pressOn 22 = .ok (.ireturn, 1) := by decide +kernel
theorem dX6_pressOn_23 : decode cX6_pressOn 23 = .ok (.iload_n 3, 1) := by decide +kernel
theorem dX6_pressOn_24 : decode cX6_pressOn 24 = .ok (.istore 4, 2) := by decide +kernel
theorem dX6_pressOn_26 : decode cX6_pressOn 26 = .ok (.iload 4, 2) := by decide +kernel
theorem dX6_pressOn_28 : decode cX6_pressOn 28 = .ok (.aload_n 0, 1) := by decide +kernel
theorem dX6_pressOn_29 : decode cX6_pressOn 29 = .ok (.getfield 9, 3) := by decide +kernel
theorem dX6_pressOn_32 : decode cX6_pressOn 32 = .ok (.if_icmp .ge 65, 3) := by decide +kernel
theorem dX6_pressOn_35 : decode cX6_pressOn 35 = .ok (.aload_n 0, 1) := by decide +kernel
theorem dX6_pressOn_36 : decode cX6_pressOn 36 = .ok (.iload 4, 2) := by decide +kernel
theorem dX6_pressOn_38 : decode cX6_pressOn 38 = .ok (.iconst 1, 1) := by decide +kernel
theorem dX6_pressOn_39 : decode cX6_pressOn 39 = .ok (.invokevirtual 77, 3) := by decide +kernel
theorem dX6_pressOn_42 : decode cX6_pressOn 42 = .ok (.ifCond .ne 6, 3) := by decide +kernel
theorem dX6_pressOn_45 : decode cX6_pressOn 45 = .ok (.goto 46, 3) := by decide +kernel
theorem dX6_pressOn_48 : decode cX6_pressOn 48 = .ok (.aload_n 0, 1) := by decide +kernel
theorem dX6_pressOn_49 : decode cX6_pressOn 49 = .ok (.getfield 33, 3) := by decide +kernel
theorem dX6_pressOn_52 : decode cX6_pressOn 52 = .ok (.iload_n 1, 1) := by decide +kernel
theorem dX6_pressOn_53 : decode cX6_pressOn 53 = .ok (.iload 4, 2) := by decide +kernel
theorem dX6_pressOn_55 : decode cX6_pressOn 55 = .ok (.invokevirtual 44, 3) := by decide +kernel
theorem dX6_pressOn_58 : decode cX6_pressOn 58 = .ok (.aload_n 0, 1) := by decide +kernel
theorem dX6_pressOn_59 : decode cX6_pressOn 59 = .ok (.iload 4, 2) := by decide +kernel
theorem dX6_pressOn_61 : decode cX6_pressOn 61 = .ok (.iconst 1, 1) := by decide +kernel
theorem dX6_pressOn_62 : decode cX6_pressOn 62 = .ok (.invokevirtual 80, 3) := by decide +kernel
theorem dX6_pressOn_65 : decode cX6_pressOn 65 = .ok (.aload_n 0, 1) := by decide +kernel
theorem dX6_pressOn_66 : decode cX6_pressOn 66 = .ok (.iload_n 1, 1) := by decide +kernel
theorem dX6_pressOn_67 : decode cX6_pressOn 67 = .ok (.iconst 1, 1) := by decide +kernel
theorem dX6_pressOn_68 : decode cX6_pressOn 68 = .ok (.iadd, 1) := by decide +kernel
theorem dX6_pressOn_69 : decode cX6_pressOn 69 = .ok (.iload_n 2, 1) := by decide +kernel
theorem dX6_pressOn_70 : decode cX6_pressOn 70 = .ok (.iload 4, 2) := by decide +kernel
theorem dX6_pressOn_72 : decode cX6_pressOn 72 = .ok (.invokevirtual 73, 3) := by decide +kernel
theorem dX6_pressOn_75 : decode cX6_pressOn 75 = .ok (.istore 5, 2) := by decide +kernel
theorem dX6_pressOn_77 : decode cX6_pressOn 77 = .ok (.aload_n 0, 1) := by decide +kernel
theorem dX6_pressOn_78 : decode cX6_pressOn 78 = .ok (.iload 4, 2) := by decide +kernel
theorem dX6_pressOn_80 : decode cX6_pressOn 80 = .ok (.iconst (-1), 1) := by decide +kernel
theorem dX6_pressOn_81 : decode cX6_pressOn 81 = .ok (.invokevirtual 80, 3) := by decide +kernel
theorem dX6_pressOn_84 : decode cX6_pressOn 84 = .ok (.iload 5, 2) := by decide +kernel
theorem dX6_pressOn_86 : decode cX6_pressOn 86 = .ok (.ifCond .eq 5, 3) := by decide +kernel
theorem dX6_pressOn_89 : decode cX6_pressOn 89 = .ok (.iconst 1, 1) := by decide +kernel
theorem dX6_pressOn_90 : decode cX6_pressOn 90 = .ok (.ireturn, 1) := by decide +kernel
theorem dX6_pressOn_91 : decode cX6_pressOn 91 = .ok (.iinc 4 1, 3) := by decide +kernel
theorem dX6_pressOn_94 : decode cX6_pressOn 94 = .ok (.goto (-68), 3) := by decide +kernel
theorem dX6_pressOn_97 : decode cX6_pressOn 97 = .ok (.iconst 0, 1) := by decide +kernel
theorem dX6_pressOn_98 : decode cX6_pressOn 98 = .ok (.ireturn, 1) := by decide +kernel
theorem dX6_playOut_0 : decode cX6_playOut 0 = .ok (.iload_n 1, 1) := by decide +kernel
theorem dX6_playOut_1 : decode cX6_playOut 1 = .ok (.ifCond .le 8, 3) := by decide +kernel
theorem dX6_playOut_4 : decode cX6_playOut 4 = .ok (.iload_n 1, 1) := by decide +kernel
theorem dX6_playOut_5 : decode cX6_playOut 5 = .ok (.iconst 4, 1) := by decide +kernel
theorem dX6_playOut_6 : decode cX6_playOut 6 = .ok (.if_icmp .le 8, 3) := by decide +kernel
theorem dX6_playOut_9 : decode cX6_playOut 9 = .ok (.aload_n 0, 1) := by decide +kernel
theorem dX6_playOut_10 : decode cX6_playOut 10 = .ok (.getfield 18, 3) := by decide +kernel
theorem dX6_playOut_13 : decode cX6_playOut 13 = .ok (.ireturn, 1) := by decide +kernel
theorem dX6_playOut_14 : decode cX6_playOut 14 = .ok (.iload_n 1, 1) := by decide +kernel
theorem dX6_playOut_15 : decode cX6_playOut 15 = .ok (.iconst 2, 1) := by decide +kernel
theorem dX6_playOut_16 : decode cX6_playOut 16 = .ok (.irem, 1) := by decide +kernel
theorem dX6_playOut_17 : decode cX6_playOut 17 = .ok (.ifCond .ne 7, 3) := by decide +kernel
theorem dX6_playOut_20 : decode cX6_playOut 20 = .ok (.iconst 1, 1) := by decide +kernel
theorem dX6_playOut_21 : decode cX6_playOut 21 = .ok (.goto 4, 3) := by decide +kernel
theorem dX6_playOut_24 : decode cX6_playOut 24 = .ok (.iconst 0, 1) := by decide +kernel
theorem dX6_playOut_25 : decode cX6_playOut 25 = .ok (.istore_n 2, 1) := by decide +kernel
theorem dX6_playOut_26 : decode cX6_playOut 26 = .ok (.iload_n 2, 1) := by decide +kernel
theorem dX6_playOut_27 : decode cX6_playOut 27 = .ok (.ifCond .eq 7, 3) := by decide +kernel
theorem dX6_playOut_30 : decode cX6_playOut 30 = .ok (.iconst (-1), 1) := by decide +kernel
theorem dX6_playOut_31 : decode cX6_playOut 31 = .ok (.goto 4, 3) := by decide +kernel
theorem dX6_playOut_34 : decode cX6_playOut 34 = .ok (.iconst 1, 1) := by decide +kernel
theorem dX6_playOut_35 : decode cX6_playOut 35 = .ok (.istore_n 3, 1) := by decide +kernel
theorem dX6_playOut_36 : decode cX6_playOut 36 = .ok (.aload_n 0, 1) := by decide +kernel
theorem dX6_playOut_37 : decode cX6_playOut 37 = .ok (.iload_n 1, 1) := by decide +kernel
theorem dX6_playOut_38 : decode cX6_playOut 38 = .ok (.iconst 1, 1) := by decide +kernel
theorem dX6_playOut_39 : decode cX6_playOut 39 = .ok (.isub, 1) := by decide +kernel
theorem dX6_playOut_40 : decode cX6_playOut 40 = .ok (.invokevirtual 83, 3) := by decide +kernel
theorem dX6_playOut_43 : decode cX6_playOut 43 = .ok (.istore 4, 2) := by decide +kernel
theorem dX6_playOut_45 : decode cX6_playOut 45 = .ok (.iconst 0, 1) := by decide +kernel
theorem dX6_playOut_46 : decode cX6_playOut 46 = .ok (.istore 5, 2) := by decide +kernel
theorem dX6_playOut_48 : decode cX6_playOut 48 = .ok (.iload 5, 2) := by decide +kernel
theorem dX6_playOut_50 : decode cX6_playOut 50 = .ok (.aload_n 0, 1) := by decide +kernel
theorem dX6_playOut_51 : decode cX6_playOut 51 = .ok (.getfield 9, 3) := by decide +kernel
theorem dX6_playOut_54 : decode cX6_playOut 54 = .ok (.if_icmp .ge 69, 3) := by decide +kernel
theorem dX6_playOut_57 : decode cX6_playOut 57 = .ok (.aload_n 0, 1) := by decide +kernel
theorem dX6_playOut_58 : decode cX6_playOut 58 = .ok (.iload 5, 2) := by decide +kernel
theorem dX6_playOut_60 : decode cX6_playOut 60 = .ok (.iload_n 3, 1) := by decide +kernel
theorem dX6_playOut_61 : decode cX6_playOut 61 = .ok (.invokevirtual 77, 3) := by decide +kernel
theorem dX6_playOut_64 : decode cX6_playOut 64 = .ok (.ifCond .ne 6, 3) := by decide +kernel
theorem dX6_playOut_67 : decode cX6_playOut 67 = .ok (.goto 50, 3) := by decide +kernel
theorem dX6_playOut_70 : decode cX6_playOut 70 = .ok (.aload_n 0, 1) := by decide +kernel
theorem dX6_playOut_71 : decode cX6_playOut 71 = .ok (.iload 5, 2) := by decide +kernel
theorem dX6_playOut_73 : decode cX6_playOut 73 = .ok (.iload_n 3, 1) := by decide +kernel
theorem dX6_playOut_74 : decode cX6_playOut 74 = .ok (.invokevirtual 80, 3) := by decide +kernel
theorem dX6_playOut_77 : decode cX6_playOut 77 = .ok (.aload_n 0, 1) := by decide +kernel
theorem dX6_playOut_78 : decode cX6_playOut 78 = .ok (.iload_n 1, 1) := by decide +kernel
theorem dX6_playOut_79 : decode cX6_playOut 79 = .ok (.iconst 1, 1) := by decide +kernel
theorem dX6_playOut_80 : decode cX6_playOut 80 = .ok (.isub, 1) := by decide +kernel
theorem dX6_playOut_81 : decode cX6_playOut 81 = .ok (.invokevirtual 83, 3) := by decide +kernel
theorem dX6_playOut_84 : decode cX6_playOut 84 = .ok (.istore 6, 2) := by decide +kernel
theorem dX6_playOut_86 : decode cX6_playOut 86 = .ok (.aload_n 0, 1) := by decide +kernel
theorem dX6_playOut_87 : decode cX6_playOut 87 = .ok (.iload 5, 2) := by decide +kernel
theorem dX6_playOut_89 : decode cX6_playOut 89 = .ok (.iload_n 3, 1) := by decide +kernel
theorem dX6_playOut_90 : decode cX6_playOut 90 = .ok (.ineg, 1) := by decide +kernel
theorem dX6_playOut_91 : decode cX6_playOut 91 = .ok (.invokevirtual 80, 3) := by decide +kernel
theorem dX6_playOut_94 : decode cX6_playOut 94 = .ok (.iload_n 2, 1) := by decide +kernel
theorem dX6_playOut_95 : decode cX6_playOut 95 = .ok (.ifCond .eq 13, 3) := by decide +kernel
theorem dX6_playOut_98 : decode cX6_playOut 98 = .ok (.iload 4, 2) := by decide +kernel
theorem dX6_playOut_100 : decode cX6_playOut 100 = .ok (.iload 6, 2) := by decide +kernel
theorem dX6_playOut_102 : decode cX6_playOut 102 = .ok (.invokestatic 86, 3) := by decide +kernel
theorem dX6_playOut_105 : decode cX6_playOut 105 = .ok (.goto 10, 3) := by decide +kernel
theorem dX6_playOut_108 : decode cX6_playOut 108 = .ok (.iload 4, 2) := by decide +kernel
theorem dX6_playOut_110 : decode cX6_playOut 110 = .ok (.iload 6, 2) := by decide +kernel
theorem dX6_playOut_112 : decode cX6_playOut 112 = .ok (.invokestatic 92, 3) := by decide +kernel
theorem dX6_playOut_115 : decode cX6_playOut 115 = .ok (.istore 4, 2) := by decide +kernel
theorem dX6_playOut_117 : decode cX6_playOut 117 = .ok (.iinc 5 1, 3) := by decide +kernel
theorem dX6_playOut_120 : decode cX6_playOut 120 = .ok (.goto (-72), 3) := by decide +kernel
theorem dX6_playOut_123 : decode cX6_playOut 123 = .ok (.iload 4, 2) := by decide +kernel
theorem dX6_playOut_125 : decode cX6_playOut 125 = .ok (.ireturn, 1) := by decide +kernel
theorem dJ6_bitCount_0f7a4_0 : decode cJ6_bitCount_0f7a4 0 = .ok (.iload_n 0, 1) := by decide +kernel
theorem dJ6_bitCount_0f7a4_1 : decode cJ6_bitCount_0f7a4 1 = .ok (.iload_n 0, 1) := by decide +kernel
theorem dJ6_bitCount_0f7a4_2 : decode cJ6_bitCount_0f7a4 2 = .ok (.iconst 1, 1) := by decide +kernel
theorem dJ6_bitCount_0f7a4_3 : decode cJ6_bitCount_0f7a4 3 = .ok (.iushr, 1) := by decide +kernel
theorem dJ6_bitCount_0f7a4_4 : decode cJ6_bitCount_0f7a4 4 = .ok (.ldc_w 265, 3) := by decide +kernel
theorem dJ6_bitCount_0f7a4_7 : decode cJ6_bitCount_0f7a4 7 = .ok (.iand, 1) := by decide +kernel
theorem dJ6_bitCount_0f7a4_8 : decode cJ6_bitCount_0f7a4 8 = .ok (.isub, 1) := by decide +kernel
theorem dJ6_bitCount_0f7a4_9 : decode cJ6_bitCount_0f7a4 9 = .ok (.istore_n 0, 1) := by decide +kernel
theorem dJ6_bitCount_0f7a4_10 : decode cJ6_bitCount_0f7a4 10 = .ok (.iload_n 0, 1) := by decide +kernel
theorem dJ6_bitCount_0f7a4_11 : decode cJ6_bitCount_0f7a4 11 = .ok (.ldc_w 266, 3) := by decide +kernel
theorem dJ6_bitCount_0f7a4_14 : decode cJ6_bitCount_0f7a4 14 = .ok (.iand, 1) := by decide +kernel
theorem dJ6_bitCount_0f7a4_15 : decode cJ6_bitCount_0f7a4 15 = .ok (.iload_n 0, 1) := by decide +kernel
theorem dJ6_bitCount_0f7a4_16 : decode cJ6_bitCount_0f7a4 16 = .ok (.iconst 2, 1) := by decide +kernel
theorem dJ6_bitCount_0f7a4_17 : decode cJ6_bitCount_0f7a4 17 = .ok (.iushr, 1) := by decide +kernel
theorem dJ6_bitCount_0f7a4_18 : decode cJ6_bitCount_0f7a4 18 = .ok (.ldc_w 266, 3) := by decide +kernel
theorem dJ6_bitCount_0f7a4_21 : decode cJ6_bitCount_0f7a4 21 = .ok (.iand, 1) := by decide +kernel
theorem dJ6_bitCount_0f7a4_22 : decode cJ6_bitCount_0f7a4 22 = .ok (.iadd, 1) := by decide +kernel
theorem dJ6_bitCount_0f7a4_23 : decode cJ6_bitCount_0f7a4 23 = .ok (.istore_n 0, 1) := by decide +kernel
theorem dJ6_bitCount_0f7a4_24 : decode cJ6_bitCount_0f7a4 24 = .ok (.iload_n 0, 1) := by decide +kernel
theorem dJ6_bitCount_0f7a4_25 : decode cJ6_bitCount_0f7a4 25 = .ok (.iload_n 0, 1) := by decide +kernel
theorem dJ6_bitCount_0f7a4_26 : decode cJ6_bitCount_0f7a4 26 = .ok (.iconst 4, 1) := by decide +kernel
theorem dJ6_bitCount_0f7a4_27 : decode cJ6_bitCount_0f7a4 27 = .ok (.iushr, 1) := by decide +kernel
theorem dJ6_bitCount_0f7a4_28 : decode cJ6_bitCount_0f7a4 28 = .ok (.iadd, 1) := by decide +kernel
theorem dJ6_bitCount_0f7a4_29 : decode cJ6_bitCount_0f7a4 29 = .ok (.ldc_w 267, 3) := by decide +kernel
theorem dJ6_bitCount_0f7a4_32 : decode cJ6_bitCount_0f7a4 32 = .ok (.iand, 1) := by decide +kernel
theorem dJ6_bitCount_0f7a4_33 : decode cJ6_bitCount_0f7a4 33 = .ok (.istore_n 0, 1) := by decide +kernel
theorem dJ6_bitCount_0f7a4_34 : decode cJ6_bitCount_0f7a4 34 = .ok (.iload_n 0, 1) := by decide +kernel
theorem dJ6_bitCount_0f7a4_35 : decode cJ6_bitCount_0f7a4 35 = .ok (.iload_n 0, 1) := by decide +kernel
theorem dJ6_bitCount_0f7a4_36 : decode cJ6_bitCount_0f7a4 36 = .ok (.bipush 8, 2) := by decide +kernel
theorem dJ6_bitCount_0f7a4_38 : decode cJ6_bitCount_0f7a4 38 = .ok (.iushr, 1) := by decide +kernel
theorem dJ6_bitCount_0f7a4_39 : decode cJ6_bitCount_0f7a4 39 = .ok (.iadd, 1) := by decide +kernel
theorem dJ6_bitCount_0f7a4_40 : decode cJ6_bitCount_0f7a4 40 = .ok (.istore_n 0, 1) := by decide +kernel
theorem dJ6_bitCount_0f7a4_41 : decode cJ6_bitCount_0f7a4 41 = .ok (.iload_n 0, 1) := by decide +kernel
theorem dJ6_bitCount_0f7a4_42 : decode cJ6_bitCount_0f7a4 42 = .ok (.iload_n 0, 1) := by decide +kernel
theorem dJ6_bitCount_0f7a4_43 : decode cJ6_bitCount_0f7a4 43 = .ok (.bipush 16, 2) := by decide +kernel
theorem dJ6_bitCount_0f7a4_45 : decode cJ6_bitCount_0f7a4 45 = .ok (.iushr, 1) := by decide +kernel
theorem dJ6_bitCount_0f7a4_46 : decode cJ6_bitCount_0f7a4 46 = .ok (.iadd, 1) := by decide +kernel
theorem dJ6_bitCount_0f7a4_47 : decode cJ6_bitCount_0f7a4 47 = .ok (.istore_n 0, 1) := by decide +kernel
theorem dJ6_bitCount_0f7a4_48 : decode cJ6_bitCount_0f7a4 48 = .ok (.iload_n 0, 1) := by decide +kernel
theorem dJ6_bitCount_0f7a4_49 : decode cJ6_bitCount_0f7a4 49 = .ok (.bipush 63, 2) := by decide +kernel
theorem dJ6_bitCount_0f7a4_51 : decode cJ6_bitCount_0f7a4 51 = .ok (.iand, 1) := by decide +kernel
theorem dJ6_bitCount_0f7a4_52 : decode cJ6_bitCount_0f7a4 52 = .ok (.ireturn, 1) := by decide +kernel
theorem dJ13_bitCount_95d88_0 : decode cJ13_bitCount_95d88 0 = .ok (.lload_n 0, 1) := by decide +kernel
theorem dJ13_bitCount_95d88_1 : decode cJ13_bitCount_95d88 1 = .ok (.lload_n 0, 1) := by decide +kernel
theorem dJ13_bitCount_95d88_2 : decode cJ13_bitCount_95d88 2 = .ok (.iconst 1, 1) := by decide +kernel
theorem dJ13_bitCount_95d88_3 : decode cJ13_bitCount_95d88 3 = .ok (.lushr, 1) := by decide +kernel
theorem dJ13_bitCount_95d88_4 : decode cJ13_bitCount_95d88 4 = .ok (.ldc2_w 314, 3) := by decide +kernel
theorem dJ13_bitCount_95d88_7 : decode cJ13_bitCount_95d88 7 = .ok (.land, 1) := by decide +kernel
theorem dJ13_bitCount_95d88_8 : decode cJ13_bitCount_95d88 8 = .ok (.lsub, 1) := by decide +kernel
theorem dJ13_bitCount_95d88_9 : decode cJ13_bitCount_95d88 9 = .ok (.lstore_n 0, 1) := by decide +kernel
theorem dJ13_bitCount_95d88_10 : decode cJ13_bitCount_95d88 10 = .ok (.lload_n 0, 1) := by decide +kernel
theorem dJ13_bitCount_95d88_11 : decode cJ13_bitCount_95d88 11 = .ok (.ldc2_w 316, 3) := by decide +kernel
theorem dJ13_bitCount_95d88_14 : decode cJ13_bitCount_95d88 14 = .ok (.land, 1) := by decide +kernel
theorem dJ13_bitCount_95d88_15 : decode cJ13_bitCount_95d88 15 = .ok (.lload_n 0, 1) := by decide +kernel
theorem dJ13_bitCount_95d88_16 : decode cJ13_bitCount_95d88 16 = .ok (.iconst 2, 1) := by decide +kernel
theorem dJ13_bitCount_95d88_17 : decode cJ13_bitCount_95d88 17 = .ok (.lushr, 1) := by decide +kernel
theorem dJ13_bitCount_95d88_18 : decode cJ13_bitCount_95d88 18 = .ok (.ldc2_w 316, 3) := by decide +kernel
theorem dJ13_bitCount_95d88_21 : decode cJ13_bitCount_95d88 21 = .ok (.land, 1) := by decide +kernel
theorem dJ13_bitCount_95d88_22 : decode cJ13_bitCount_95d88 22 = .ok (.ladd, 1) := by decide +kernel
theorem dJ13_bitCount_95d88_23 : decode cJ13_bitCount_95d88 23 = .ok (.lstore_n 0, 1) := by decide +kernel
theorem dJ13_bitCount_95d88_24 : decode cJ13_bitCount_95d88 24 = .ok (.lload_n 0, 1) := by decide +kernel
theorem dJ13_bitCount_95d88_25 : decode cJ13_bitCount_95d88 25 = .ok (.lload_n 0, 1) := by decide +kernel
theorem dJ13_bitCount_95d88_26 : decode cJ13_bitCount_95d88 26 = .ok (.iconst 4, 1) := by decide +kernel
theorem dJ13_bitCount_95d88_27 : decode cJ13_bitCount_95d88 27 = .ok (.lushr, 1) := by decide +kernel
theorem dJ13_bitCount_95d88_28 : decode cJ13_bitCount_95d88 28 = .ok (.ladd, 1) := by decide +kernel
theorem dJ13_bitCount_95d88_29 : decode cJ13_bitCount_95d88 29 = .ok (.ldc2_w 318, 3) := by decide +kernel
theorem dJ13_bitCount_95d88_32 : decode cJ13_bitCount_95d88 32 = .ok (.land, 1) := by decide +kernel
theorem dJ13_bitCount_95d88_33 : decode cJ13_bitCount_95d88 33 = .ok (.lstore_n 0, 1) := by decide +kernel
theorem dJ13_bitCount_95d88_34 : decode cJ13_bitCount_95d88 34 = .ok (.lload_n 0, 1) := by decide +kernel
theorem dJ13_bitCount_95d88_35 : decode cJ13_bitCount_95d88 35 = .ok (.lload_n 0, 1) := by decide +kernel
theorem dJ13_bitCount_95d88_36 : decode cJ13_bitCount_95d88 36 = .ok (.bipush 8, 2) := by decide +kernel
theorem dJ13_bitCount_95d88_38 : decode cJ13_bitCount_95d88 38 = .ok (.lushr, 1) := by decide +kernel
theorem dJ13_bitCount_95d88_39 : decode cJ13_bitCount_95d88 39 = .ok (.ladd, 1) := by decide +kernel
theorem dJ13_bitCount_95d88_40 : decode cJ13_bitCount_95d88 40 = .ok (.lstore_n 0, 1) := by decide +kernel
theorem dJ13_bitCount_95d88_41 : decode cJ13_bitCount_95d88 41 = .ok (.lload_n 0, 1) := by decide +kernel
theorem dJ13_bitCount_95d88_42 : decode cJ13_bitCount_95d88 42 = .ok (.lload_n 0, 1) := by decide +kernel
theorem dJ13_bitCount_95d88_43 : decode cJ13_bitCount_95d88 43 = .ok (.bipush 16, 2) := by decide +kernel
theorem dJ13_bitCount_95d88_45 : decode cJ13_bitCount_95d88 45 = .ok (.lushr, 1) := by decide +kernel
theorem dJ13_bitCount_95d88_46 : decode cJ13_bitCount_95d88 46 = .ok (.ladd, 1) := by decide +kernel
theorem dJ13_bitCount_95d88_47 : decode cJ13_bitCount_95d88 47 = .ok (.lstore_n 0, 1) := by decide +kernel
theorem dJ13_bitCount_95d88_48 : decode cJ13_bitCount_95d88 48 = .ok (.lload_n 0, 1) := by decide +kernel
theorem dJ13_bitCount_95d88_49 : decode cJ13_bitCount_95d88 49 = .ok (.lload_n 0, 1) := by decide +kernel
theorem dJ13_bitCount_95d88_50 : decode cJ13_bitCount_95d88 50 = .ok (.bipush 32, 2) := by decide +kernel
theorem dJ13_bitCount_95d88_52 : decode cJ13_bitCount_95d88 52 = .ok (.lushr, 1) := by decide +kernel
theorem dJ13_bitCount_95d88_53 : decode cJ13_bitCount_95d88 53 = .ok (.ladd, 1) := by decide +kernel
theorem dJ13_bitCount_95d88_54 : decode cJ13_bitCount_95d88 54 = .ok (.lstore_n 0, 1) := by decide +kernel
theorem dJ13_bitCount_95d88_55 : decode cJ13_bitCount_95d88 55 = .ok (.lload_n 0, 1) := by decide +kernel
theorem dJ13_bitCount_95d88_56 : decode cJ13_bitCount_95d88 56 = .ok (.l2i, 1) := by decide +kernel
theorem dJ13_bitCount_95d88_57 : decode cJ13_bitCount_95d88 57 = .ok (.bipush 127, 2) := by decide +kernel
theorem dJ13_bitCount_95d88_59 : decode cJ13_bitCount_95d88 59 = .ok (.iand, 1) := by decide +kernel
theorem dJ13_bitCount_95d88_60 : decode cJ13_bitCount_95d88 60 = .ok (.ireturn, 1) := by decide +kernel
