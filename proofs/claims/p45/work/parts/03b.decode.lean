/-! decode rows -/
theorem dX7_init_0 : decode cX7_init 0 = .ok (.aload_n 0, 1) := by decide +kernel
theorem dX7_init_1 : decode cX7_init 1 = .ok (.invokespecial 1, 3) := by decide +kernel
theorem dX7_init_4 : decode cX7_init 4 = .ok (.aload_n 0, 1) := by decide +kernel
theorem dX7_init_5 : decode cX7_init 5 = .ok (.new 7, 3) := by decide +kernel
theorem dX7_init_8 : decode cX7_init 8 = .ok (.dup, 1) := by decide +kernel
theorem dX7_init_9 : decode cX7_init 9 = .ok (.bipush 6, 2) := by decide +kernel
theorem dX7_init_11 : decode cX7_init 11 = .ok (.bipush 40, 2) := by decide +kernel
theorem dX7_init_13 : decode cX7_init 13 = .ok (.invokespecial 11, 3) := by decide +kernel
theorem dX7_init_16 : decode cX7_init 16 = .ok (.putfield 14, 3) := by decide +kernel
theorem dX7_init_19 : decode cX7_init 19 = .ok (.aload_n 0, 1) := by decide +kernel
theorem dX7_init_20 : decode cX7_init 20 = .ok (.new 7, 3) := by decide +kernel
theorem dX7_init_23 : decode cX7_init 23 = .ok (.dup, 1) := by decide +kernel
theorem dX7_init_24 : decode cX7_init 24 = .ok (.iconst 4, 1) := by decide +kernel
theorem dX7_init_25 : decode cX7_init 25 = .ok (.bipush 60, 2) := by decide +kernel
theorem dX7_init_27 : decode cX7_init 27 = .ok (.invokespecial 11, 3) := by decide +kernel
theorem dX7_init_30 : decode cX7_init 30 = .ok (.putfield 18, 3) := by decide +kernel
theorem dX7_init_33 : decode cX7_init 33 = .ok (.aload_n 0, 1) := by decide +kernel
theorem dX7_init_34 : decode cX7_init 34 = .ok (.new 21, 3) := by decide +kernel
theorem dX7_init_37 : decode cX7_init 37 = .ok (.dup, 1) := by decide +kernel
theorem dX7_init_38 : decode cX7_init 38 = .ok (.invokespecial 23, 3) := by decide +kernel
theorem dX7_init_41 : decode cX7_init 41 = .ok (.putfield 24, 3) := by decide +kernel
theorem dX7_init_44 : decode cX7_init 44 = .ok (.aload_n 0, 1) := by decide +kernel
theorem dX7_init_45 : decode cX7_init 45 = .ok (.new 21, 3) := by decide +kernel
theorem dX7_init_48 : decode cX7_init 48 = .ok (.dup, 1) := by decide +kernel
theorem dX7_init_49 : decode cX7_init 49 = .ok (.invokespecial 23, 3) := by decide +kernel
theorem dX7_init_52 : decode cX7_init 52 = .ok (.putfield 28, 3) := by decide +kernel
theorem dX7_init_55 : decode cX7_init 55 = .ok (.aload_n 0, 1) := by decide +kernel
theorem dX7_init_56 : decode cX7_init 56 = .ok (.iconst 3, 1) := by decide +kernel
theorem dX7_init_57 : decode cX7_init 57 = .ok (.anewarray 21, 3) := by decide +kernel
theorem dX7_init_60 : decode cX7_init 60 = .ok (.putfield 31, 3) := by decide +kernel
theorem dX7_init_63 : decode cX7_init 63 = .ok (.aload_n 0, 1) := by decide +kernel
theorem dX7_init_64 : decode cX7_init 64 = .ok (.new 35, 3) := by decide +kernel
theorem dX7_init_67 : decode cX7_init 67 = .ok (.dup, 1) := by decide +kernel
theorem dX7_init_68 : decode cX7_init 68 = .ok (.invokespecial 37, 3) := by decide +kernel
theorem dX7_init_71 : decode cX7_init 71 = .ok (.putfield 38, 3) := by decide +kernel
theorem dX7_init_74 : decode cX7_init 74 = .ok (.aload_n 0, 1) := by decide +kernel
theorem dX7_init_75 : decode cX7_init 75 = .ok (.new 42, 3) := by decide +kernel
theorem dX7_init_78 : decode cX7_init 78 = .ok (.dup, 1) := by decide +kernel
theorem dX7_init_79 : decode cX7_init 79 = .ok (.invokespecial 44, 3) := by decide +kernel
theorem dX7_init_82 : decode cX7_init 82 = .ok (.putfield 45, 3) := by decide +kernel
theorem dX7_init_85 : decode cX7_init 85 = .ok (.aload_n 0, 1) := by decide +kernel
theorem dX7_init_86 : decode cX7_init 86 = .ok (.new 49, 3) := by decide +kernel
theorem dX7_init_89 : decode cX7_init 89 = .ok (.dup, 1) := by decide +kernel
theorem dX7_init_90 : decode cX7_init 90 = .ok (.invokespecial 51, 3) := by decide +kernel
theorem dX7_init_93 : decode cX7_init 93 = .ok (.putfield 52, 3) := by decide +kernel
theorem dX7_init_96 : decode cX7_init 96 = .ok (.aload_n 0, 1) := by decide +kernel
theorem dX7_init_97 : decode cX7_init 97 = .ok (.new 56, 3) := by decide +kernel
theorem dX7_init_100 : decode cX7_init 100 = .ok (.dup, 1) := by decide +kernel
theorem dX7_init_101 : decode cX7_init 101 = .ok (.invokespecial 58, 3) := by decide +kernel
theorem dX7_init_104 : decode cX7_init 104 = .ok (.putfield 59, 3) := by decide +kernel
theorem dX7_init_107 : decode cX7_init 107 = .ok (.aload_n 0, 1) := by decide +kernel
theorem dX7_init_108 : decode cX7_init 108 = .ok (.new 63, 3) := by decide +kernel
theorem dX7_init_111 : decode cX7_init 111 = .ok (.dup, 1) := by decide +kernel
theorem dX7_init_112 : decode cX7_init 112 = .ok (.bipush 6, 2) := by decide +kernel
theorem dX7_init_114 : decode cX7_init 114 = .ok (.invokespecial 65, 3) := by decide +kernel
theorem dX7_init_117 : decode cX7_init 117 = .ok (.putfield 68, 3) := by decide +kernel
theorem dX7_init_120 : decode cX7_init 120 = .ok (.aload_n 0, 1) := by decide +kernel
theorem dX7_init_121 : decode cX7_init 121 = .ok (.iconst 0, 1) := by decide +kernel
theorem dX7_init_122 : decode cX7_init 122 = .ok (.putfield 72, 3) := by decide +kernel
theorem dX7_init_125 : decode cX7_init 125 = .ok (.aload_n 0, 1) := by decide +kernel
theorem dX7_init_126 : decode cX7_init 126 = .ok (.iconst 0, 1) := by decide +kernel
theorem dX7_init_127 : decode cX7_init 127 = .ok (.putfield 76, 3) := by decide +kernel
theorem dX7_init_130 : decode cX7_init 130 = .ok (.aload_n 0, 1) := by decide +kernel
theorem dX7_init_131 : decode cX7_init 131 = .ok (.lconst 0, 1) := by decide +kernel
theorem dX7_init_132 : decode cX7_init 132 = .ok (.putfield 79, 3) := by decide +kernel
theorem dX7_init_135 : decode cX7_init 135 = .ok (.aload_n 0, 1) := by decide +kernel
theorem dX7_init_136 : decode cX7_init 136 = .ok (.lconst 1, 1) := by decide +kernel
theorem dX7_init_137 : decode cX7_init 137 = .ok (.putfield 83, 3) := by decide +kernel
theorem dX7_init_140 : decode cX7_init 140 = .ok (.return_, 1) := by decide +kernel
theorem dX7_row_0 : decode cX7_row 0 = .ok (.aload_n 0, 1) := by decide +kernel
theorem dX7_row_1 : decode cX7_row 1 = .ok (.getfield 14, 3) := by decide +kernel
theorem dX7_row_4 : decode cX7_row 4 = .ok (.iload_n 1, 1) := by decide +kernel
theorem dX7_row_5 : decode cX7_row 5 = .ok (.invokevirtual 86, 3) := by decide +kernel
theorem dX7_row_8 : decode cX7_row 8 = .ok (.ifCond .eq 9, 3) := by decide +kernel
theorem dX7_row_11 : decode cX7_row 11 = .ok (.iload_n 2, 1) := by decide +kernel
theorem dX7_row_12 : decode cX7_row 12 = .ok (.bipush 40, 2) := by decide +kernel
theorem dX7_row_14 : decode cX7_row 14 = .ok (.if_icmp .le 5, 3) := by decide +kernel
theorem dX7_row_17 : decode cX7_row 17 = .ok (.iconst (-1), 1) := by decide +kernel
theorem dX7_row_18 : decode cX7_row 18 = .ok (.ireturn, 1) := by decide +kernel
theorem dX7_row_19 : decode cX7_row 19 = .ok (.iload_n 2, 1) := by decide +kernel
theorem dX7_row_20 : decode cX7_row 20 = .ok (.ifCond .ge 9, 3) := by decide +kernel
theorem dX7_row_23 : decode cX7_row 23 = .ok (.aload_n 0, 1) := by decide +kernel
theorem dX7_row_24 : decode cX7_row 24 = .ok (.iconst 5, 1) := by decide +kernel
theorem dX7_row_25 : decode cX7_row 25 = .ok (.invokevirtual 90, 3) := by decide +kernel
theorem dX7_row_28 : decode cX7_row 28 = .ok (.ireturn, 1) := by decide +kernel
theorem dX7_row_29 : decode cX7_row 29 = .ok (.aload_n 0, 1) := by decide +kernel
theorem dX7_row_30 : decode cX7_row 30 = .ok (.getfield 14, 3) := by decide +kernel
theorem dX7_row_33 : decode cX7_row 33 = .ok (.iload_n 1, 1) := by decide +kernel
theorem dX7_row_34 : decode cX7_row 34 = .ok (.iload_n 2, 1) := by decide +kernel
theorem dX7_row_35 : decode cX7_row 35 = .ok (.iconst 0, 1) := by decide +kernel
theorem dX7_row_36 : decode cX7_row 36 = .ok (.invokevirtual 94, 3) := by decide +kernel
theorem dX7_row_39 : decode cX7_row 39 = .ok (.iload_n 2, 1) := by decide +kernel
theorem dX7_row_40 : decode cX7_row 40 = .ok (.ireturn, 1) := by decide +kernel
theorem dX7_lay_0 : decode cX7_lay 0 = .ok (.aload_n 0, 1) := by decide +kernel
theorem dX7_lay_1 : decode cX7_lay 1 = .ok (.getfield 14, 3) := by decide +kernel
theorem dX7_lay_4 : decode cX7_lay 4 = .ok (.iload_n 1, 1) := by decide +kernel
theorem dX7_lay_5 : decode cX7_lay 5 = .ok (.invokevirtual 86, 3) := by decide +kernel
theorem dX7_lay_8 : decode cX7_lay 8 = .ok (.ifCond .ne 5, 3) := by decide +kernel
theorem dX7_lay_11 : decode cX7_lay 11 = .ok (.iconst (-1), 1) := by decide +kernel
theorem dX7_lay_12 : decode cX7_lay 12 = .ok (.ireturn, 1) := by decide +kernel
theorem dX7_lay_13 : decode cX7_lay 13 = .ok (.aload_n 0, 1) := by decide +kernel
theorem dX7_lay_14 : decode cX7_lay 14 = .ok (.getfield 14, 3) := by decide +kernel
theorem dX7_lay_17 : decode cX7_lay 17 = .ok (.iload_n 1, 1) := by decide +kernel
theorem dX7_lay_18 : decode cX7_lay 18 = .ok (.iload_n 2, 1) := by decide +kernel
theorem dX7_lay_19 : decode cX7_lay 19 = .ok (.invokestatic 98, 3) := by decide +kernel
theorem dX7_lay_22 : decode cX7_lay 22 = .ok (.istore 4, 2) := by decide +kernel
theorem dX7_lay_24 : decode cX7_lay 24 = .ok (.iload 4, 2) := by decide +kernel
theorem dX7_lay_26 : decode cX7_lay 26 = .ok (.ifCond .eq 10, 3) := by decide +kernel
theorem dX7_lay_29 : decode cX7_lay 29 = .ok (.aload_n 0, 1) := by decide +kernel
theorem dX7_lay_30 : decode cX7_lay 30 = .ok (.iload 4, 2) := by decide +kernel
theorem dX7_lay_32 : decode cX7_lay 32 = .ok (.invokevirtual 90, 3) := by decide +kernel
theorem dX7_lay_35 : decode cX7_lay 35 = .ok (.ireturn, 1) := by decide +kernel
theorem dX7_lay_36 : decode cX7_lay 36 = .ok (.aload_n 0, 1) := by decide +kernel
theorem dX7_lay_37 : decode cX7_lay 37 = .ok (.aload_n 0, 1) := by decide +kernel
theorem dX7_lay_38 : decode cX7_lay 38 = .ok (.getfield 14, 3) := by decide +kernel
theorem dX7_lay_41 : decode cX7_lay 41 = .ok (.iload_n 1, 1) := by decide +kernel
theorem dX7_lay_42 : decode cX7_lay 42 = .ok (.iload_n 2, 1) := by decide +kernel
theorem dX7_lay_43 : decode cX7_lay 43 = .ok (.invokevirtual 102, 3) := by decide +kernel
theorem dX7_lay_46 : decode cX7_lay 46 = .ok (.putfield 76, 3) := by decide +kernel
theorem dX7_lay_49 : decode cX7_lay 49 = .ok (.aload_n 0, 1) := by decide +kernel
theorem dX7_lay_50 : decode cX7_lay 50 = .ok (.getfield 14, 3) := by decide +kernel
theorem dX7_lay_53 : decode cX7_lay 53 = .ok (.iload_n 1, 1) := by decide +kernel
theorem dX7_lay_54 : decode cX7_lay 54 = .ok (.iload_n 2, 1) := by decide +kernel
theorem dX7_lay_55 : decode cX7_lay 55 = .ok (.iload_n 3, 1) := by decide +kernel
theorem dX7_lay_56 : decode cX7_lay 56 = .ok (.invokevirtual 106, 3) := by decide +kernel
theorem dX7_lay_59 : decode cX7_lay 59 = .ok (.iconst 1, 1) := by decide +kernel
theorem dX7_lay_60 : decode cX7_lay 60 = .ok (.ireturn, 1) := by decide +kernel
theorem dX7_at_0 : decode cX7_at 0 = .ok (.aload_n 0, 1) := by decide +kernel
theorem dX7_at_1 : decode cX7_at 1 = .ok (.getfield 14, 3) := by decide +kernel
theorem dX7_at_4 : decode cX7_at 4 = .ok (.iload_n 1, 1) := by decide +kernel
theorem dX7_at_5 : decode cX7_at 5 = .ok (.invokevirtual 86, 3) := by decide +kernel
theorem dX7_at_8 : decode cX7_at 8 = .ok (.ifCond .ne 5, 3) := by decide +kernel
theorem dX7_at_11 : decode cX7_at 11 = .ok (.iconst (-1), 1) := by decide +kernel
theorem dX7_at_12 : decode cX7_at 12 = .ok (.ireturn, 1) := by decide +kernel
theorem dX7_at_13 : decode cX7_at 13 = .ok (.aload_n 0, 1) := by decide +kernel
theorem dX7_at_14 : decode cX7_at 14 = .ok (.getfield 14, 3) := by decide +kernel
theorem dX7_at_17 : decode cX7_at 17 = .ok (.iload_n 1, 1) := by decide +kernel
theorem dX7_at_18 : decode cX7_at 18 = .ok (.iload_n 2, 1) := by decide +kernel
theorem dX7_at_19 : decode cX7_at 19 = .ok (.invokestatic 98, 3) := by decide +kernel
theorem dX7_at_22 : decode cX7_at 22 = .ok (.istore_n 3, 1) := by decide +kernel
theorem dX7_at_23 : decode cX7_at 23 = .ok (.iload_n 3, 1) := by decide +kernel
theorem dX7_at_24 : decode cX7_at 24 = .ok (.ifCond .eq 9, 3) := by decide +kernel
theorem dX7_at_27 : decode cX7_at 27 = .ok (.aload_n 0, 1) := by decide +kernel
theorem dX7_at_28 : decode cX7_at 28 = .ok (.iload_n 3, 1) := by decide +kernel
theorem dX7_at_29 : decode cX7_at 29 = .ok (.invokevirtual 90, 3) := by decide +kernel
theorem dX7_at_32 : decode cX7_at 32 = .ok (.ireturn, 1) := by decide +kernel
theorem dX7_at_33 : decode cX7_at 33 = .ok (.aload_n 0, 1) := by decide +kernel
theorem dX7_at_34 : decode cX7_at 34 = .ok (.aload_n 0, 1) := by decide +kernel
theorem dX7_at_35 : decode cX7_at 35 = .ok (.getfield 14, 3) := by decide +kernel
theorem dX7_at_38 : decode cX7_at 38 = .ok (.iload_n 1, 1) := by decide +kernel
theorem dX7_at_39 : decode cX7_at 39 = .ok (.iload_n 2, 1) := by decide +kernel
theorem dX7_at_40 : decode cX7_at 40 = .ok (.invokevirtual 102, 3) := by decide +kernel
theorem dX7_at_43 : decode cX7_at 43 = .ok (.putfield 76, 3) := by decide +kernel
theorem dX7_at_46 : decode cX7_at 46 = .ok (.iconst 1, 1) := by decide +kernel
theorem dX7_at_47 : decode cX7_at 47 = .ok (.ireturn, 1) := by decide +kernel
theorem dX7_text_0 : decode cX7_text 0 = .ok (.aload_n 0, 1) := by decide +kernel
theorem dX7_text_1 : decode cX7_text 1 = .ok (.getfield 18, 3) := by decide +kernel
theorem dX7_text_4 : decode cX7_text 4 = .ok (.iload_n 1, 1) := by decide +kernel
theorem dX7_text_5 : decode cX7_text 5 = .ok (.invokevirtual 86, 3) := by decide +kernel
theorem dX7_text_8 : decode cX7_text 8 = .ok (.ifCond .eq 9, 3) := by decide +kernel
theorem dX7_text_11 : decode cX7_text 11 = .ok (.iload_n 2, 1) := by decide +kernel
theorem dX7_text_12 : decode cX7_text 12 = .ok (.bipush 60, 2) := by decide +kernel
theorem dX7_text_14 : decode cX7_text 14 = .ok (.if_icmp .le 5, 3) := by decide +kernel
theorem dX7_text_17 : decode cX7_text 17 = .ok (.iconst (-1), 1) := by decide +kernel
theorem dX7_text_18 : decode cX7_text 18 = .ok (.ireturn, 1) := by decide +kernel
theorem dX7_text_19 : decode cX7_text 19 = .ok (.iload_n 2, 1) := by decide +kernel
theorem dX7_text_20 : decode cX7_text 20 = .ok (.ifCond .ge 9, 3) := by decide +kernel
theorem dX7_text_23 : decode cX7_text 23 = .ok (.aload_n 0, 1) := by decide +kernel
theorem dX7_text_24 : decode cX7_text 24 = .ok (.iconst 5, 1) := by decide +kernel
theorem dX7_text_25 : decode cX7_text 25 = .ok (.invokevirtual 90, 3) := by decide +kernel
theorem dX7_text_28 : decode cX7_text 28 = .ok (.ireturn, 1) := by decide +kernel
theorem dX7_text_29 : decode cX7_text 29 = .ok (.aload_n 0, 1) := by decide +kernel
theorem dX7_text_30 : decode cX7_text 30 = .ok (.getfield 18, 3) := by decide +kernel
theorem dX7_text_33 : decode cX7_text 33 = .ok (.iload_n 1, 1) := by decide +kernel
theorem dX7_text_34 : decode cX7_text 34 = .ok (.iload_n 2, 1) := by decide +kernel
theorem dX7_text_35 : decode cX7_text 35 = .ok (.bipush 32, 2) := by decide +kernel
theorem dX7_text_37 : decode cX7_text 37 = .ok (.invokevirtual 94, 3) := by decide +kernel
theorem dX7_text_40 : decode cX7_text 40 = .ok (.iload_n 2, 1) := by decide +kernel
theorem dX7_text_41 : decode cX7_text 41 = .ok (.ireturn, 1) := by decide +kernel
theorem dX7_put_0 : decode cX7_put 0 = .ok (.aload_n 0, 1) := by decide +kernel
theorem dX7_put_1 : decode cX7_put 1 = .ok (.getfield 18, 3) := by decide +kernel
theorem dX7_put_4 : decode cX7_put 4 = .ok (.iload_n 1, 1) := by decide +kernel
theorem dX7_put_5 : decode cX7_put 5 = .ok (.invokevirtual 86, 3) := by decide +kernel
theorem dX7_put_8 : decode cX7_put 8 = .ok (.ifCond .ne 5, 3) := by decide +kernel
theorem dX7_put_11 : decode cX7_put 11 = .ok (.iconst (-1), 1) := by decide +kernel
theorem dX7_put_12 : decode cX7_put 12 = .ok (.ireturn, 1) := by decide +kernel
theorem dX7_put_13 : decode cX7_put 13 = .ok (.aload_n 0, 1) := by decide +kernel
theorem dX7_put_14 : decode cX7_put 14 = .ok (.getfield 18, 3) := by decide +kernel
theorem dX7_put_17 : decode cX7_put 17 = .ok (.iload_n 1, 1) := by decide +kernel
theorem dX7_put_18 : decode cX7_put 18 = .ok (.iload_n 2, 1) := by decide +kernel
theorem dX7_put_19 : decode cX7_put 19 = .ok (.invokestatic 98, 3) := by decide +kernel
theorem dX7_put_22 : decode cX7_put 22 = .ok (.istore 4, 2) := by decide +kernel
theorem dX7_put_24 : decode cX7_put 24 = .ok (.iload 4, 2) := by decide +kernel
theorem dX7_put_26 : decode cX7_put 26 = .ok (.ifCond .eq 10, 3) := by decide +kernel
theorem dX7_put_29 : decode cX7_put 29 = .ok (.aload_n 0, 1) := by decide +kernel
theorem dX7_put_30 : decode cX7_put 30 = .ok (.iload 4, 2) := by decide +kernel
theorem dX7_put_32 : decode cX7_put 32 = .ok (.invokevirtual 90, 3) := by decide +kernel
theorem dX7_put_35 : decode cX7_put 35 = .ok (.ireturn, 1) := by decide +kernel
theorem dX7_put_36 : decode cX7_put 36 = .ok (.aload_n 0, 1) := by decide +kernel
theorem dX7_put_37 : decode cX7_put 37 = .ok (.getfield 18, 3) := by decide +kernel
theorem dX7_put_40 : decode cX7_put 40 = .ok (.iload_n 1, 1) := by decide +kernel
theorem dX7_put_41 : decode cX7_put 41 = .ok (.iload_n 2, 1) := by decide +kernel
theorem dX7_put_42 : decode cX7_put 42 = .ok (.invokevirtual 102, 3) := by decide +kernel
theorem dX7_put_45 : decode cX7_put 45 = .ok (.istore 5, 2) := by decide +kernel
theorem dX7_put_47 : decode cX7_put 47 = .ok (.aload_n 0, 1) := by decide +kernel
theorem dX7_put_48 : decode cX7_put 48 = .ok (.getfield 18, 3) := by decide +kernel
theorem dX7_put_51 : decode cX7_put 51 = .ok (.iload_n 1, 1) := by decide +kernel
theorem dX7_put_52 : decode cX7_put 52 = .ok (.iload_n 2, 1) := by decide +kernel
theorem dX7_put_53 : decode cX7_put 53 = .ok (.iload_n 3, 1) := by decide +kernel
theorem dX7_put_54 : decode cX7_put 54 = .ok (.i2b, 1) := by decide +kernel
theorem dX7_put_55 : decode cX7_put 55 = .ok (.invokevirtual 106, 3) := by decide +kernel
theorem dX7_put_58 : decode cX7_put 58 = .ok (.iload 5, 2) := by decide +kernel
theorem dX7_put_60 : decode cX7_put 60 = .ok (.sipush 1000, 3) := by decide +kernel
theorem dX7_put_63 : decode cX7_put 63 = .ok (.iadd, 1) := by decide +kernel
theorem dX7_put_64 : decode cX7_put 64 = .ok (.ireturn, 1) := by decide +kernel
theorem dX7_court_0 : decode cX7_court 0 = .ok (.aload_n 0, 1) := by decide +kernel
theorem dX7_court_1 : decode cX7_court 1 = .ok (.getfield 18, 3) := by decide +kernel
theorem dX7_court_4 : decode cX7_court 4 = .ok (.iload_n 1, 1) := by decide +kernel
theorem dX7_court_5 : decode cX7_court 5 = .ok (.invokevirtual 86, 3) := by decide +kernel
theorem dX7_court_8 : decode cX7_court 8 = .ok (.ifCond .ne 5, 3) := by decide +kernel
theorem dX7_court_11 : decode cX7_court 11 = .ok (.iconst (-1), 1) := by decide +kernel
theorem dX7_court_12 : decode cX7_court 12 = .ok (.ireturn, 1) := by decide +kernel
theorem dX7_court_13 : decode cX7_court 13 = .ok (.aload_n 0, 1) := by decide +kernel
theorem dX7_court_14 : decode cX7_court 14 = .ok (.getfield 18, 3) := by decide +kernel
theorem dX7_court_17 : decode cX7_court 17 = .ok (.iload_n 1, 1) := by decide +kernel
theorem dX7_court_18 : decode cX7_court 18 = .ok (.invokevirtual 109, 3) := by decide +kernel
theorem dX7_court_21 : decode cX7_court 21 = .ok (.ifCond .ne 9, 3) := by decide +kernel
theorem dX7_court_24 : decode cX7_court 24 = .ok (.aload_n 0, 1) := by decide +kernel
theorem dX7_court_25 : decode cX7_court 25 = .ok (.iconst 1, 1) := by decide +kernel
theorem dX7_court_26 : decode cX7_court 26 = .ok (.invokevirtual 90, 3) := by decide +kernel
theorem dX7_court_29 : decode cX7_court 29 = .ok (.ireturn, 1) := by decide +kernel
theorem dX7_court_30 : decode cX7_court 30 = .ok (.aload_n 0, 1) := by decide +kernel
theorem dX7_court_31 : decode cX7_court 31 = .ok (.getfield 38, 3) := by decide +kernel
theorem dX7_court_34 : decode cX7_court 34 = .ok (.aload_n 0, 1) := by decide +kernel
theorem dX7_court_35 : decode cX7_court 35 = .ok (.getfield 28, 3) := by decide +kernel
theorem dX7_court_38 : decode cX7_court 38 = .ok (.aload_n 0, 1) := by decide +kernel
theorem dX7_court_39 : decode cX7_court 39 = .ok (.getfield 18, 3) := by decide +kernel
theorem dX7_court_42 : decode cX7_court 42 = .ok (.iload_n 1, 1) := by decide +kernel
theorem dX7_court_43 : decode cX7_court 43 = .ok (.invokevirtual 130, 3) := by decide +kernel
theorem dX7_court_46 : decode cX7_court 46 = .ok (.bipush (-9), 2) := by decide +kernel
theorem dX7_court_48 : decode cX7_court 48 = .ok (.if_icmp .eq 6, 3) := by decide +kernel
theorem dX7_court_51 : decode cX7_court 51 = .ok (.bipush (-4), 2) := by decide +kernel
theorem dX7_court_53 : decode cX7_court 53 = .ok (.ireturn, 1) := by decide +kernel
theorem dX7_court_54 : decode cX7_court 54 = .ok (.aload_n 0, 1) := by decide +kernel
theorem dX7_court_55 : decode cX7_court 55 = .ok (.getfield 24, 3) := by decide +kernel
theorem dX7_court_58 : decode cX7_court 58 = .ok (.aload_n 0, 1) := by decide +kernel
theorem dX7_court_59 : decode cX7_court 59 = .ok (.getfield 28, 3) := by decide +kernel
theorem dX7_court_62 : decode cX7_court 62 = .ok (.invokevirtual 134, 3) := by decide +kernel
theorem dX7_court_65 : decode cX7_court 65 = .ok (.iconst 0, 1) := by decide +kernel
theorem dX7_court_66 : decode cX7_court 66 = .ok (.istore_n 2, 1) := by decide +kernel
theorem dX7_court_67 : decode cX7_court 67 = .ok (.iload_n 2, 1) := by decide +kernel
theorem dX7_court_68 : decode cX7_court 68 = .ok (.iconst 3, 1) := by decide +kernel
theorem dX7_court_69 : decode cX7_court 69 = .ok (.if_icmp .ge 14, 3) := by decide +kernel
theorem dX7_court_72 : decode cX7_court 72 = .ok (.aload_n 0, 1) := by decide +kernel
theorem dX7_court_73 : decode cX7_court 73 = .ok (.iload_n 2, 1) := by decide +kernel
theorem dX7_court_74 : decode cX7_court 74 = .ok (.invokevirtual 138, 3) := by decide +kernel
theorem dX7_court_77 : decode cX7_court 77 = .ok (.iinc 2 1, 3) := by decide +kernel
theorem dX7_court_80 : decode cX7_court 80 = .ok (.goto (-13), 3) := by decide +kernel
theorem dX7_court_83 : decode cX7_court 83 = .ok (.aload_n 0, 1) := by decide +kernel
theorem dX7_court_84 : decode cX7_court 84 = .ok (.getfield 24, 3) := by decide +kernel
theorem dX7_court_87 : decode cX7_court 87 = .ok (.getfield 141, 3) := by decide +kernel
theorem dX7_court_90 : decode cX7_court 90 = .ok (.ireturn, 1) := by decide +kernel
theorem dX7_bear_0 : decode cX7_bear 0 = .ok (.aload_n 0, 1) := by decide +kernel
theorem dX7_bear_1 : decode cX7_bear 1 = .ok (.getfield 24, 3) := by decide +kernel
theorem dX7_bear_4 : decode cX7_bear 4 = .ok (.iload_n 1, 1) := by decide +kernel
theorem dX7_bear_5 : decode cX7_bear 5 = .ok (.invokevirtual 144, 3) := by decide +kernel
theorem dX7_bear_8 : decode cX7_bear 8 = .ok (.ifCond .eq 13, 3) := by decide +kernel
theorem dX7_bear_11 : decode cX7_bear 11 = .ok (.iload_n 2, 1) := by decide +kernel
theorem dX7_bear_12 : decode cX7_bear 12 = .ok (.ifCond .lt 9, 3) := by decide +kernel
theorem dX7_bear_15 : decode cX7_bear 15 = .ok (.iload_n 2, 1) := by decide +kernel
theorem dX7_bear_16 : decode cX7_bear 16 = .ok (.bipush 6, 2) := by decide +kernel
theorem dX7_bear_18 : decode cX7_bear 18 = .ok (.if_icmp .lt 5, 3) := by decide +kernel
theorem dX7_bear_21 : decode cX7_bear 21 = .ok (.iconst (-1), 1) := by decide +kernel
theorem dX7_bear_22 : decode cX7_bear 22 = .ok (.ireturn, 1) := by decide +kernel
theorem dX7_bear_23 : decode cX7_bear 23 = .ok (.aload_n 0, 1) := by decide +kernel
theorem dX7_bear_24 : decode cX7_bear 24 = .ok (.aload_n 0, 1) := by decide +kernel
theorem dX7_bear_25 : decode cX7_bear 25 = .ok (.iload_n 1, 1) := by decide +kernel
theorem dX7_bear_26 : decode cX7_bear 26 = .ok (.iload_n 2, 1) := by decide +kernel
theorem dX7_bear_27 : decode cX7_bear 27 = .ok (.invokevirtual 147, 3) := by decide +kernel
theorem dX7_bear_30 : decode cX7_bear 30 = .ok (.putfield 76, 3) := by decide +kernel
theorem dX7_bear_33 : decode cX7_bear 33 = .ok (.iconst 1, 1) := by decide +kernel
theorem dX7_bear_34 : decode cX7_bear 34 = .ok (.ireturn, 1) := by decide +kernel
theorem dX7_press_0 : decode cX7_press 0 = .ok (.aload_n 0, 1) := by decide +kernel
theorem dX7_press_1 : decode cX7_press 1 = .ok (.iconst 0, 1) := by decide +kernel
theorem dX7_press_2 : decode cX7_press 2 = .ok (.iload_n 1, 1) := by decide +kernel
theorem dX7_press_3 : decode cX7_press 3 = .ok (.invokevirtual 162, 3) := by decide +kernel
theorem dX7_press_6 : decode cX7_press 6 = .ok (.ireturn, 1) := by decide +kernel
theorem dX7_mend_0 : decode cX7_mend 0 = .ok (.aload_n 0, 1) := by decide +kernel
theorem dX7_mend_1 : decode cX7_mend 1 = .ok (.iconst 1, 1) := by decide +kernel
theorem dX7_mend_2 : decode cX7_mend 2 = .ok (.iload_n 1, 1) := by decide +kernel
theorem dX7_mend_3 : decode cX7_mend 3 = .ok (.invokevirtual 162, 3) := by decide +kernel
theorem dX7_mend_6 : decode cX7_mend 6 = .ok (.ireturn, 1) := by decide +kernel
theorem dX7_eye_0 : decode cX7_eye 0 = .ok (.aload_n 0, 1) := by decide +kernel
theorem dX7_eye_1 : decode cX7_eye 1 = .ok (.iconst 2, 1) := by decide +kernel
theorem dX7_eye_2 : decode cX7_eye 2 = .ok (.iload_n 1, 1) := by decide +kernel
theorem dX7_eye_3 : decode cX7_eye 3 = .ok (.invokevirtual 162, 3) := by decide +kernel
theorem dX7_eye_6 : decode cX7_eye 6 = .ok (.ireturn, 1) := by decide +kernel
theorem dX7_turn_0 : decode cX7_turn 0 = .ok (.aload_n 0, 1) := by decide +kernel
theorem dX7_turn_1 : decode cX7_turn 1 = .ok (.iconst 3, 1) := by decide +kernel
theorem dX7_turn_2 : decode cX7_turn 2 = .ok (.iload_n 1, 1) := by decide +kernel
theorem dX7_turn_3 : decode cX7_turn 3 = .ok (.invokevirtual 162, 3) := by decide +kernel
theorem dX7_turn_6 : decode cX7_turn 6 = .ok (.ireturn, 1) := by decide +kernel
theorem dX7_undo_0 : decode cX7_undo 0 = .ok (.iload_n 1, 1) := by decide +kernel
theorem dX7_undo_1 : decode cX7_undo 1 = .ok (.ifCond .lt 14, 3) := by decide +kernel
theorem dX7_undo_4 : decode cX7_undo 4 = .ok (.iload_n 1, 1) := by decide +kernel
theorem dX7_undo_5 : decode cX7_undo 5 = .ok (.aload_n 0, 1) := by decide +kernel
theorem dX7_undo_6 : decode cX7_undo 6 = .ok (.getfield 24, 3) := by decide +kernel
theorem dX7_undo_9 : decode cX7_undo 9 = .ok (.getfield 165, 3) := by decide +kernel
theorem dX7_undo_12 : decode cX7_undo 12 = .ok (.if_icmp .le 5, 3) := by decide +kernel
theorem dX7_undo_15 : decode cX7_undo 15 = .ok (.iconst (-1), 1) := by decide +kernel
theorem dX7_undo_16 : decode cX7_undo 16 = .ok (.ireturn, 1) := by decide +kernel
theorem dX7_undo_17 : decode cX7_undo 17 = .ok (.aload_n 0, 1) := by decide +kernel
theorem dX7_undo_18 : decode cX7_undo 18 = .ok (.getfield 24, 3) := by decide +kernel
theorem dX7_undo_21 : decode cX7_undo 21 = .ok (.getfield 165, 3) := by decide +kernel
theorem dX7_undo_24 : decode cX7_undo 24 = .ok (.iload_n 1, 1) := by decide +kernel
theorem dX7_undo_25 : decode cX7_undo 25 = .ok (.isub, 1) := by decide +kernel
theorem dX7_undo_26 : decode cX7_undo 26 = .ok (.istore_n 2, 1) := by decide +kernel
theorem dX7_undo_27 : decode cX7_undo 27 = .ok (.aload_n 0, 1) := by decide +kernel
theorem dX7_undo_28 : decode cX7_undo 28 = .ok (.getfield 24, 3) := by decide +kernel
theorem dX7_undo_31 : decode cX7_undo 31 = .ok (.iload_n 1, 1) := by decide +kernel
theorem dX7_undo_32 : decode cX7_undo 32 = .ok (.invokevirtual 168, 3) := by decide +kernel
theorem dX7_undo_35 : decode cX7_undo 35 = .ok (.iload_n 2, 1) := by decide +kernel
theorem dX7_undo_36 : decode cX7_undo 36 = .ok (.ireturn, 1) := by decide +kernel
theorem dX7_keep_0 : decode cX7_keep 0 = .ok (.iload_n 1, 1) := by decide +kernel
theorem dX7_keep_1 : decode cX7_keep 1 = .ok (.ifCond .lt 12, 3) := by decide +kernel
theorem dX7_keep_4 : decode cX7_keep 4 = .ok (.iload_n 1, 1) := by decide +kernel
theorem dX7_keep_5 : decode cX7_keep 5 = .ok (.aload_n 0, 1) := by decide +kernel
theorem dX7_keep_6 : decode cX7_keep 6 = .ok (.getfield 31, 3) := by decide +kernel
theorem dX7_keep_9 : decode cX7_keep 9 = .ok (.arraylength, 1) := by decide +kernel
theorem dX7_keep_10 : decode cX7_keep 10 = .ok (.if_icmp .lt 5, 3) := by decide +kernel
theorem dX7_keep_13 : decode cX7_keep 13 = .ok (.iconst (-1), 1) := by decide +kernel
theorem dX7_keep_14 : decode cX7_keep 14 = .ok (.ireturn, 1) := by decide +kernel
theorem dX7_keep_15 : decode cX7_keep 15 = .ok (.aload_n 0, 1) := by decide +kernel
theorem dX7_keep_16 : decode cX7_keep 16 = .ok (.getfield 24, 3) := by decide +kernel
theorem dX7_keep_19 : decode cX7_keep 19 = .ok (.getfield 141, 3) := by decide +kernel
theorem dX7_keep_22 : decode cX7_keep 22 = .ok (.ifCond .ne 6, 3) := by decide +kernel
theorem dX7_keep_25 : decode cX7_keep 25 = .ok (.bipush (-4), 2) := by decide +kernel
theorem dX7_keep_27 : decode cX7_keep 27 = .ok (.ireturn, 1) := by decide +kernel
theorem dX7_keep_28 : decode cX7_keep 28 = .ok (.aload_n 0, 1) := by decide +kernel
theorem dX7_keep_29 : decode cX7_keep 29 = .ok (.getfield 31, 3) := by decide +kernel
theorem dX7_keep_32 : decode cX7_keep 32 = .ok (.iload_n 1, 1) := by decide +kernel
theorem dX7_keep_33 : decode cX7_keep 33 = .ok (.aaload, 1) := by decide +kernel
theorem dX7_keep_34 : decode cX7_keep 34 = .ok (.astore_n 2, 1) := by decide +kernel
theorem dX7_keep_35 : decode cX7_keep 35 = .ok (.aload_n 2, 1) := by decide +kernel
theorem dX7_keep_36 : decode cX7_keep 36 = .ok (.ifnonnull 18, 3) := by decide +kernel
theorem dX7_keep_39 : decode cX7_keep 39 = .ok (.new 21, 3) := by decide +kernel
theorem dX7_keep_42 : decode cX7_keep 42 = .ok (.dup, 1) := by decide +kernel
theorem dX7_keep_43 : decode cX7_keep 43 = .ok (.invokespecial 23, 3) := by decide +kernel
theorem dX7_keep_46 : decode cX7_keep 46 = .ok (.astore_n 2, 1) := by decide +kernel
theorem dX7_keep_47 : decode cX7_keep 47 = .ok (.aload_n 0, 1) := by decide +kernel
theorem dX7_keep_48 : decode cX7_keep 48 = .ok (.getfield 31, 3) := by decide +kernel
theorem dX7_keep_51 : decode cX7_keep 51 = .ok (.iload_n 1, 1) := by decide +kernel
theorem dX7_keep_52 : decode cX7_keep 52 = .ok (.aload_n 2, 1) := by decide +kernel
theorem dX7_keep_53 : decode cX7_keep 53 = .ok (.aastore, 1) := by decide +kernel
theorem dX7_keep_54 : decode cX7_keep 54 = .ok (.aload_n 2, 1) := by decide +kernel
theorem dX7_keep_55 : decode cX7_keep 55 = .ok (.aload_n 0, 1) := by decide +kernel
theorem dX7_keep_56 : decode cX7_keep 56 = .ok (.getfield 24, 3) := by decide +kernel
theorem dX7_keep_59 : decode cX7_keep 59 = .ok (.invokevirtual 134, 3) := by decide +kernel
theorem dX7_keep_62 : decode cX7_keep 62 = .ok (.aload_n 0, 1) := by decide +kernel
theorem dX7_keep_63 : decode cX7_keep 63 = .ok (.getfield 24, 3) := by decide +kernel
theorem dX7_keep_66 : decode cX7_keep 66 = .ok (.getfield 165, 3) := by decide +kernel
theorem dX7_keep_69 : decode cX7_keep 69 = .ok (.ireturn, 1) := by decide +kernel
theorem dX7_on_0 : decode cX7_on 0 = .ok (.iload_n 1, 1) := by decide +kernel
theorem dX7_on_1 : decode cX7_on 1 = .ok (.ifCond .lt 8, 3) := by decide +kernel
theorem dX7_on_4 : decode cX7_on 4 = .ok (.iload_n 1, 1) := by decide +kernel
theorem dX7_on_5 : decode cX7_on 5 = .ok (.iconst 3, 1) := by decide +kernel
theorem dX7_on_6 : decode cX7_on 6 = .ok (.if_icmp .lt 5, 3) := by decide +kernel
theorem dX7_on_9 : decode cX7_on 9 = .ok (.iconst (-1), 1) := by decide +kernel
theorem dX7_on_10 : decode cX7_on 10 = .ok (.ireturn, 1) := by decide +kernel
theorem dX7_on_11 : decode cX7_on 11 = .ok (.aload_n 0, 1) := by decide +kernel
theorem dX7_on_12 : decode cX7_on 12 = .ok (.iload_n 1, 1) := by decide +kernel
theorem dX7_on_13 : decode cX7_on 13 = .ok (.invokevirtual 171, 3) := by decide +kernel
theorem dX7_on_16 : decode cX7_on 16 = .ok (.astore_n 2, 1) := by decide +kernel
theorem dX7_on_17 : decode cX7_on 17 = .ok (.aload_n 2, 1) := by decide +kernel
theorem dX7_on_18 : decode cX7_on 18 = .ok (.ifnonnull 9, 3) := by decide +kernel
theorem dX7_on_21 : decode cX7_on 21 = .ok (.aload_n 0, 1) := by decide +kernel
theorem dX7_on_22 : decode cX7_on 22 = .ok (.iconst 1, 1) := by decide +kernel
theorem dX7_on_23 : decode cX7_on 23 = .ok (.invokevirtual 90, 3) := by decide +kernel
theorem dX7_on_26 : decode cX7_on 26 = .ok (.ireturn, 1) := by decide +kernel
theorem dX7_on_27 : decode cX7_on 27 = .ok (.aload_n 0, 1) := by decide +kernel
theorem dX7_on_28 : decode cX7_on 28 = .ok (.getfield 24, 3) := by decide +kernel
theorem dX7_on_31 : decode cX7_on 31 = .ok (.aload_n 2, 1) := by decide +kernel
theorem dX7_on_32 : decode cX7_on 32 = .ok (.invokevirtual 134, 3) := by decide +kernel
theorem dX7_on_35 : decode cX7_on 35 = .ok (.aload_n 0, 1) := by decide +kernel
theorem dX7_on_36 : decode cX7_on 36 = .ok (.getfield 24, 3) := by decide +kernel
theorem dX7_on_39 : decode cX7_on 39 = .ok (.getfield 165, 3) := by decide +kernel
theorem dX7_on_42 : decode cX7_on 42 = .ok (.ireturn, 1) := by decide +kernel
theorem dX7_tells_0 : decode cX7_tells 0 = .ok (.aload_n 0, 1) := by decide +kernel
theorem dX7_tells_1 : decode cX7_tells 1 = .ok (.getfield 24, 3) := by decide +kernel
theorem dX7_tells_4 : decode cX7_tells 4 = .ok (.iload_n 1, 1) := by decide +kernel
theorem dX7_tells_5 : decode cX7_tells 5 = .ok (.invokevirtual 144, 3) := by decide +kernel
theorem dX7_tells_8 : decode cX7_tells 8 = .ok (.ifCond .eq 10, 3) := by decide +kernel
theorem dX7_tells_11 : decode cX7_tells 11 = .ok (.iload_n 2, 1) := by decide +kernel
theorem dX7_tells_12 : decode cX7_tells 12 = .ok (.invokestatic 175, 3) := by decide +kernel
theorem dX7_tells_15 : decode cX7_tells 15 = .ok (.ifCond .ne 5, 3) := by decide +kernel
theorem dX7_tells_18 : decode cX7_tells 18 = .ok (.iconst (-1), 1) := by decide +kernel
theorem dX7_tells_19 : decode cX7_tells 19 = .ok (.ireturn, 1) := by decide +kernel
theorem dX7_tells_20 : decode cX7_tells 20 = .ok (.aload_n 0, 1) := by decide +kernel
theorem dX7_tells_21 : decode cX7_tells 21 = .ok (.getfield 24, 3) := by decide +kernel
theorem dX7_tells_24 : decode cX7_tells 24 = .ok (.iload_n 1, 1) := by decide +kernel
theorem dX7_tells_25 : decode cX7_tells 25 = .ok (.iload_n 2, 1) := by decide +kernel
theorem dX7_tells_26 : decode cX7_tells 26 = .ok (.invokevirtual 178, 3) := by decide +kernel
theorem dX7_tells_29 : decode cX7_tells 29 = .ok (.ireturn, 1) := by decide +kernel
theorem dX7_shown_0 : decode cX7_shown 0 = .ok (.aload_n 0, 1) := by decide +kernel
theorem dX7_shown_1 : decode cX7_shown 1 = .ok (.getfield 24, 3) := by decide +kernel
theorem dX7_shown_4 : decode cX7_shown 4 = .ok (.iload_n 1, 1) := by decide +kernel
theorem dX7_shown_5 : decode cX7_shown 5 = .ok (.invokevirtual 181, 3) := by decide +kernel
theorem dX7_shown_8 : decode cX7_shown 8 = .ok (.ifCond .ne 5, 3) := by decide +kernel
theorem dX7_shown_11 : decode cX7_shown 11 = .ok (.iconst (-1), 1) := by decide +kernel
theorem dX7_shown_12 : decode cX7_shown 12 = .ok (.ireturn, 1) := by decide +kernel
theorem dX7_shown_13 : decode cX7_shown 13 = .ok (.aload_n 0, 1) := by decide +kernel
theorem dX7_shown_14 : decode cX7_shown 14 = .ok (.getfield 24, 3) := by decide +kernel
theorem dX7_shown_17 : decode cX7_shown 17 = .ok (.getfield 141, 3) := by decide +kernel
theorem dX7_shown_20 : decode cX7_shown 20 = .ok (.ifCond .ne 6, 3) := by decide +kernel
theorem dX7_shown_23 : decode cX7_shown 23 = .ok (.bipush (-4), 2) := by decide +kernel
theorem dX7_shown_25 : decode cX7_shown 25 = .ok (.ireturn, 1) := by decide +kernel
theorem dX7_shown_26 : decode cX7_shown 26 = .ok (.aload_n 0, 1) := by decide +kernel
theorem dX7_shown_27 : decode cX7_shown 27 = .ok (.getfield 52, 3) := by decide +kernel
theorem dX7_shown_30 : decode cX7_shown 30 = .ok (.aload_n 0, 1) := by decide +kernel
theorem dX7_shown_31 : decode cX7_shown 31 = .ok (.getfield 24, 3) := by decide +kernel
theorem dX7_shown_34 : decode cX7_shown 34 = .ok (.invokevirtual 184, 3) := by decide +kernel
theorem dX7_shown_37 : decode cX7_shown 37 = .ok (.aload_n 0, 1) := by decide +kernel
theorem dX7_shown_38 : decode cX7_shown 38 = .ok (.aload_n 0, 1) := by decide +kernel
theorem dX7_shown_39 : decode cX7_shown 39 = .ok (.getfield 52, 3) := by decide +kernel
theorem dX7_shown_42 : decode cX7_shown 42 = .ok (.iload_n 1, 1) := by decide +kernel
theorem dX7_shown_43 : decode cX7_shown 43 = .ok (.invokevirtual 187, 3) := by decide +kernel
theorem dX7_shown_46 : decode cX7_shown 46 = .ok (.putfield 76, 3) := by decide +kernel
theorem dX7_shown_49 : decode cX7_shown 49 = .ok (.aload_n 0, 1) := by decide +kernel
theorem dX7_shown_50 : decode cX7_shown 50 = .ok (.getfield 52, 3) := by decide +kernel
theorem dX7_shown_53 : decode cX7_shown 53 = .ok (.iload_n 1, 1) := by decide +kernel
theorem dX7_shown_54 : decode cX7_shown 54 = .ok (.invokevirtual 190, 3) := by decide +kernel
theorem dX7_shown_57 : decode cX7_shown 57 = .ok (.ireturn, 1) := by decide +kernel
theorem dX7_call_0 : decode cX7_call 0 = .ok (.iload_n 1, 1) := by decide +kernel
theorem dX7_call_1 : decode cX7_call 1 = .ok (.invokestatic 175, 3) := by decide +kernel
theorem dX7_call_4 : decode cX7_call 4 = .ok (.ifCond .ne 5, 3) := by decide +kernel
theorem dX7_call_7 : decode cX7_call 7 = .ok (.iconst (-1), 1) := by decide +kernel
theorem dX7_call_8 : decode cX7_call 8 = .ok (.ireturn, 1) := by decide +kernel
theorem dX7_call_9 : decode cX7_call 9 = .ok (.aload_n 0, 1) := by decide +kernel
theorem dX7_call_10 : decode cX7_call 10 = .ok (.getfield 24, 3) := by decide +kernel
theorem dX7_call_13 : decode cX7_call 13 = .ok (.getfield 141, 3) := by decide +kernel
theorem dX7_call_16 : decode cX7_call 16 = .ok (.ifCond .ne 6, 3) := by decide +kernel
theorem dX7_call_19 : decode cX7_call 19 = .ok (.bipush (-4), 2) := by decide +kernel
theorem dX7_call_21 : decode cX7_call 21 = .ok (.ireturn, 1) := by decide +kernel
theorem dX7_call_22 : decode cX7_call 22 = .ok (.aload_n 0, 1) := by decide +kernel
theorem dX7_call_23 : decode cX7_call 23 = .ok (.getfield 52, 3) := by decide +kernel
theorem dX7_call_26 : decode cX7_call 26 = .ok (.aload_n 0, 1) := by decide +kernel
theorem dX7_call_27 : decode cX7_call 27 = .ok (.getfield 24, 3) := by decide +kernel
theorem dX7_call_30 : decode cX7_call 30 = .ok (.invokevirtual 184, 3) := by decide +kernel
theorem dX7_call_33 : decode cX7_call 33 = .ok (.iconst 0, 1) := by decide +kernel
theorem dX7_call_34 : decode cX7_call 34 = .ok (.istore_n 2, 1) := by decide +kernel
theorem dX7_call_35 : decode cX7_call 35 = .ok (.sipush 1000, 3) := by decide +kernel
theorem dX7_call_38 : decode cX7_call 38 = .ok (.istore_n 3, 1) := by decide +kernel
theorem dX7_call_39 : decode cX7_call 39 = .ok (.iconst 1, 1) := by decide +kernel
theorem dX7_call_40 : decode cX7_call 40 = .ok (.istore 4, 2) := by decide +kernel
theorem dX7_call_42 : decode cX7_call 42 = .ok (.iload 4, 2) := by decide +kernel
theorem dX7_call_44 : decode cX7_call 44 = .ok (.aload_n 0, 1) := by decide +kernel
theorem dX7_call_45 : decode cX7_call 45 = .ok (.getfield 24, 3) := by decide +kernel
theorem dX7_call_48 : decode cX7_call 48 = .ok (.invokevirtual 193, 3) := by decide +kernel
theorem dX7_call_51 : decode cX7_call 51 = .ok (.if_icmp .gt 57, 3) := by decide +kernel
theorem dX7_call_54 : decode cX7_call 54 = .ok (.aload_n 0, 1) := by decide +kernel
theorem dX7_call_55 : decode cX7_call 55 = .ok (.getfield 52, 3) := by decide +kernel
theorem dX7_call_58 : decode cX7_call 58 = .ok (.iload 4, 2) := by decide +kernel
theorem dX7_call_60 : decode cX7_call 60 = .ok (.invokevirtual 190, 3) := by decide +kernel
theorem dX7_call_63 : decode cX7_call 63 = .ok (.istore 5, 2) := by decide +kernel
theorem dX7_call_65 : decode cX7_call 65 = .ok (.bipush 8, 2) := by decide +kernel
theorem dX7_call_67 : decode cX7_call 67 = .ok (.iload 4, 2) := by decide +kernel
theorem dX7_call_69 : decode cX7_call 69 = .ok (.invokestatic 197, 3) := by decide +kernel
theorem dX7_call_72 : decode cX7_call 72 = .ok (.imul, 1) := by decide +kernel
theorem dX7_call_73 : decode cX7_call 73 = .ok (.iload 5, 2) := by decide +kernel
theorem dX7_call_75 : decode cX7_call 75 = .ok (.invokestatic 197, 3) := by decide +kernel
theorem dX7_call_78 : decode cX7_call 78 = .ok (.iadd, 1) := by decide +kernel
theorem dX7_call_79 : decode cX7_call 79 = .ok (.istore 6, 2) := by decide +kernel
theorem dX7_call_81 : decode cX7_call 81 = .ok (.iload 5, 2) := by decide +kernel
theorem dX7_call_83 : decode cX7_call 83 = .ok (.iload_n 1, 1) := by decide +kernel
theorem dX7_call_84 : decode cX7_call 84 = .ok (.invokestatic 202, 3) := by decide +kernel
theorem dX7_call_87 : decode cX7_call 87 = .ok (.ifCond .eq 15, 3) := by decide +kernel
theorem dX7_call_90 : decode cX7_call 90 = .ok (.iload 6, 2) := by decide +kernel
theorem dX7_call_92 : decode cX7_call 92 = .ok (.iload_n 3, 1) := by decide +kernel
theorem dX7_call_93 : decode cX7_call 93 = .ok (.if_icmp .ge 9, 3) := by decide +kernel
theorem dX7_call_96 : decode cX7_call 96 = .ok (.iload 4, 2) := by decide +kernel
theorem dX7_call_98 : decode cX7_call 98 = .ok (.istore_n 2, 1) := by decide +kernel
theorem dX7_call_99 : decode cX7_call 99 = .ok (.iload 6, 2) := by decide +kernel
theorem dX7_call_101 : decode cX7_call 101 = .ok (.istore_n 3, 1) := by decide +kernel
theorem dX7_call_102 : decode cX7_call 102 = .ok (.iinc 4 1, 3) := by decide +kernel
theorem dX7_call_105 : decode cX7_call 105 = .ok (.goto (-63), 3) := by decide +kernel
theorem dX7_call_108 : decode cX7_call 108 = .ok (.iload_n 2, 1) := by decide +kernel
theorem dX7_call_109 : decode cX7_call 109 = .ok (.ifCond .ne 6, 3) := by decide +kernel
theorem dX7_call_112 : decode cX7_call 112 = .ok (.bipush (-9), 2) := by decide +kernel
theorem dX7_call_114 : decode cX7_call 114 = .ok (.ireturn, 1) := by decide +kernel
theorem dX7_call_115 : decode cX7_call 115 = .ok (.aload_n 0, 1) := by decide +kernel
theorem dX7_call_116 : decode cX7_call 116 = .ok (.iload_n 2, 1) := by decide +kernel
theorem dX7_call_117 : decode cX7_call 117 = .ok (.putfield 76, 3) := by decide +kernel
theorem dX7_call_120 : decode cX7_call 120 = .ok (.iload_n 2, 1) := by decide +kernel
theorem dX7_call_121 : decode cX7_call 121 = .ok (.invokestatic 197, 3) := by decide +kernel
theorem dX7_call_124 : decode cX7_call 124 = .ok (.ireturn, 1) := by decide +kernel
theorem dX7_shake_0 : decode cX7_shake 0 = .ok (.iload_n 1, 1) := by decide +kernel
theorem dX7_shake_1 : decode cX7_shake 1 = .ok (.invokestatic 175, 3) := by decide +kernel
theorem dX7_shake_4 : decode cX7_shake 4 = .ok (.ifCond .eq 25, 3) := by decide +kernel
theorem dX7_shake_7 : decode cX7_shake 7 = .ok (.aload_n 0, 1) := by decide +kernel
theorem dX7_shake_8 : decode cX7_shake 8 = .ok (.getfield 24, 3) := by decide +kernel
theorem dX7_shake_11 : decode cX7_shake 11 = .ok (.iload_n 2, 1) := by decide +kernel
theorem dX7_shake_12 : decode cX7_shake 12 = .ok (.invokevirtual 181, 3) := by decide +kernel
theorem dX7_shake_15 : decode cX7_shake 15 = .ok (.ifCond .eq 14, 3) := by decide +kernel
theorem dX7_shake_18 : decode cX7_shake 18 = .ok (.aload_n 0, 1) := by decide +kernel
theorem dX7_shake_19 : decode cX7_shake 19 = .ok (.getfield 14, 3) := by decide +kernel
theorem dX7_shake_22 : decode cX7_shake 22 = .ok (.iload_n 3, 1) := by decide +kernel
theorem dX7_shake_23 : decode cX7_shake 23 = .ok (.invokevirtual 86, 3) := by decide +kernel
theorem dX7_shake_26 : decode cX7_shake 26 = .ok (.ifCond .ne 5, 3) := by decide +kernel
theorem dX7_shake_29 : decode cX7_shake 29 = .ok (.iconst (-1), 1) := by decide +kernel
theorem dX7_shake_30 : decode cX7_shake 30 = .ok (.ireturn, 1) := by decide +kernel
theorem dX7_shake_31 : decode cX7_shake 31 = .ok (.aload_n 0, 1) := by decide +kernel
theorem dX7_shake_32 : decode cX7_shake 32 = .ok (.getfield 24, 3) := by decide +kernel
theorem dX7_shake_35 : decode cX7_shake 35 = .ok (.getfield 141, 3) := by decide +kernel
theorem dX7_shake_38 : decode cX7_shake 38 = .ok (.ifCond .ne 6, 3) := by decide +kernel
theorem dX7_shake_41 : decode cX7_shake 41 = .ok (.bipush (-4), 2) := by decide +kernel
theorem dX7_shake_43 : decode cX7_shake 43 = .ok (.ireturn, 1) := by decide +kernel
theorem dX7_shake_44 : decode cX7_shake 44 = .ok (.aload_n 0, 1) := by decide +kernel
theorem dX7_shake_45 : decode cX7_shake 45 = .ok (.getfield 59, 3) := by decide +kernel
theorem dX7_shake_48 : decode cX7_shake 48 = .ok (.aload_n 0, 1) := by decide +kernel
theorem dX7_shake_49 : decode cX7_shake 49 = .ok (.getfield 24, 3) := by decide +kernel
theorem dX7_shake_52 : decode cX7_shake 52 = .ok (.iload_n 1, 1) := by decide +kernel
theorem dX7_shake_53 : decode cX7_shake 53 = .ok (.iload_n 2, 1) := by decide +kernel
theorem dX7_shake_54 : decode cX7_shake 54 = .ok (.invokevirtual 205, 3) := by decide +kernel
theorem dX7_shake_57 : decode cX7_shake 57 = .ok (.aload_n 0, 1) := by decide +kernel
theorem dX7_shake_58 : decode cX7_shake 58 = .ok (.getfield 59, 3) := by decide +kernel
theorem dX7_shake_61 : decode cX7_shake 61 = .ok (.invokevirtual 209, 3) := by decide +kernel
theorem dX7_shake_64 : decode cX7_shake 64 = .ok (.istore 4, 2) := by decide +kernel
theorem dX7_shake_66 : decode cX7_shake 66 = .ok (.iload 4, 2) := by decide +kernel
theorem dX7_shake_68 : decode cX7_shake 68 = .ok (.bipush (-9), 2) := by decide +kernel
theorem dX7_shake_70 : decode cX7_shake 70 = .ok (.if_icmp .ne 6, 3) := by decide +kernel
theorem dX7_shake_73 : decode cX7_shake 73 = .ok (.bipush (-9), 2) := by decide +kernel
theorem dX7_shake_75 : decode cX7_shake 75 = .ok (.ireturn, 1) := by decide +kernel
theorem dX7_shake_76 : decode cX7_shake 76 = .ok (.aload_n 0, 1) := by decide +kernel
theorem dX7_shake_77 : decode cX7_shake 77 = .ok (.getfield 14, 3) := by decide +kernel
theorem dX7_shake_80 : decode cX7_shake 80 = .ok (.iload_n 3, 1) := by decide +kernel
theorem dX7_shake_81 : decode cX7_shake 81 = .ok (.iload 4, 2) := by decide +kernel
theorem dX7_shake_83 : decode cX7_shake 83 = .ok (.iconst 0, 1) := by decide +kernel
theorem dX7_shake_84 : decode cX7_shake 84 = .ok (.invokevirtual 94, 3) := by decide +kernel
theorem dX7_shake_87 : decode cX7_shake 87 = .ok (.iconst 0, 1) := by decide +kernel
theorem dX7_shake_88 : decode cX7_shake 88 = .ok (.istore 5, 2) := by decide +kernel
theorem dX7_shake_90 : decode cX7_shake 90 = .ok (.iload 5, 2) := by decide +kernel
theorem dX7_shake_92 : decode cX7_shake 92 = .ok (.iload 4, 2) := by decide +kernel
theorem dX7_shake_94 : decode cX7_shake 94 = .ok (.if_icmp .ge 31, 3) := by decide +kernel
theorem dX7_shake_97 : decode cX7_shake 97 = .ok (.aload_n 0, 1) := by decide +kernel
theorem dX7_shake_98 : decode cX7_shake 98 = .ok (.getfield 14, 3) := by decide +kernel
theorem dX7_shake_101 : decode cX7_shake 101 = .ok (.iload_n 3, 1) := by decide +kernel
theorem dX7_shake_102 : decode cX7_shake 102 = .ok (.iload 5, 2) := by decide +kernel
theorem dX7_shake_104 : decode cX7_shake 104 = .ok (.aload_n 0, 1) := by decide +kernel
theorem dX7_shake_105 : decode cX7_shake 105 = .ok (.getfield 59, 3) := by decide +kernel
theorem dX7_shake_108 : decode cX7_shake 108 = .ok (.getfield 212, 3) := by decide +kernel
theorem dX7_shake_111 : decode cX7_shake 111 = .ok (.iload 5, 2) := by decide +kernel
theorem dX7_shake_113 : decode cX7_shake 113 = .ok (.invokevirtual 153, 3) := by decide +kernel
theorem dX7_shake_116 : decode cX7_shake 116 = .ok (.invokevirtual 106, 3) := by decide +kernel
theorem dX7_shake_119 : decode cX7_shake 119 = .ok (.iinc 5 1, 3) := by decide +kernel
theorem dX7_shake_122 : decode cX7_shake 122 = .ok (.goto (-32), 3) := by decide +kernel
theorem dX7_shake_125 : decode cX7_shake 125 = .ok (.iload 4, 2) := by decide +kernel
theorem dX7_shake_127 : decode cX7_shake 127 = .ok (.ireturn, 1) := by decide +kernel
theorem dX7_cover_0 : decode cX7_cover 0 = .ok (.iload_n 1, 1) := by decide +kernel
theorem dX7_cover_1 : decode cX7_cover 1 = .ok (.ifCond .lt 9, 3) := by decide +kernel
theorem dX7_cover_4 : decode cX7_cover 4 = .ok (.iload_n 1, 1) := by decide +kernel
theorem dX7_cover_5 : decode cX7_cover 5 = .ok (.bipush 63, 2) := by decide +kernel
theorem dX7_cover_7 : decode cX7_cover 7 = .ok (.if_icmp .le 5, 3) := by decide +kernel
theorem dX7_cover_10 : decode cX7_cover 10 = .ok (.iconst (-1), 1) := by decide +kernel
theorem dX7_cover_11 : decode cX7_cover 11 = .ok (.ireturn, 1) := by decide +kernel
theorem dX7_cover_12 : decode cX7_cover 12 = .ok (.aload_n 0, 1) := by decide +kernel
theorem dX7_cover_13 : decode cX7_cover 13 = .ok (.getfield 24, 3) := by decide +kernel
theorem dX7_cover_16 : decode cX7_cover 16 = .ok (.getfield 141, 3) := by decide +kernel
theorem dX7_cover_19 : decode cX7_cover 19 = .ok (.ifCond .ne 6, 3) := by decide +kernel
theorem dX7_cover_22 : decode cX7_cover 22 = .ok (.bipush (-4), 2) := by decide +kernel
theorem dX7_cover_24 : decode cX7_cover 24 = .ok (.ireturn, 1) := by decide +kernel
theorem dX7_cover_25 : decode cX7_cover 25 = .ok (.aload_n 0, 1) := by decide +kernel
theorem dX7_cover_26 : decode cX7_cover 26 = .ok (.getfield 52, 3) := by decide +kernel
theorem dX7_cover_29 : decode cX7_cover 29 = .ok (.aload_n 0, 1) := by decide +kernel
theorem dX7_cover_30 : decode cX7_cover 30 = .ok (.getfield 24, 3) := by decide +kernel
theorem dX7_cover_33 : decode cX7_cover 33 = .ok (.invokevirtual 184, 3) := by decide +kernel
theorem dX7_cover_36 : decode cX7_cover 36 = .ok (.bipush (-9), 2) := by decide +kernel
theorem dX7_cover_38 : decode cX7_cover 38 = .ok (.istore_n 2, 1) := by decide +kernel
theorem dX7_cover_39 : decode cX7_cover 39 = .ok (.iconst 0, 1) := by decide +kernel
theorem dX7_cover_40 : decode cX7_cover 40 = .ok (.istore_n 3, 1) := by decide +kernel
theorem dX7_cover_41 : decode cX7_cover 41 = .ok (.iload_n 3, 1) := by decide +kernel
theorem dX7_cover_42 : decode cX7_cover 42 = .ok (.aload_n 0, 1) := by decide +kernel
theorem dX7_cover_43 : decode cX7_cover 43 = .ok (.getfield 24, 3) := by decide +kernel
theorem dX7_cover_46 : decode cX7_cover 46 = .ok (.invokevirtual 193, 3) := by decide +kernel
theorem dX7_cover_49 : decode cX7_cover 49 = .ok (.if_icmp .gt 45, 3) := by decide +kernel
theorem dX7_cover_52 : decode cX7_cover 52 = .ok (.aload_n 0, 1) := by decide +kernel
theorem dX7_cover_53 : decode cX7_cover 53 = .ok (.getfield 52, 3) := by decide +kernel
theorem dX7_cover_56 : decode cX7_cover 56 = .ok (.iload_n 3, 1) := by decide +kernel
theorem dX7_cover_57 : decode cX7_cover 57 = .ok (.invokevirtual 215, 3) := by decide +kernel
theorem dX7_cover_60 : decode cX7_cover 60 = .ok (.iload_n 1, 1) := by decide +kernel
theorem dX7_cover_61 : decode cX7_cover 61 = .ok (.iand, 1) := by decide +kernel
theorem dX7_cover_62 : decode cX7_cover 62 = .ok (.iload_n 1, 1) := by decide +kernel
theorem dX7_cover_63 : decode cX7_cover 63 = .ok (.if_icmp .ne 7, 3) := by decide +kernel
theorem dX7_cover_66 : decode cX7_cover 66 = .ok (.iconst 1, 1) := by decide +kernel
theorem dX7_cover_67 : decode cX7_cover 67 = .ok (.goto 4, 3) := by decide +kernel
theorem dX7_cover_70 : decode cX7_cover 70 = .ok (.iconst 0, 1) := by decide +kernel
theorem dX7_cover_71 : decode cX7_cover 71 = .ok (.istore 4, 2) := by decide +kernel
theorem dX7_cover_73 : decode cX7_cover 73 = .ok (.iload 4, 2) := by decide +kernel
theorem dX7_cover_75 : decode cX7_cover 75 = .ok (.ifCond .eq 13, 3) := by decide +kernel
theorem dX7_cover_78 : decode cX7_cover 78 = .ok (.iload_n 3, 1) := by decide +kernel
theorem dX7_cover_79 : decode cX7_cover 79 = .ok (.iload_n 2, 1) := by decide +kernel
theorem dX7_cover_80 : decode cX7_cover 80 = .ok (.invokestatic 218, 3) := by decide +kernel
theorem dX7_cover_83 : decode cX7_cover 83 = .ok (.ifCond .eq 5, 3) := by decide +kernel
theorem dX7_cover_86 : decode cX7_cover 86 = .ok (.iload_n 3, 1) := by decide +kernel
theorem dX7_cover_87 : decode cX7_cover 87 = .ok (.istore_n 2, 1) := by decide +kernel
theorem dX7_cover_88 : decode cX7_cover 88 = .ok (.iinc 3 1, 3) := by decide +kernel
theorem dX7_cover_91 : decode cX7_cover 91 = .ok (.goto (-50), 3) := by decide +kernel
theorem dX7_cover_94 : decode cX7_cover 94 = .ok (.iload_n 2, 1) := by decide +kernel
theorem dX7_cover_95 : decode cX7_cover 95 = .ok (.bipush (-9), 2) := by decide +kernel
theorem dX7_cover_97 : decode cX7_cover 97 = .ok (.if_icmp .ne 6, 3) := by decide +kernel
theorem dX7_cover_100 : decode cX7_cover 100 = .ok (.bipush (-9), 2) := by decide +kernel
theorem dX7_cover_102 : decode cX7_cover 102 = .ok (.ireturn, 1) := by decide +kernel
theorem dX7_cover_103 : decode cX7_cover 103 = .ok (.aload_n 0, 1) := by decide +kernel
theorem dX7_cover_104 : decode cX7_cover 104 = .ok (.iload_n 2, 1) := by decide +kernel
theorem dX7_cover_105 : decode cX7_cover 105 = .ok (.putfield 76, 3) := by decide +kernel
theorem dX7_cover_108 : decode cX7_cover 108 = .ok (.iload_n 2, 1) := by decide +kernel
theorem dX7_cover_109 : decode cX7_cover 109 = .ok (.invokestatic 197, 3) := by decide +kernel
theorem dX7_cover_112 : decode cX7_cover 112 = .ok (.ireturn, 1) := by decide +kernel
theorem dX7_rivals_0 : decode cX7_rivals 0 = .ok (.aload_n 0, 1) := by decide +kernel
theorem dX7_rivals_1 : decode cX7_rivals 1 = .ok (.getfield 24, 3) := by decide +kernel
theorem dX7_rivals_4 : decode cX7_rivals 4 = .ok (.iload_n 1, 1) := by decide +kernel
theorem dX7_rivals_5 : decode cX7_rivals 5 = .ok (.invokevirtual 144, 3) := by decide +kernel
theorem dX7_rivals_8 : decode cX7_rivals 8 = .ok (.ifCond .eq 19, 3) := by decide +kernel
theorem dX7_rivals_11 : decode cX7_rivals 11 = .ok (.aload_n 0, 1) := by decide +kernel
theorem dX7_rivals_12 : decode cX7_rivals 12 = .ok (.getfield 24, 3) := by decide +kernel
theorem dX7_rivals_15 : decode cX7_rivals 15 = .ok (.iload_n 2, 1) := by decide +kernel
theorem dX7_rivals_16 : decode cX7_rivals 16 = .ok (.invokevirtual 144, 3) := by decide +kernel
theorem dX7_rivals_19 : decode cX7_rivals 19 = .ok (.ifCond .eq 8, 3) := by decide +kernel
theorem dX7_rivals_22 : decode cX7_rivals 22 = .ok (.iload_n 1, 1) := by decide +kernel
theorem dX7_rivals_23 : decode cX7_rivals 23 = .ok (.iload_n 2, 1) := by decide +kernel
theorem dX7_rivals_24 : decode cX7_rivals 24 = .ok (.if_icmp .ne 5, 3) := by decide +kernel
theorem dX7_rivals_27 : decode cX7_rivals 27 = .ok (.iconst (-1), 1) := by decide +kernel
theorem dX7_rivals_28 : decode cX7_rivals 28 = .ok (.ireturn, 1) := by decide +kernel
theorem dX7_rivals_29 : decode cX7_rivals 29 = .ok (.aload_n 0, 1) := by decide +kernel
theorem dX7_rivals_30 : decode cX7_rivals 30 = .ok (.getfield 52, 3) := by decide +kernel
theorem dX7_rivals_33 : decode cX7_rivals 33 = .ok (.aload_n 0, 1) := by decide +kernel
theorem dX7_rivals_34 : decode cX7_rivals 34 = .ok (.getfield 24, 3) := by decide +kernel
theorem dX7_rivals_37 : decode cX7_rivals 37 = .ok (.invokevirtual 184, 3) := by decide +kernel
theorem dX7_rivals_40 : decode cX7_rivals 40 = .ok (.aload_n 0, 1) := by decide +kernel
theorem dX7_rivals_41 : decode cX7_rivals 41 = .ok (.getfield 52, 3) := by decide +kernel
theorem dX7_rivals_44 : decode cX7_rivals 44 = .ok (.iload_n 1, 1) := by decide +kernel
theorem dX7_rivals_45 : decode cX7_rivals 45 = .ok (.iload_n 2, 1) := by decide +kernel
theorem dX7_rivals_46 : decode cX7_rivals 46 = .ok (.invokevirtual 221, 3) := by decide +kernel
theorem dX7_rivals_49 : decode cX7_rivals 49 = .ok (.ireturn, 1) := by decide +kernel
theorem dX7_apart_0 : decode cX7_apart 0 = .ok (.aload_n 0, 1) := by decide +kernel
theorem dX7_apart_1 : decode cX7_apart 1 = .ok (.getfield 24, 3) := by decide +kernel
theorem dX7_apart_4 : decode cX7_apart 4 = .ok (.getfield 141, 3) := by decide +kernel
theorem dX7_apart_7 : decode cX7_apart 7 = .ok (.ifCond .ne 6, 3) := by decide +kernel
theorem dX7_apart_10 : decode cX7_apart 10 = .ok (.bipush (-4), 2) := by decide +kernel
theorem dX7_apart_12 : decode cX7_apart 12 = .ok (.ireturn, 1) := by decide +kernel
theorem dX7_apart_13 : decode cX7_apart 13 = .ok (.aload_n 0, 1) := by decide +kernel
theorem dX7_apart_14 : decode cX7_apart 14 = .ok (.getfield 52, 3) := by decide +kernel
theorem dX7_apart_17 : decode cX7_apart 17 = .ok (.aload_n 0, 1) := by decide +kernel
theorem dX7_apart_18 : decode cX7_apart 18 = .ok (.getfield 24, 3) := by decide +kernel
theorem dX7_apart_21 : decode cX7_apart 21 = .ok (.invokevirtual 184, 3) := by decide +kernel
theorem dX7_apart_24 : decode cX7_apart 24 = .ok (.bipush (-9), 2) := by decide +kernel
theorem dX7_apart_26 : decode cX7_apart 26 = .ok (.istore_n 1, 1) := by decide +kernel
theorem dX7_apart_27 : decode cX7_apart 27 = .ok (.iconst 0, 1) := by decide +kernel
theorem dX7_apart_28 : decode cX7_apart 28 = .ok (.istore_n 2, 1) := by decide +kernel
theorem dX7_apart_29 : decode cX7_apart 29 = .ok (.iload_n 2, 1) := by decide +kernel
theorem dX7_apart_30 : decode cX7_apart 30 = .ok (.aload_n 0, 1) := by decide +kernel
theorem dX7_apart_31 : decode cX7_apart 31 = .ok (.getfield 24, 3) := by decide +kernel
theorem dX7_apart_34 : decode cX7_apart 34 = .ok (.invokevirtual 193, 3) := by decide +kernel
theorem dX7_apart_37 : decode cX7_apart 37 = .ok (.if_icmp .gt 50, 3) := by decide +kernel
theorem dX7_apart_40 : decode cX7_apart 40 = .ok (.aload_n 0, 1) := by decide +kernel
theorem dX7_apart_41 : decode cX7_apart 41 = .ok (.getfield 52, 3) := by decide +kernel
theorem dX7_apart_44 : decode cX7_apart 44 = .ok (.aload_n 0, 1) := by decide +kernel
theorem dX7_apart_45 : decode cX7_apart 45 = .ok (.getfield 24, 3) := by decide +kernel
theorem dX7_apart_48 : decode cX7_apart 48 = .ok (.invokevirtual 193, 3) := by decide +kernel
theorem dX7_apart_51 : decode cX7_apart 51 = .ok (.iload_n 2, 1) := by decide +kernel
theorem dX7_apart_52 : decode cX7_apart 52 = .ok (.iconst (-1), 1) := by decide +kernel
theorem dX7_apart_53 : decode cX7_apart 53 = .ok (.ixor, 1) := by decide +kernel
theorem dX7_apart_54 : decode cX7_apart 54 = .ok (.iand, 1) := by decide +kernel
theorem dX7_apart_55 : decode cX7_apart 55 = .ok (.invokevirtual 224, 3) := by decide +kernel
theorem dX7_apart_58 : decode cX7_apart 58 = .ok (.ifCond .ne 7, 3) := by decide +kernel
theorem dX7_apart_61 : decode cX7_apart 61 = .ok (.iconst 1, 1) := by decide +kernel
theorem dX7_apart_62 : decode cX7_apart 62 = .ok (.goto 4, 3) := by decide +kernel
theorem dX7_apart_65 : decode cX7_apart 65 = .ok (.iconst 0, 1) := by decide +kernel
theorem dX7_apart_66 : decode cX7_apart 66 = .ok (.istore_n 3, 1) := by decide +kernel
theorem dX7_apart_67 : decode cX7_apart 67 = .ok (.iload_n 3, 1) := by decide +kernel
theorem dX7_apart_68 : decode cX7_apart 68 = .ok (.ifCond .eq 13, 3) := by decide +kernel
theorem dX7_apart_71 : decode cX7_apart 71 = .ok (.iload_n 2, 1) := by decide +kernel
theorem dX7_apart_72 : decode cX7_apart 72 = .ok (.iload_n 1, 1) := by decide +kernel
theorem dX7_apart_73 : decode cX7_apart 73 = .ok (.invokestatic 218, 3) := by decide +kernel
theorem dX7_apart_76 : decode cX7_apart 76 = .ok (.ifCond .eq 5, 3) := by decide +kernel
theorem dX7_apart_79 : decode cX7_apart 79 = .ok (.iload_n 2, 1) := by decide +kernel
theorem dX7_apart_80 : decode cX7_apart 80 = .ok (.istore_n 1, 1) := by decide +kernel
theorem dX7_apart_81 : decode cX7_apart 81 = .ok (.iinc 2 1, 3) := by decide +kernel
theorem dX7_apart_84 : decode cX7_apart 84 = .ok (.goto (-55), 3) := by decide +kernel
theorem dX7_apart_87 : decode cX7_apart 87 = .ok (.aload_n 0, 1) := by decide +kernel
theorem dX7_apart_88 : decode cX7_apart 88 = .ok (.iload_n 1, 1) := by decide +kernel
theorem dX7_apart_89 : decode cX7_apart 89 = .ok (.putfield 76, 3) := by decide +kernel
theorem dX7_apart_92 : decode cX7_apart 92 = .ok (.iload_n 1, 1) := by decide +kernel
theorem dX7_apart_93 : decode cX7_apart 93 = .ok (.invokestatic 197, 3) := by decide +kernel
theorem dX7_apart_96 : decode cX7_apart 96 = .ok (.ireturn, 1) := by decide +kernel
theorem dX7_truths_0 : decode cX7_truths 0 = .ok (.aload_n 0, 1) := by decide +kernel
theorem dX7_truths_1 : decode cX7_truths 1 = .ok (.iload_n 1, 1) := by decide +kernel
theorem dX7_truths_2 : decode cX7_truths 2 = .ok (.invokevirtual 227, 3) := by decide +kernel
theorem dX7_truths_5 : decode cX7_truths 5 = .ok (.istore_n 2, 1) := by decide +kernel
theorem dX7_truths_6 : decode cX7_truths 6 = .ok (.iload_n 2, 1) := by decide +kernel
theorem dX7_truths_7 : decode cX7_truths 7 = .ok (.ifCond .eq 5, 3) := by decide +kernel
theorem dX7_truths_10 : decode cX7_truths 10 = .ok (.iload_n 2, 1) := by decide +kernel
theorem dX7_truths_11 : decode cX7_truths 11 = .ok (.ireturn, 1) := by decide +kernel
theorem dX7_truths_12 : decode cX7_truths 12 = .ok (.aload_n 0, 1) := by decide +kernel
theorem dX7_truths_13 : decode cX7_truths 13 = .ok (.getfield 45, 3) := by decide +kernel
theorem dX7_truths_16 : decode cX7_truths 16 = .ok (.aload_n 0, 1) := by decide +kernel
theorem dX7_truths_17 : decode cX7_truths 17 = .ok (.getfield 24, 3) := by decide +kernel
theorem dX7_truths_20 : decode cX7_truths 20 = .ok (.invokevirtual 230, 3) := by decide +kernel
theorem dX7_truths_23 : decode cX7_truths 23 = .ok (.lstore_n 3, 1) := by decide +kernel
theorem dX7_truths_24 : decode cX7_truths 24 = .ok (.aload_n 0, 1) := by decide +kernel
theorem dX7_truths_25 : decode cX7_truths 25 = .ok (.lload_n 3, 1) := by decide +kernel
theorem dX7_truths_26 : decode cX7_truths 26 = .ok (.invokestatic 234, 3) := by decide +kernel
theorem dX7_truths_29 : decode cX7_truths 29 = .ok (.putfield 76, 3) := by decide +kernel
theorem dX7_truths_32 : decode cX7_truths 32 = .ok (.aload_n 0, 1) := by decide +kernel
theorem dX7_truths_33 : decode cX7_truths 33 = .ok (.lload_n 3, 1) := by decide +kernel
theorem dX7_truths_34 : decode cX7_truths 34 = .ok (.invokestatic 238, 3) := by decide +kernel
theorem dX7_truths_37 : decode cX7_truths 37 = .ok (.i2l, 1) := by decide +kernel
theorem dX7_truths_38 : decode cX7_truths 38 = .ok (.lconst 1, 1) := by decide +kernel
theorem dX7_truths_39 : decode cX7_truths 39 = .ok (.invokevirtual 242, 3) := by decide +kernel
theorem dX7_truths_42 : decode cX7_truths 42 = .ok (.iconst 1, 1) := by decide +kernel
theorem dX7_truths_43 : decode cX7_truths 43 = .ok (.ireturn, 1) := by decide +kernel
theorem dX7_sure_0 : decode cX7_sure 0 = .ok (.aload_n 0, 1) := by decide +kernel
theorem dX7_sure_1 : decode cX7_sure 1 = .ok (.iload_n 1, 1) := by decide +kernel
theorem dX7_sure_2 : decode cX7_sure 2 = .ok (.invokevirtual 227, 3) := by decide +kernel
theorem dX7_sure_5 : decode cX7_sure 5 = .ok (.istore_n 2, 1) := by decide +kernel
theorem dX7_sure_6 : decode cX7_sure 6 = .ok (.iload_n 2, 1) := by decide +kernel
theorem dX7_sure_7 : decode cX7_sure 7 = .ok (.ifCond .eq 5, 3) := by decide +kernel
theorem dX7_sure_10 : decode cX7_sure 10 = .ok (.iload_n 2, 1) := by decide +kernel
theorem dX7_sure_11 : decode cX7_sure 11 = .ok (.ireturn, 1) := by decide +kernel
theorem dX7_sure_12 : decode cX7_sure 12 = .ok (.aload_n 0, 1) := by decide +kernel
theorem dX7_sure_13 : decode cX7_sure 13 = .ok (.getfield 45, 3) := by decide +kernel
theorem dX7_sure_16 : decode cX7_sure 16 = .ok (.aload_n 0, 1) := by decide +kernel
theorem dX7_sure_17 : decode cX7_sure 17 = .ok (.getfield 24, 3) := by decide +kernel
theorem dX7_sure_20 : decode cX7_sure 20 = .ok (.invokevirtual 230, 3) := by decide +kernel
theorem dX7_sure_23 : decode cX7_sure 23 = .ok (.lstore_n 3, 1) := by decide +kernel
theorem dX7_sure_24 : decode cX7_sure 24 = .ok (.iconst 0, 1) := by decide +kernel
theorem dX7_sure_25 : decode cX7_sure 25 = .ok (.istore 5, 2) := by decide +kernel
theorem dX7_sure_27 : decode cX7_sure 27 = .ok (.iconst 0, 1) := by decide +kernel
theorem dX7_sure_28 : decode cX7_sure 28 = .ok (.istore 6, 2) := by decide +kernel
theorem dX7_sure_30 : decode cX7_sure 30 = .ok (.iconst 0, 1) := by decide +kernel
theorem dX7_sure_31 : decode cX7_sure 31 = .ok (.istore 7, 2) := by decide +kernel
theorem dX7_sure_33 : decode cX7_sure 33 = .ok (.iload 7, 2) := by decide +kernel
theorem dX7_sure_35 : decode cX7_sure 35 = .ok (.bipush 6, 2) := by decide +kernel
theorem dX7_sure_37 : decode cX7_sure 37 = .ok (.if_icmp .ge 55, 3) := by decide +kernel
theorem dX7_sure_40 : decode cX7_sure 40 = .ok (.lload_n 3, 1) := by decide +kernel
theorem dX7_sure_41 : decode cX7_sure 41 = .ok (.iload 7, 2) := by decide +kernel
theorem dX7_sure_43 : decode cX7_sure 43 = .ok (.invokestatic 246, 3) := by decide +kernel
theorem dX7_sure_46 : decode cX7_sure 46 = .ok (.ldc2_w 249, 3) := by decide +kernel
theorem dX7_sure_49 : decode cX7_sure 49 = .ok (.lxor, 1) := by decide +kernel
theorem dX7_sure_50 : decode cX7_sure 50 = .ok (.land, 1) := by decide +kernel
theorem dX7_sure_51 : decode cX7_sure 51 = .ok (.lconst 0, 1) := by decide +kernel
theorem dX7_sure_52 : decode cX7_sure 52 = .ok (.lcmp, 1) := by decide +kernel
theorem dX7_sure_53 : decode cX7_sure 53 = .ok (.ifCond .ne 12, 3) := by decide +kernel
theorem dX7_sure_56 : decode cX7_sure 56 = .ok (.iload 5, 2) := by decide +kernel
theorem dX7_sure_58 : decode cX7_sure 58 = .ok (.iconst 1, 1) := by decide +kernel
theorem dX7_sure_59 : decode cX7_sure 59 = .ok (.iload 7, 2) := by decide +kernel
theorem dX7_sure_61 : decode cX7_sure 61 = .ok (.ishl, 1) := by decide +kernel
theorem dX7_sure_62 : decode cX7_sure 62 = .ok (.ior, 1) := by decide +kernel
theorem dX7_sure_63 : decode cX7_sure 63 = .ok (.istore 5, 2) := by decide +kernel
theorem dX7_sure_65 : decode cX7_sure 65 = .ok (.lload_n 3, 1) := by decide +kernel
theorem dX7_sure_66 : decode cX7_sure 66 = .ok (.iload 7, 2) := by decide +kernel
theorem dX7_sure_68 : decode cX7_sure 68 = .ok (.invokestatic 246, 3) := by decide +kernel
theorem dX7_sure_71 : decode cX7_sure 71 = .ok (.land, 1) := by decide +kernel
theorem dX7_sure_72 : decode cX7_sure 72 = .ok (.lconst 0, 1) := by decide +kernel
theorem dX7_sure_73 : decode cX7_sure 73 = .ok (.lcmp, 1) := by decide +kernel
theorem dX7_sure_74 : decode cX7_sure 74 = .ok (.ifCond .ne 12, 3) := by decide +kernel
theorem dX7_sure_77 : decode cX7_sure 77 = .ok (.iload 6, 2) := by decide +kernel
theorem dX7_sure_79 : decode cX7_sure 79 = .ok (.iconst 1, 1) := by decide +kernel
theorem dX7_sure_80 : decode cX7_sure 80 = .ok (.iload 7, 2) := by decide +kernel
theorem dX7_sure_82 : decode cX7_sure 82 = .ok (.ishl, 1) := by decide +kernel
theorem dX7_sure_83 : decode cX7_sure 83 = .ok (.ior, 1) := by decide +kernel
theorem dX7_sure_84 : decode cX7_sure 84 = .ok (.istore 6, 2) := by decide +kernel
theorem dX7_sure_86 : decode cX7_sure 86 = .ok (.iinc 7 1, 3) := by decide +kernel
theorem dX7_sure_89 : decode cX7_sure 89 = .ok (.goto (-56), 3) := by decide +kernel
theorem dX7_sure_92 : decode cX7_sure 92 = .ok (.aload_n 0, 1) := by decide +kernel
theorem dX7_sure_93 : decode cX7_sure 93 = .ok (.iload 6, 2) := by decide +kernel
theorem dX7_sure_95 : decode cX7_sure 95 = .ok (.putfield 76, 3) := by decide +kernel
theorem dX7_sure_98 : decode cX7_sure 98 = .ok (.iload 5, 2) := by decide +kernel
theorem dX7_sure_100 : decode cX7_sure 100 = .ok (.ireturn, 1) := by decide +kernel
theorem dX7_next_0 : decode cX7_next 0 = .ok (.aload_n 0, 1) := by decide +kernel
theorem dX7_next_1 : decode cX7_next 1 = .ok (.iload_n 1, 1) := by decide +kernel
theorem dX7_next_2 : decode cX7_next 2 = .ok (.invokevirtual 227, 3) := by decide +kernel
theorem dX7_next_5 : decode cX7_next 5 = .ok (.istore_n 2, 1) := by decide +kernel
theorem dX7_next_6 : decode cX7_next 6 = .ok (.iload_n 2, 1) := by decide +kernel
theorem dX7_next_7 : decode cX7_next 7 = .ok (.ifCond .eq 5, 3) := by decide +kernel
theorem dX7_next_10 : decode cX7_next 10 = .ok (.iload_n 2, 1) := by decide +kernel
theorem dX7_next_11 : decode cX7_next 11 = .ok (.ireturn, 1) := by decide +kernel
theorem dX7_next_12 : decode cX7_next 12 = .ok (.aload_n 0, 1) := by decide +kernel
theorem dX7_next_13 : decode cX7_next 13 = .ok (.getfield 45, 3) := by decide +kernel
theorem dX7_next_16 : decode cX7_next 16 = .ok (.aload_n 0, 1) := by decide +kernel
theorem dX7_next_17 : decode cX7_next 17 = .ok (.getfield 24, 3) := by decide +kernel
theorem dX7_next_20 : decode cX7_next 20 = .ok (.invokevirtual 230, 3) := by decide +kernel
theorem dX7_next_23 : decode cX7_next 23 = .ok (.lstore_n 3, 1) := by decide +kernel
theorem dX7_next_24 : decode cX7_next 24 = .ok (.lload_n 3, 1) := by decide +kernel
theorem dX7_next_25 : decode cX7_next 25 = .ok (.lconst 0, 1) := by decide +kernel
theorem dX7_next_26 : decode cX7_next 26 = .ok (.lcmp, 1) := by decide +kernel
theorem dX7_next_27 : decode cX7_next 27 = .ok (.ifCond .ne 6, 3) := by decide +kernel
theorem dX7_next_30 : decode cX7_next 30 = .ok (.bipush (-9), 2) := by decide +kernel
theorem dX7_next_32 : decode cX7_next 32 = .ok (.ireturn, 1) := by decide +kernel
theorem dX7_next_33 : decode cX7_next 33 = .ok (.iconst 0, 1) := by decide +kernel
theorem dX7_next_34 : decode cX7_next 34 = .ok (.istore 5, 2) := by decide +kernel
theorem dX7_next_36 : decode cX7_next 36 = .ok (.sipush 1000, 3) := by decide +kernel
theorem dX7_next_39 : decode cX7_next 39 = .ok (.istore 6, 2) := by decide +kernel
theorem dX7_next_41 : decode cX7_next 41 = .ok (.iconst 0, 1) := by decide +kernel
theorem dX7_next_42 : decode cX7_next 42 = .ok (.istore 7, 2) := by decide +kernel
theorem dX7_next_44 : decode cX7_next 44 = .ok (.iload 7, 2) := by decide +kernel
theorem dX7_next_46 : decode cX7_next 46 = .ok (.aload_n 0, 1) := by decide +kernel
theorem dX7_next_47 : decode cX7_next 47 = .ok (.getfield 24, 3) := by decide +kernel
theorem dX7_next_50 : decode cX7_next 50 = .ok (.getfield 141, 3) := by decide +kernel
theorem dX7_next_53 : decode cX7_next 53 = .ok (.if_icmp .ge 57, 3) := by decide +kernel
theorem dX7_next_56 : decode cX7_next 56 = .ok (.iconst 0, 1) := by decide +kernel
theorem dX7_next_57 : decode cX7_next 57 = .ok (.istore 8, 2) := by decide +kernel
theorem dX7_next_59 : decode cX7_next 59 = .ok (.iload 8, 2) := by decide +kernel
theorem dX7_next_61 : decode cX7_next 61 = .ok (.bipush 6, 2) := by decide +kernel
theorem dX7_next_63 : decode cX7_next 63 = .ok (.if_icmp .ge 41, 3) := by decide +kernel
theorem dX7_next_66 : decode cX7_next 66 = .ok (.aload_n 0, 1) := by decide +kernel
theorem dX7_next_67 : decode cX7_next 67 = .ok (.iload 7, 2) := by decide +kernel
theorem dX7_next_69 : decode cX7_next 69 = .ok (.iload 8, 2) := by decide +kernel
theorem dX7_next_71 : decode cX7_next 71 = .ok (.lload_n 3, 1) := by decide +kernel
theorem dX7_next_72 : decode cX7_next 72 = .ok (.invokevirtual 251, 3) := by decide +kernel
theorem dX7_next_75 : decode cX7_next 75 = .ok (.istore 9, 2) := by decide +kernel
theorem dX7_next_77 : decode cX7_next 77 = .ok (.iload 9, 2) := by decide +kernel
theorem dX7_next_79 : decode cX7_next 79 = .ok (.iload 6, 2) := by decide +kernel
theorem dX7_next_81 : decode cX7_next 81 = .ok (.if_icmp .ge 17, 3) := by decide +kernel
theorem dX7_next_84 : decode cX7_next 84 = .ok (.bipush 8, 2) := by decide +kernel
theorem dX7_next_86 : decode cX7_next 86 = .ok (.iload 7, 2) := by decide +kernel
theorem dX7_next_88 : decode cX7_next 88 = .ok (.imul, 1) := by decide +kernel
theorem dX7_next_89 : decode cX7_next 89 = .ok (.iload 8, 2) := by decide +kernel
theorem dX7_next_91 : decode cX7_next 91 = .ok (.iadd, 1) := by decide +kernel
theorem dX7_next_92 : decode cX7_next 92 = .ok (.istore 5, 2) := by decide +kernel
theorem dX7_next_94 : decode cX7_next 94 = .ok (.iload 9, 2) := by decide +kernel
theorem dX7_next_96 : decode cX7_next 96 = .ok (.istore 6, 2) := by decide +kernel
theorem dX7_next_98 : decode cX7_next 98 = .ok (.iinc 8 1, 3) := by decide +kernel
theorem dX7_next_101 : decode cX7_next 101 = .ok (.goto (-42), 3) := by decide +kernel
theorem dX7_next_104 : decode cX7_next 104 = .ok (.iinc 7 1, 3) := by decide +kernel
theorem dX7_next_107 : decode cX7_next 107 = .ok (.goto (-63), 3) := by decide +kernel
theorem dX7_next_110 : decode cX7_next 110 = .ok (.aload_n 0, 1) := by decide +kernel
theorem dX7_next_111 : decode cX7_next 111 = .ok (.iload 6, 2) := by decide +kernel
theorem dX7_next_113 : decode cX7_next 113 = .ok (.putfield 76, 3) := by decide +kernel
theorem dX7_next_116 : decode cX7_next 116 = .ok (.iload 5, 2) := by decide +kernel
theorem dX7_next_118 : decode cX7_next 118 = .ok (.ireturn, 1) := by decide +kernel
theorem dX7_kinds_0 : decode cX7_kinds 0 = .ok (.aload_n 0, 1) := by decide +kernel
theorem dX7_kinds_1 : decode cX7_kinds 1 = .ok (.getfield 24, 3) := by decide +kernel
theorem dX7_kinds_4 : decode cX7_kinds 4 = .ok (.iload_n 1, 1) := by decide +kernel
theorem dX7_kinds_5 : decode cX7_kinds 5 = .ok (.invokevirtual 144, 3) := by decide +kernel
theorem dX7_kinds_8 : decode cX7_kinds 8 = .ok (.ifCond .ne 5, 3) := by decide +kernel
theorem dX7_kinds_11 : decode cX7_kinds 11 = .ok (.iconst (-1), 1) := by decide +kernel
theorem dX7_kinds_12 : decode cX7_kinds 12 = .ok (.ireturn, 1) := by decide +kernel
theorem dX7_kinds_13 : decode cX7_kinds 13 = .ok (.aload_n 0, 1) := by decide +kernel
theorem dX7_kinds_14 : decode cX7_kinds 14 = .ok (.iload_n 2, 1) := by decide +kernel
theorem dX7_kinds_15 : decode cX7_kinds 15 = .ok (.invokevirtual 227, 3) := by decide +kernel
theorem dX7_kinds_18 : decode cX7_kinds 18 = .ok (.istore_n 3, 1) := by decide +kernel
theorem dX7_kinds_19 : decode cX7_kinds 19 = .ok (.iload_n 3, 1) := by decide +kernel
theorem dX7_kinds_20 : decode cX7_kinds 20 = .ok (.ifCond .eq 5, 3) := by decide +kernel
theorem dX7_kinds_23 : decode cX7_kinds 23 = .ok (.iload_n 3, 1) := by decide +kernel
theorem dX7_kinds_24 : decode cX7_kinds 24 = .ok (.ireturn, 1) := by decide +kernel
theorem dX7_kinds_25 : decode cX7_kinds 25 = .ok (.iconst 0, 1) := by decide +kernel
theorem dX7_kinds_26 : decode cX7_kinds 26 = .ok (.istore 4, 2) := by decide +kernel
theorem dX7_kinds_28 : decode cX7_kinds 28 = .ok (.iconst 0, 1) := by decide +kernel
theorem dX7_kinds_29 : decode cX7_kinds 29 = .ok (.istore 5, 2) := by decide +kernel
theorem dX7_kinds_31 : decode cX7_kinds 31 = .ok (.iload 5, 2) := by decide +kernel
theorem dX7_kinds_33 : decode cX7_kinds 33 = .ok (.bipush 6, 2) := by decide +kernel
theorem dX7_kinds_35 : decode cX7_kinds 35 = .ok (.if_icmp .ge 35, 3) := by decide +kernel
theorem dX7_kinds_38 : decode cX7_kinds 38 = .ok (.aload_n 0, 1) := by decide +kernel
theorem dX7_kinds_39 : decode cX7_kinds 39 = .ok (.getfield 45, 3) := by decide +kernel
theorem dX7_kinds_42 : decode cX7_kinds 42 = .ok (.aload_n 0, 1) := by decide +kernel
theorem dX7_kinds_43 : decode cX7_kinds 43 = .ok (.getfield 24, 3) := by decide +kernel
theorem dX7_kinds_46 : decode cX7_kinds 46 = .ok (.iload_n 1, 1) := by decide +kernel
theorem dX7_kinds_47 : decode cX7_kinds 47 = .ok (.iload 5, 2) := by decide +kernel
theorem dX7_kinds_49 : decode cX7_kinds 49 = .ok (.invokevirtual 255, 3) := by decide +kernel
theorem dX7_kinds_52 : decode cX7_kinds 52 = .ok (.ifCond .eq 12, 3) := by decide +kernel
theorem dX7_kinds_55 : decode cX7_kinds 55 = .ok (.iload 4, 2) := by decide +kernel
theorem dX7_kinds_57 : decode cX7_kinds 57 = .ok (.iconst 1, 1) := by decide +kernel
theorem dX7_kinds_58 : decode cX7_kinds 58 = .ok (.iload 5, 2) := by decide +kernel
theorem dX7_kinds_60 : decode cX7_kinds 60 = .ok (.ishl, 1) := by decide +kernel
theorem dX7_kinds_61 : decode cX7_kinds 61 = .ok (.ior, 1) := by decide +kernel
theorem dX7_kinds_62 : decode cX7_kinds 62 = .ok (.istore 4, 2) := by decide +kernel
theorem dX7_kinds_64 : decode cX7_kinds 64 = .ok (.iinc 5 1, 3) := by decide +kernel
theorem dX7_kinds_67 : decode cX7_kinds 67 = .ok (.goto (-36), 3) := by decide +kernel
theorem dX7_kinds_70 : decode cX7_kinds 70 = .ok (.iload 4, 2) := by decide +kernel
theorem dX7_kinds_72 : decode cX7_kinds 72 = .ok (.ireturn, 1) := by decide +kernel
theorem dX7_walls_0 : decode cX7_walls 0 = .ok (.aload_n 0, 1) := by decide +kernel
theorem dX7_walls_1 : decode cX7_walls 1 = .ok (.iload_n 1, 1) := by decide +kernel
theorem dX7_walls_2 : decode cX7_walls 2 = .ok (.invokevirtual 227, 3) := by decide +kernel
theorem dX7_walls_5 : decode cX7_walls 5 = .ok (.istore_n 2, 1) := by decide +kernel
theorem dX7_walls_6 : decode cX7_walls 6 = .ok (.iload_n 2, 1) := by decide +kernel
theorem dX7_walls_7 : decode cX7_walls 7 = .ok (.ifCond .eq 5, 3) := by decide +kernel
theorem dX7_walls_10 : decode cX7_walls 10 = .ok (.iload_n 2, 1) := by decide +kernel
theorem dX7_walls_11 : decode cX7_walls 11 = .ok (.ireturn, 1) := by decide +kernel
theorem dX7_walls_12 : decode cX7_walls 12 = .ok (.aload_n 0, 1) := by decide +kernel
theorem dX7_walls_13 : decode cX7_walls 13 = .ok (.getfield 45, 3) := by decide +kernel
theorem dX7_walls_16 : decode cX7_walls 16 = .ok (.invokevirtual 259, 3) := by decide +kernel
theorem dX7_walls_19 : decode cX7_walls 19 = .ok (.istore_n 3, 1) := by decide +kernel
theorem dX7_walls_20 : decode cX7_walls 20 = .ok (.aload_n 0, 1) := by decide +kernel
theorem dX7_walls_21 : decode cX7_walls 21 = .ok (.iload_n 3, 1) := by decide +kernel
theorem dX7_walls_22 : decode cX7_walls 22 = .ok (.putfield 76, 3) := by decide +kernel
theorem dX7_walls_25 : decode cX7_walls 25 = .ok (.aload_n 0, 1) := by decide +kernel
theorem dX7_walls_26 : decode cX7_walls 26 = .ok (.getfield 45, 3) := by decide +kernel
theorem dX7_walls_29 : decode cX7_walls 29 = .ok (.aload_n 0, 1) := by decide +kernel
theorem dX7_walls_30 : decode cX7_walls 30 = .ok (.getfield 24, 3) := by decide +kernel
theorem dX7_walls_33 : decode cX7_walls 33 = .ok (.invokevirtual 262, 3) := by decide +kernel
theorem dX7_walls_36 : decode cX7_walls 36 = .ok (.iload_n 3, 1) := by decide +kernel
theorem dX7_walls_37 : decode cX7_walls 37 = .ok (.iconst (-1), 1) := by decide +kernel
theorem dX7_walls_38 : decode cX7_walls 38 = .ok (.ixor, 1) := by decide +kernel
theorem dX7_walls_39 : decode cX7_walls 39 = .ok (.iand, 1) := by decide +kernel
theorem dX7_walls_40 : decode cX7_walls 40 = .ok (.ireturn, 1) := by decide +kernel
theorem dX7_duel_0 : decode cX7_duel 0 = .ok (.iload_n 1, 1) := by decide +kernel
theorem dX7_duel_1 : decode cX7_duel 1 = .ok (.invokestatic 175, 3) := by decide +kernel
theorem dX7_duel_4 : decode cX7_duel 4 = .ok (.ifCond .eq 12, 3) := by decide +kernel
theorem dX7_duel_7 : decode cX7_duel 7 = .ok (.iload_n 2, 1) := by decide +kernel
theorem dX7_duel_8 : decode cX7_duel 8 = .ok (.ifCond .lt 8, 3) := by decide +kernel
theorem dX7_duel_11 : decode cX7_duel 11 = .ok (.iload_n 2, 1) := by decide +kernel
theorem dX7_duel_12 : decode cX7_duel 12 = .ok (.iconst 2, 1) := by decide +kernel
theorem dX7_duel_13 : decode cX7_duel 13 = .ok (.if_icmp .le 5, 3) := by decide +kernel
theorem dX7_duel_16 : decode cX7_duel 16 = .ok (.iconst (-1), 1) := by decide +kernel
theorem dX7_duel_17 : decode cX7_duel 17 = .ok (.ireturn, 1) := by decide +kernel
theorem dX7_duel_18 : decode cX7_duel 18 = .ok (.aload_n 0, 1) := by decide +kernel
theorem dX7_duel_19 : decode cX7_duel 19 = .ok (.getfield 24, 3) := by decide +kernel
theorem dX7_duel_22 : decode cX7_duel 22 = .ok (.getfield 141, 3) := by decide +kernel
theorem dX7_duel_25 : decode cX7_duel 25 = .ok (.ifCond .ne 6, 3) := by decide +kernel
theorem dX7_duel_28 : decode cX7_duel 28 = .ok (.bipush (-4), 2) := by decide +kernel
theorem dX7_duel_30 : decode cX7_duel 30 = .ok (.ireturn, 1) := by decide +kernel
theorem dX7_duel_31 : decode cX7_duel 31 = .ok (.aload_n 0, 1) := by decide +kernel
theorem dX7_duel_32 : decode cX7_duel 32 = .ok (.getfield 59, 3) := by decide +kernel
theorem dX7_duel_35 : decode cX7_duel 35 = .ok (.aload_n 0, 1) := by decide +kernel
theorem dX7_duel_36 : decode cX7_duel 36 = .ok (.getfield 24, 3) := by decide +kernel
theorem dX7_duel_39 : decode cX7_duel 39 = .ok (.iload_n 1, 1) := by decide +kernel
theorem dX7_duel_40 : decode cX7_duel 40 = .ok (.aload_n 0, 1) := by decide +kernel
theorem dX7_duel_41 : decode cX7_duel 41 = .ok (.getfield 24, 3) := by decide +kernel
theorem dX7_duel_44 : decode cX7_duel 44 = .ok (.invokevirtual 193, 3) := by decide +kernel
theorem dX7_duel_47 : decode cX7_duel 47 = .ok (.invokevirtual 205, 3) := by decide +kernel
theorem dX7_duel_50 : decode cX7_duel 50 = .ok (.aload_n 0, 1) := by decide +kernel
theorem dX7_duel_51 : decode cX7_duel 51 = .ok (.aload_n 0, 1) := by decide +kernel
theorem dX7_duel_52 : decode cX7_duel 52 = .ok (.getfield 59, 3) := by decide +kernel
theorem dX7_duel_55 : decode cX7_duel 55 = .ok (.iconst 2, 1) := by decide +kernel
theorem dX7_duel_56 : decode cX7_duel 56 = .ok (.iload_n 2, 1) := by decide +kernel
theorem dX7_duel_57 : decode cX7_duel 57 = .ok (.imul, 1) := by decide +kernel
theorem dX7_duel_58 : decode cX7_duel 58 = .ok (.invokevirtual 266, 3) := by decide +kernel
theorem dX7_duel_61 : decode cX7_duel 61 = .ok (.putfield 76, 3) := by decide +kernel
theorem dX7_duel_64 : decode cX7_duel 64 = .ok (.iconst 1, 1) := by decide +kernel
theorem dX7_duel_65 : decode cX7_duel 65 = .ok (.ireturn, 1) := by decide +kernel
theorem dX7_odds_0 : decode cX7_odds 0 = .ok (.iload_n 1, 1) := by decide +kernel
theorem dX7_odds_1 : decode cX7_odds 1 = .ok (.invokestatic 175, 3) := by decide +kernel
theorem dX7_odds_4 : decode cX7_odds 4 = .ok (.ifCond .eq 10, 3) := by decide +kernel
theorem dX7_odds_7 : decode cX7_odds 7 = .ok (.iload_n 2, 1) := by decide +kernel
theorem dX7_odds_8 : decode cX7_odds 8 = .ok (.invokestatic 269, 3) := by decide +kernel
theorem dX7_odds_11 : decode cX7_odds 11 = .ok (.ifCond .ne 5, 3) := by decide +kernel
theorem dX7_odds_14 : decode cX7_odds 14 = .ok (.iconst (-1), 1) := by decide +kernel
theorem dX7_odds_15 : decode cX7_odds 15 = .ok (.ireturn, 1) := by decide +kernel
theorem dX7_odds_16 : decode cX7_odds 16 = .ok (.aload_n 0, 1) := by decide +kernel
theorem dX7_odds_17 : decode cX7_odds 17 = .ok (.getfield 24, 3) := by decide +kernel
theorem dX7_odds_20 : decode cX7_odds 20 = .ok (.getfield 141, 3) := by decide +kernel
theorem dX7_odds_23 : decode cX7_odds 23 = .ok (.ifCond .ne 6, 3) := by decide +kernel
theorem dX7_odds_26 : decode cX7_odds 26 = .ok (.bipush (-4), 2) := by decide +kernel
theorem dX7_odds_28 : decode cX7_odds 28 = .ok (.ireturn, 1) := by decide +kernel
theorem dX7_odds_29 : decode cX7_odds 29 = .ok (.aload_n 0, 1) := by decide +kernel
theorem dX7_odds_30 : decode cX7_odds 30 = .ok (.getfield 52, 3) := by decide +kernel
theorem dX7_odds_33 : decode cX7_odds 33 = .ok (.aload_n 0, 1) := by decide +kernel
theorem dX7_odds_34 : decode cX7_odds 34 = .ok (.getfield 24, 3) := by decide +kernel
theorem dX7_odds_37 : decode cX7_odds 37 = .ok (.invokevirtual 184, 3) := by decide +kernel
theorem dX7_odds_40 : decode cX7_odds 40 = .ok (.lconst 0, 1) := by decide +kernel
theorem dX7_odds_41 : decode cX7_odds 41 = .ok (.lstore_n 3, 1) := by decide +kernel
theorem dX7_odds_42 : decode cX7_odds 42 = .ok (.iconst 0, 1) := by decide +kernel
theorem dX7_odds_43 : decode cX7_odds 43 = .ok (.istore 5, 2) := by decide +kernel
theorem dX7_odds_45 : decode cX7_odds 45 = .ok (.iload 5, 2) := by decide +kernel
theorem dX7_odds_47 : decode cX7_odds 47 = .ok (.aload_n 0, 1) := by decide +kernel
theorem dX7_odds_48 : decode cX7_odds 48 = .ok (.getfield 24, 3) := by decide +kernel
theorem dX7_odds_51 : decode cX7_odds 51 = .ok (.invokevirtual 193, 3) := by decide +kernel
theorem dX7_odds_54 : decode cX7_odds 54 = .ok (.if_icmp .gt 35, 3) := by decide +kernel
theorem dX7_odds_57 : decode cX7_odds 57 = .ok (.aload_n 0, 1) := by decide +kernel
theorem dX7_odds_58 : decode cX7_odds 58 = .ok (.getfield 52, 3) := by decide +kernel
theorem dX7_odds_61 : decode cX7_odds 61 = .ok (.iload 5, 2) := by decide +kernel
theorem dX7_odds_63 : decode cX7_odds 63 = .ok (.invokevirtual 190, 3) := by decide +kernel
theorem dX7_odds_66 : decode cX7_odds 66 = .ok (.iload_n 1, 1) := by decide +kernel
theorem dX7_odds_67 : decode cX7_odds 67 = .ok (.invokestatic 202, 3) := by decide +kernel
theorem dX7_odds_70 : decode cX7_odds 70 = .ok (.ifCond .eq 13, 3) := by decide +kernel
theorem dX7_odds_73 : decode cX7_odds 73 = .ok (.lload_n 3, 1) := by decide +kernel
theorem dX7_odds_74 : decode cX7_odds 74 = .ok (.aload_n 0, 1) := by decide +kernel
theorem dX7_odds_75 : decode cX7_odds 75 = .ok (.iload 5, 2) := by decide +kernel
theorem dX7_odds_77 : decode cX7_odds 77 = .ok (.iload_n 2, 1) := by decide +kernel
theorem dX7_odds_78 : decode cX7_odds 78 = .ok (.invokevirtual 272, 3) := by decide +kernel
theorem dX7_odds_81 : decode cX7_odds 81 = .ok (.ladd, 1) := by decide +kernel
theorem dX7_odds_82 : decode cX7_odds 82 = .ok (.lstore_n 3, 1) := by decide +kernel
theorem dX7_odds_83 : decode cX7_odds 83 = .ok (.iinc 5 1, 3) := by decide +kernel
theorem dX7_odds_86 : decode cX7_odds 86 = .ok (.goto (-41), 3) := by decide +kernel
theorem dX7_odds_89 : decode cX7_odds 89 = .ok (.aload_n 0, 1) := by decide +kernel
theorem dX7_odds_90 : decode cX7_odds 90 = .ok (.lload_n 3, 1) := by decide +kernel
theorem dX7_odds_91 : decode cX7_odds 91 = .ok (.aload_n 0, 1) := by decide +kernel
theorem dX7_odds_92 : decode cX7_odds 92 = .ok (.invokevirtual 276, 3) := by decide +kernel
theorem dX7_odds_95 : decode cX7_odds 95 = .ok (.invokevirtual 242, 3) := by decide +kernel
theorem dX7_odds_98 : decode cX7_odds 98 = .ok (.iconst 1, 1) := by decide +kernel
theorem dX7_odds_99 : decode cX7_odds 99 = .ok (.ireturn, 1) := by decide +kernel
theorem dX7_mid_0 : decode cX7_mid 0 = .ok (.iload_n 1, 1) := by decide +kernel
theorem dX7_mid_1 : decode cX7_mid 1 = .ok (.invokestatic 269, 3) := by decide +kernel
theorem dX7_mid_4 : decode cX7_mid 4 = .ok (.ifCond .ne 5, 3) := by decide +kernel
theorem dX7_mid_7 : decode cX7_mid 7 = .ok (.iconst (-1), 1) := by decide +kernel
theorem dX7_mid_8 : decode cX7_mid 8 = .ok (.ireturn, 1) := by decide +kernel
theorem dX7_mid_9 : decode cX7_mid 9 = .ok (.aload_n 0, 1) := by decide +kernel
theorem dX7_mid_10 : decode cX7_mid 10 = .ok (.getfield 24, 3) := by decide +kernel
theorem dX7_mid_13 : decode cX7_mid 13 = .ok (.getfield 141, 3) := by decide +kernel
theorem dX7_mid_16 : decode cX7_mid 16 = .ok (.ifCond .ne 6, 3) := by decide +kernel
theorem dX7_mid_19 : decode cX7_mid 19 = .ok (.bipush (-4), 2) := by decide +kernel
theorem dX7_mid_21 : decode cX7_mid 21 = .ok (.ireturn, 1) := by decide +kernel
theorem dX7_mid_22 : decode cX7_mid 22 = .ok (.aload_n 0, 1) := by decide +kernel
theorem dX7_mid_23 : decode cX7_mid 23 = .ok (.getfield 52, 3) := by decide +kernel
theorem dX7_mid_26 : decode cX7_mid 26 = .ok (.aload_n 0, 1) := by decide +kernel
theorem dX7_mid_27 : decode cX7_mid 27 = .ok (.getfield 24, 3) := by decide +kernel
theorem dX7_mid_30 : decode cX7_mid 30 = .ok (.invokevirtual 184, 3) := by decide +kernel
theorem dX7_mid_33 : decode cX7_mid 33 = .ok (.lconst 0, 1) := by decide +kernel
theorem dX7_mid_34 : decode cX7_mid 34 = .ok (.lstore_n 2, 1) := by decide +kernel
theorem dX7_mid_35 : decode cX7_mid 35 = .ok (.iconst 0, 1) := by decide +kernel
theorem dX7_mid_36 : decode cX7_mid 36 = .ok (.istore 4, 2) := by decide +kernel
theorem dX7_mid_38 : decode cX7_mid 38 = .ok (.iload 4, 2) := by decide +kernel
theorem dX7_mid_40 : decode cX7_mid 40 = .ok (.aload_n 0, 1) := by decide +kernel
theorem dX7_mid_41 : decode cX7_mid 41 = .ok (.getfield 24, 3) := by decide +kernel
theorem dX7_mid_44 : decode cX7_mid 44 = .ok (.invokevirtual 193, 3) := by decide +kernel
theorem dX7_mid_47 : decode cX7_mid 47 = .ok (.if_icmp .gt 33, 3) := by decide +kernel
theorem dX7_mid_50 : decode cX7_mid 50 = .ok (.lload_n 2, 1) := by decide +kernel
theorem dX7_mid_51 : decode cX7_mid 51 = .ok (.aload_n 0, 1) := by decide +kernel
theorem dX7_mid_52 : decode cX7_mid 52 = .ok (.iload 4, 2) := by decide +kernel
theorem dX7_mid_54 : decode cX7_mid 54 = .ok (.iload_n 1, 1) := by decide +kernel
theorem dX7_mid_55 : decode cX7_mid 55 = .ok (.invokevirtual 272, 3) := by decide +kernel
theorem dX7_mid_58 : decode cX7_mid 58 = .ok (.aload_n 0, 1) := by decide +kernel
theorem dX7_mid_59 : decode cX7_mid 59 = .ok (.getfield 52, 3) := by decide +kernel
theorem dX7_mid_62 : decode cX7_mid 62 = .ok (.iload 4, 2) := by decide +kernel
theorem dX7_mid_64 : decode cX7_mid 64 = .ok (.invokevirtual 190, 3) := by decide +kernel
theorem dX7_mid_67 : decode cX7_mid 67 = .ok (.invokestatic 197, 3) := by decide +kernel
theorem dX7_mid_70 : decode cX7_mid 70 = .ok (.i2l, 1) := by decide +kernel
theorem dX7_mid_71 : decode cX7_mid 71 = .ok (.lmul, 1) := by decide +kernel
theorem dX7_mid_72 : decode cX7_mid 72 = .ok (.ladd, 1) := by decide +kernel
theorem dX7_mid_73 : decode cX7_mid 73 = .ok (.lstore_n 2, 1) := by decide +kernel
theorem dX7_mid_74 : decode cX7_mid 74 = .ok (.iinc 4 1, 3) := by decide +kernel
theorem dX7_mid_77 : decode cX7_mid 77 = .ok (.goto (-39), 3) := by decide +kernel
theorem dX7_mid_80 : decode cX7_mid 80 = .ok (.aload_n 0, 1) := by decide +kernel
theorem dX7_mid_81 : decode cX7_mid 81 = .ok (.lload_n 2, 1) := by decide +kernel
theorem dX7_mid_82 : decode cX7_mid 82 = .ok (.aload_n 0, 1) := by decide +kernel
theorem dX7_mid_83 : decode cX7_mid 83 = .ok (.invokevirtual 276, 3) := by decide +kernel
theorem dX7_mid_86 : decode cX7_mid 86 = .ok (.invokevirtual 242, 3) := by decide +kernel
theorem dX7_mid_89 : decode cX7_mid 89 = .ok (.iconst 1, 1) := by decide +kernel
theorem dX7_mid_90 : decode cX7_mid 90 = .ok (.ireturn, 1) := by decide +kernel
theorem dX7_lots_0 : decode cX7_lots 0 = .ok (.iload_n 1, 1) := by decide +kernel
theorem dX7_lots_1 : decode cX7_lots 1 = .ok (.iconst 1, 1) := by decide +kernel
theorem dX7_lots_2 : decode cX7_lots 2 = .ok (.if_icmp .lt 21, 3) := by decide +kernel
theorem dX7_lots_5 : decode cX7_lots 5 = .ok (.iload_n 1, 1) := by decide +kernel
theorem dX7_lots_6 : decode cX7_lots 6 = .ok (.bipush 20, 2) := by decide +kernel
theorem dX7_lots_8 : decode cX7_lots 8 = .ok (.if_icmp .gt 15, 3) := by decide +kernel
theorem dX7_lots_11 : decode cX7_lots 11 = .ok (.iload_n 2, 1) := by decide +kernel
theorem dX7_lots_12 : decode cX7_lots 12 = .ok (.iconst 1, 1) := by decide +kernel
theorem dX7_lots_13 : decode cX7_lots 13 = .ok (.if_icmp .lt 10, 3) := by decide +kernel
theorem dX7_lots_16 : decode cX7_lots 16 = .ok (.iload_n 2, 1) := by decide +kernel
theorem dX7_lots_17 : decode cX7_lots 17 = .ok (.ldc_w 280, 3) := by decide +kernel
theorem dX7_lots_20 : decode cX7_lots 20 = .ok (.if_icmp .le 5, 3) := by decide +kernel
theorem dX7_lots_23 : decode cX7_lots 23 = .ok (.iconst (-1), 1) := by decide +kernel
theorem dX7_lots_24 : decode cX7_lots 24 = .ok (.ireturn, 1) := by decide +kernel
theorem dX7_lots_25 : decode cX7_lots 25 = .ok (.aload_n 0, 1) := by decide +kernel
theorem dX7_lots_26 : decode cX7_lots 26 = .ok (.getfield 24, 3) := by decide +kernel
theorem dX7_lots_29 : decode cX7_lots 29 = .ok (.getfield 141, 3) := by decide +kernel
theorem dX7_lots_32 : decode cX7_lots 32 = .ok (.istore_n 3, 1) := by decide +kernel
theorem dX7_lots_33 : decode cX7_lots 33 = .ok (.iload_n 3, 1) := by decide +kernel
theorem dX7_lots_34 : decode cX7_lots 34 = .ok (.ifCond .gt 6, 3) := by decide +kernel
theorem dX7_lots_37 : decode cX7_lots 37 = .ok (.bipush (-4), 2) := by decide +kernel
theorem dX7_lots_39 : decode cX7_lots 39 = .ok (.ireturn, 1) := by decide +kernel
theorem dX7_lots_40 : decode cX7_lots 40 = .ok (.aload_n 0, 1) := by decide +kernel
theorem dX7_lots_41 : decode cX7_lots 41 = .ok (.getfield 24, 3) := by decide +kernel
theorem dX7_lots_44 : decode cX7_lots 44 = .ok (.getfield 165, 3) := by decide +kernel
theorem dX7_lots_47 : decode cX7_lots 47 = .ok (.iload_n 1, 1) := by decide +kernel
theorem dX7_lots_48 : decode cX7_lots 48 = .ok (.iadd, 1) := by decide +kernel
theorem dX7_lots_49 : decode cX7_lots 49 = .ok (.bipush 40, 2) := by decide +kernel
theorem dX7_lots_51 : decode cX7_lots 51 = .ok (.if_icmp .le 6, 3) := by decide +kernel
theorem dX7_lots_54 : decode cX7_lots 54 = .ok (.bipush (-2), 2) := by decide +kernel
theorem dX7_lots_56 : decode cX7_lots 56 = .ok (.ireturn, 1) := by decide +kernel
theorem dX7_lots_57 : decode cX7_lots 57 = .ok (.iload_n 2, 1) := by decide +kernel
theorem dX7_lots_58 : decode cX7_lots 58 = .ok (.i2l, 1) := by decide +kernel
theorem dX7_lots_59 : decode cX7_lots 59 = .ok (.lstore 4, 2) := by decide +kernel
theorem dX7_lots_61 : decode cX7_lots 61 = .ok (.iconst 0, 1) := by decide +kernel
theorem dX7_lots_62 : decode cX7_lots 62 = .ok (.istore 6, 2) := by decide +kernel
theorem dX7_lots_64 : decode cX7_lots 64 = .ok (.iload 6, 2) := by decide +kernel
theorem dX7_lots_66 : decode cX7_lots 66 = .ok (.iload_n 1, 1) := by decide +kernel
theorem dX7_lots_67 : decode cX7_lots 67 = .ok (.if_icmp .ge 74, 3) := by decide +kernel
theorem dX7_lots_70 : decode cX7_lots 70 = .ok (.lload 4, 2) := by decide +kernel
theorem dX7_lots_72 : decode cX7_lots 72 = .ok (.ldc2_w 281, 3) := by decide +kernel
theorem dX7_lots_75 : decode cX7_lots 75 = .ok (.lmul, 1) := by decide +kernel
theorem dX7_lots_76 : decode cX7_lots 76 = .ok (.ldc2_w 283, 3) := by decide +kernel
theorem dX7_lots_79 : decode cX7_lots 79 = .ok (.lrem, 1) := by decide +kernel
theorem dX7_lots_80 : decode cX7_lots 80 = .ok (.lstore 4, 2) := by decide +kernel
theorem dX7_lots_82 : decode cX7_lots 82 = .ok (.lload 4, 2) := by decide +kernel
theorem dX7_lots_84 : decode cX7_lots 84 = .ok (.iload_n 3, 1) := by decide +kernel
theorem dX7_lots_85 : decode cX7_lots 85 = .ok (.i2l, 1) := by decide +kernel
theorem dX7_lots_86 : decode cX7_lots 86 = .ok (.lrem, 1) := by decide +kernel
theorem dX7_lots_87 : decode cX7_lots 87 = .ok (.l2i, 1) := by decide +kernel
theorem dX7_lots_88 : decode cX7_lots 88 = .ok (.istore 7, 2) := by decide +kernel
theorem dX7_lots_90 : decode cX7_lots 90 = .ok (.lload 4, 2) := by decide +kernel
theorem dX7_lots_92 : decode cX7_lots 92 = .ok (.ldc2_w 285, 3) := by decide +kernel
theorem dX7_lots_95 : decode cX7_lots 95 = .ok (.ldiv, 1) := by decide +kernel
theorem dX7_lots_96 : decode cX7_lots 96 = .ok (.ldc2_w 285, 3) := by decide +kernel
theorem dX7_lots_99 : decode cX7_lots 99 = .ok (.lrem, 1) := by decide +kernel
theorem dX7_lots_100 : decode cX7_lots 100 = .ok (.l2i, 1) := by decide +kernel
theorem dX7_lots_101 : decode cX7_lots 101 = .ok (.invokestatic 287, 3) := by decide +kernel
theorem dX7_lots_104 : decode cX7_lots 104 = .ok (.istore 8, 2) := by decide +kernel
theorem dX7_lots_106 : decode cX7_lots 106 = .ok (.aload_n 0, 1) := by decide +kernel
theorem dX7_lots_107 : decode cX7_lots 107 = .ok (.getfield 24, 3) := by decide +kernel
theorem dX7_lots_110 : decode cX7_lots 110 = .ok (.aload_n 0, 1) := by decide +kernel
theorem dX7_lots_111 : decode cX7_lots 111 = .ok (.getfield 24, 3) := by decide +kernel
theorem dX7_lots_114 : decode cX7_lots 114 = .ok (.iload 8, 2) := by decide +kernel
theorem dX7_lots_116 : decode cX7_lots 116 = .ok (.iload 7, 2) := by decide +kernel
theorem dX7_lots_118 : decode cX7_lots 118 = .ok (.invokevirtual 290, 3) := by decide +kernel
theorem dX7_lots_121 : decode cX7_lots 121 = .ok (.ifCond .eq 8, 3) := by decide +kernel
theorem dX7_lots_124 : decode cX7_lots 124 = .ok (.iload 8, 2) := by decide +kernel
theorem dX7_lots_126 : decode cX7_lots 126 = .ok (.goto 4, 3) := by decide +kernel
theorem dX7_lots_129 : decode cX7_lots 129 = .ok (.iconst 4, 1) := by decide +kernel
theorem dX7_lots_130 : decode cX7_lots 130 = .ok (.iload 7, 2) := by decide +kernel
theorem dX7_lots_132 : decode cX7_lots 132 = .ok (.invokevirtual 293, 3) := by decide +kernel
theorem dX7_lots_135 : decode cX7_lots 135 = .ok (.iinc 6 1, 3) := by decide +kernel
theorem dX7_lots_138 : decode cX7_lots 138 = .ok (.goto (-74), 3) := by decide +kernel
theorem dX7_lots_141 : decode cX7_lots 141 = .ok (.aload_n 0, 1) := by decide +kernel
theorem dX7_lots_142 : decode cX7_lots 142 = .ok (.invokevirtual 296, 3) := by decide +kernel
theorem dX7_lots_145 : decode cX7_lots 145 = .ok (.invokestatic 197, 3) := by decide +kernel
theorem dX7_lots_148 : decode cX7_lots 148 = .ok (.ireturn, 1) := by decide +kernel
theorem dX7_asked_0 : decode cX7_asked 0 = .ok (.aload_n 0, 1) := by decide +kernel
theorem dX7_asked_1 : decode cX7_asked 1 = .ok (.getfield 76, 3) := by decide +kernel
theorem dX7_asked_4 : decode cX7_asked 4 = .ok (.ireturn, 1) := by decide +kernel
theorem dX7_upper_0 : decode cX7_upper 0 = .ok (.aload_n 0, 1) := by decide +kernel
theorem dX7_upper_1 : decode cX7_upper 1 = .ok (.getfield 79, 3) := by decide +kernel
theorem dX7_upper_4 : decode cX7_upper 4 = .ok (.lreturn, 1) := by decide +kernel
theorem dX7_lower_0 : decode cX7_lower 0 = .ok (.aload_n 0, 1) := by decide +kernel
theorem dX7_lower_1 : decode cX7_lower 1 = .ok (.getfield 83, 3) := by decide +kernel
theorem dX7_lower_4 : decode cX7_lower 4 = .ok (.lreturn, 1) := by decide +kernel
theorem dX7_count_0 : decode cX7_count 0 = .ok (.iload_n 1, 1) := by decide +kernel
theorem dX7_count_1 : decode cX7_count 1 = .ok (.tableswitch 175 0 11 #[63, 71, 79, 87, 95, 100, 118, 136, 145, 154, 162, 170], 63) := by decide +kernel
theorem dX7_count_64 : decode cX7_count 64 = .ok (.aload_n 0, 1) := by decide +kernel
theorem dX7_count_65 : decode cX7_count 65 = .ok (.getfield 24, 3) := by decide +kernel
theorem dX7_count_68 : decode cX7_count 68 = .ok (.getfield 141, 3) := by decide +kernel
theorem dX7_count_71 : decode cX7_count 71 = .ok (.ireturn, 1) := by decide +kernel
theorem dX7_count_72 : decode cX7_count 72 = .ok (.aload_n 0, 1) := by decide +kernel
theorem dX7_count_73 : decode cX7_count 73 = .ok (.getfield 24, 3) := by decide +kernel
theorem dX7_count_76 : decode cX7_count 76 = .ok (.getfield 299, 3) := by decide +kernel
theorem dX7_count_79 : decode cX7_count 79 = .ok (.ireturn, 1) := by decide +kernel
theorem dX7_count_80 : decode cX7_count 80 = .ok (.aload_n 0, 1) := by decide +kernel
theorem dX7_count_81 : decode cX7_count 81 = .ok (.getfield 24, 3) := by decide +kernel
theorem dX7_count_84 : decode cX7_count 84 = .ok (.getfield 165, 3) := by decide +kernel
theorem dX7_count_87 : decode cX7_count 87 = .ok (.ireturn, 1) := by decide +kernel
theorem dX7_count_88 : decode cX7_count 88 = .ok (.aload_n 0, 1) := by decide +kernel
theorem dX7_count_89 : decode cX7_count 89 = .ok (.getfield 24, 3) := by decide +kernel
theorem dX7_count_92 : decode cX7_count 92 = .ok (.getfield 302, 3) := by decide +kernel
theorem dX7_count_95 : decode cX7_count 95 = .ok (.ireturn, 1) := by decide +kernel
theorem dX7_count_96 : decode cX7_count 96 = .ok (.aload_n 0, 1) := by decide +kernel
theorem dX7_count_97 : decode cX7_count 97 = .ok (.invokevirtual 296, 3) := by decide +kernel
theorem dX7_count_100 : decode cX7_count 100 = .ok (.ireturn, 1) := by decide +kernel
theorem dX7_count_101 : decode cX7_count 101 = .ok (.aload_n 0, 1) := by decide +kernel
theorem dX7_count_102 : decode cX7_count 102 = .ok (.getfield 24, 3) := by decide +kernel
theorem dX7_count_105 : decode cX7_count 105 = .ok (.getfield 305, 3) := by decide +kernel
theorem dX7_count_108 : decode cX7_count 108 = .ok (.aload_n 0, 1) := by decide +kernel
theorem dX7_count_109 : decode cX7_count 109 = .ok (.getfield 24, 3) := by decide +kernel
theorem dX7_count_112 : decode cX7_count 112 = .ok (.getfield 141, 3) := by decide +kernel
theorem dX7_count_115 : decode cX7_count 115 = .ok (.invokevirtual 308, 3) := by decide +kernel
theorem dX7_count_118 : decode cX7_count 118 = .ok (.ireturn, 1) := by decide +kernel
theorem dX7_count_119 : decode cX7_count 119 = .ok (.aload_n 0, 1) := by decide +kernel
theorem dX7_count_120 : decode cX7_count 120 = .ok (.getfield 24, 3) := by decide +kernel
theorem dX7_count_123 : decode cX7_count 123 = .ok (.getfield 311, 3) := by decide +kernel
theorem dX7_count_126 : decode cX7_count 126 = .ok (.aload_n 0, 1) := by decide +kernel
theorem dX7_count_127 : decode cX7_count 127 = .ok (.getfield 24, 3) := by decide +kernel
theorem dX7_count_130 : decode cX7_count 130 = .ok (.getfield 141, 3) := by decide +kernel
theorem dX7_count_133 : decode cX7_count 133 = .ok (.invokevirtual 308, 3) := by decide +kernel
theorem dX7_count_136 : decode cX7_count 136 = .ok (.ireturn, 1) := by decide +kernel
theorem dX7_count_137 : decode cX7_count 137 = .ok (.aload_n 0, 1) := by decide +kernel
theorem dX7_count_138 : decode cX7_count 138 = .ok (.getfield 24, 3) := by decide +kernel
theorem dX7_count_141 : decode cX7_count 141 = .ok (.iconst 1, 1) := by decide +kernel
theorem dX7_count_142 : decode cX7_count 142 = .ok (.invokevirtual 314, 3) := by decide +kernel
theorem dX7_count_145 : decode cX7_count 145 = .ok (.ireturn, 1) := by decide +kernel
theorem dX7_count_146 : decode cX7_count 146 = .ok (.aload_n 0, 1) := by decide +kernel
theorem dX7_count_147 : decode cX7_count 147 = .ok (.getfield 24, 3) := by decide +kernel
theorem dX7_count_150 : decode cX7_count 150 = .ok (.iconst 3, 1) := by decide +kernel
theorem dX7_count_151 : decode cX7_count 151 = .ok (.invokevirtual 314, 3) := by decide +kernel
theorem dX7_count_154 : decode cX7_count 154 = .ok (.ireturn, 1) := by decide +kernel
theorem dX7_count_155 : decode cX7_count 155 = .ok (.aload_n 0, 1) := by decide +kernel
theorem dX7_count_156 : decode cX7_count 156 = .ok (.getfield 14, 3) := by decide +kernel
theorem dX7_count_159 : decode cX7_count 159 = .ok (.invokevirtual 317, 3) := by decide +kernel
theorem dX7_count_162 : decode cX7_count 162 = .ok (.ireturn, 1) := by decide +kernel
theorem dX7_count_163 : decode cX7_count 163 = .ok (.aload_n 0, 1) := by decide +kernel
theorem dX7_count_164 : decode cX7_count 164 = .ok (.getfield 18, 3) := by decide +kernel
theorem dX7_count_167 : decode cX7_count 167 = .ok (.invokevirtual 317, 3) := by decide +kernel
theorem dX7_count_170 : decode cX7_count 170 = .ok (.ireturn, 1) := by decide +kernel
theorem dX7_count_171 : decode cX7_count 171 = .ok (.aload_n 0, 1) := by decide +kernel
theorem dX7_count_172 : decode cX7_count 172 = .ok (.invokevirtual 320, 3) := by decide +kernel
theorem dX7_count_175 : decode cX7_count 175 = .ok (.ireturn, 1) := by decide +kernel
theorem dX7_count_176 : decode cX7_count 176 = .ok (.iconst (-1), 1) := by decide +kernel
theorem dX7_count_177 : decode cX7_count 177 = .ok (.ireturn, 1) := by decide +kernel
theorem dX7_digest_0 : decode cX7_digest 0 = .ok (.ldc2_w 323, 3) := by decide +kernel
theorem dX7_digest_3 : decode cX7_digest 3 = .ok (.lstore_n 1, 1) := by decide +kernel
theorem dX7_digest_4 : decode cX7_digest 4 = .ok (.iconst 0, 1) := by decide +kernel
theorem dX7_digest_5 : decode cX7_digest 5 = .ok (.istore_n 3, 1) := by decide +kernel
theorem dX7_digest_6 : decode cX7_digest 6 = .ok (.iload_n 3, 1) := by decide +kernel
theorem dX7_digest_7 : decode cX7_digest 7 = .ok (.bipush 12, 2) := by decide +kernel
theorem dX7_digest_9 : decode cX7_digest 9 = .ok (.if_icmp .ge 22, 3) := by decide +kernel
theorem dX7_digest_12 : decode cX7_digest 12 = .ok (.ldc2_w 325, 3) := by decide +kernel
theorem dX7_digest_15 : decode cX7_digest 15 = .ok (.lload_n 1, 1) := by decide +kernel
theorem dX7_digest_16 : decode cX7_digest 16 = .ok (.lmul, 1) := by decide +kernel
theorem dX7_digest_17 : decode cX7_digest 17 = .ok (.aload_n 0, 1) := by decide +kernel
theorem dX7_digest_18 : decode cX7_digest 18 = .ok (.iload_n 3, 1) := by decide +kernel
theorem dX7_digest_19 : decode cX7_digest 19 = .ok (.invokevirtual 327, 3) := by decide +kernel
theorem dX7_digest_22 : decode cX7_digest 22 = .ok (.i2l, 1) := by decide +kernel
theorem dX7_digest_23 : decode cX7_digest 23 = .ok (.ladd, 1) := by decide +kernel
theorem dX7_digest_24 : decode cX7_digest 24 = .ok (.lstore_n 1, 1) := by decide +kernel
theorem dX7_digest_25 : decode cX7_digest 25 = .ok (.iinc 3 1, 3) := by decide +kernel
theorem dX7_digest_28 : decode cX7_digest 28 = .ok (.goto (-22), 3) := by decide +kernel
theorem dX7_digest_31 : decode cX7_digest 31 = .ok (.iconst 0, 1) := by decide +kernel
theorem dX7_digest_32 : decode cX7_digest 32 = .ok (.istore_n 3, 1) := by decide +kernel
theorem dX7_digest_33 : decode cX7_digest 33 = .ok (.iload_n 3, 1) := by decide +kernel
theorem dX7_digest_34 : decode cX7_digest 34 = .ok (.aload_n 0, 1) := by decide +kernel
theorem dX7_digest_35 : decode cX7_digest 35 = .ok (.getfield 24, 3) := by decide +kernel
theorem dX7_digest_38 : decode cX7_digest 38 = .ok (.getfield 141, 3) := by decide +kernel
theorem dX7_digest_41 : decode cX7_digest 41 = .ok (.if_icmp .ge 74, 3) := by decide +kernel
theorem dX7_digest_44 : decode cX7_digest 44 = .ok (.iconst 0, 1) := by decide +kernel
theorem dX7_digest_45 : decode cX7_digest 45 = .ok (.istore 4, 2) := by decide +kernel
theorem dX7_digest_47 : decode cX7_digest 47 = .ok (.iload 4, 2) := by decide +kernel
theorem dX7_digest_49 : decode cX7_digest 49 = .ok (.bipush 6, 2) := by decide +kernel
theorem dX7_digest_51 : decode cX7_digest 51 = .ok (.if_icmp .ge 24, 3) := by decide +kernel
theorem dX7_digest_54 : decode cX7_digest 54 = .ok (.ldc2_w 325, 3) := by decide +kernel
theorem dX7_digest_57 : decode cX7_digest 57 = .ok (.lload_n 1, 1) := by decide +kernel
theorem dX7_digest_58 : decode cX7_digest 58 = .ok (.lmul, 1) := by decide +kernel
theorem dX7_digest_59 : decode cX7_digest 59 = .ok (.aload_n 0, 1) := by decide +kernel
theorem dX7_digest_60 : decode cX7_digest 60 = .ok (.iload_n 3, 1) := by decide +kernel
theorem dX7_digest_61 : decode cX7_digest 61 = .ok (.iload 4, 2) := by decide +kernel
theorem dX7_digest_63 : decode cX7_digest 63 = .ok (.invokevirtual 147, 3) := by decide +kernel
theorem dX7_digest_66 : decode cX7_digest 66 = .ok (.i2l, 1) := by decide +kernel
theorem dX7_digest_67 : decode cX7_digest 67 = .ok (.ladd, 1) := by decide +kernel
theorem dX7_digest_68 : decode cX7_digest 68 = .ok (.lstore_n 1, 1) := by decide +kernel
theorem dX7_digest_69 : decode cX7_digest 69 = .ok (.iinc 4 1, 3) := by decide +kernel
theorem dX7_digest_72 : decode cX7_digest 72 = .ok (.goto (-25), 3) := by decide +kernel
theorem dX7_digest_75 : decode cX7_digest 75 = .ok (.iconst 0, 1) := by decide +kernel
theorem dX7_digest_76 : decode cX7_digest 76 = .ok (.istore 4, 2) := by decide +kernel
theorem dX7_digest_78 : decode cX7_digest 78 = .ok (.iload 4, 2) := by decide +kernel
theorem dX7_digest_80 : decode cX7_digest 80 = .ok (.bipush 6, 2) := by decide +kernel
theorem dX7_digest_82 : decode cX7_digest 82 = .ok (.if_icmp .ge 27, 3) := by decide +kernel
theorem dX7_digest_85 : decode cX7_digest 85 = .ok (.ldc2_w 325, 3) := by decide +kernel
theorem dX7_digest_88 : decode cX7_digest 88 = .ok (.lload_n 1, 1) := by decide +kernel
theorem dX7_digest_89 : decode cX7_digest 89 = .ok (.lmul, 1) := by decide +kernel
theorem dX7_digest_90 : decode cX7_digest 90 = .ok (.aload_n 0, 1) := by decide +kernel
theorem dX7_digest_91 : decode cX7_digest 91 = .ok (.getfield 24, 3) := by decide +kernel
theorem dX7_digest_94 : decode cX7_digest 94 = .ok (.iload_n 3, 1) := by decide +kernel
theorem dX7_digest_95 : decode cX7_digest 95 = .ok (.iload 4, 2) := by decide +kernel
theorem dX7_digest_97 : decode cX7_digest 97 = .ok (.invokevirtual 178, 3) := by decide +kernel
theorem dX7_digest_100 : decode cX7_digest 100 = .ok (.i2l, 1) := by decide +kernel
theorem dX7_digest_101 : decode cX7_digest 101 = .ok (.ladd, 1) := by decide +kernel
theorem dX7_digest_102 : decode cX7_digest 102 = .ok (.lstore_n 1, 1) := by decide +kernel
theorem dX7_digest_103 : decode cX7_digest 103 = .ok (.iinc 4 1, 3) := by decide +kernel
theorem dX7_digest_106 : decode cX7_digest 106 = .ok (.goto (-28), 3) := by decide +kernel
theorem dX7_digest_109 : decode cX7_digest 109 = .ok (.iinc 3 1, 3) := by decide +kernel
theorem dX7_digest_112 : decode cX7_digest 112 = .ok (.goto (-79), 3) := by decide +kernel
theorem dX7_digest_115 : decode cX7_digest 115 = .ok (.iconst 0, 1) := by decide +kernel
theorem dX7_digest_116 : decode cX7_digest 116 = .ok (.istore_n 3, 1) := by decide +kernel
theorem dX7_digest_117 : decode cX7_digest 117 = .ok (.iload_n 3, 1) := by decide +kernel
theorem dX7_digest_118 : decode cX7_digest 118 = .ok (.iconst 3, 1) := by decide +kernel
theorem dX7_digest_119 : decode cX7_digest 119 = .ok (.if_icmp .ge 38, 3) := by decide +kernel
theorem dX7_digest_122 : decode cX7_digest 122 = .ok (.aload_n 0, 1) := by decide +kernel
theorem dX7_digest_123 : decode cX7_digest 123 = .ok (.iload_n 3, 1) := by decide +kernel
theorem dX7_digest_124 : decode cX7_digest 124 = .ok (.invokevirtual 171, 3) := by decide +kernel
theorem dX7_digest_127 : decode cX7_digest 127 = .ok (.astore 4, 2) := by decide +kernel
theorem dX7_digest_129 : decode cX7_digest 129 = .ok (.ldc2_w 325, 3) := by decide +kernel
theorem dX7_digest_132 : decode cX7_digest 132 = .ok (.lload_n 1, 1) := by decide +kernel
theorem dX7_digest_133 : decode cX7_digest 133 = .ok (.lmul, 1) := by decide +kernel
theorem dX7_digest_134 : decode cX7_digest 134 = .ok (.aload 4, 2) := by decide +kernel
theorem dX7_digest_136 : decode cX7_digest 136 = .ok (.ifnonnull 7, 3) := by decide +kernel
theorem dX7_digest_139 : decode cX7_digest 139 = .ok (.iconst (-1), 1) := by decide +kernel
theorem dX7_digest_140 : decode cX7_digest 140 = .ok (.goto 8, 3) := by decide +kernel
theorem dX7_digest_143 : decode cX7_digest 143 = .ok (.aload 4, 2) := by decide +kernel
theorem dX7_digest_145 : decode cX7_digest 145 = .ok (.getfield 165, 3) := by decide +kernel
theorem dX7_digest_148 : decode cX7_digest 148 = .ok (.i2l, 1) := by decide +kernel
theorem dX7_digest_149 : decode cX7_digest 149 = .ok (.ladd, 1) := by decide +kernel
theorem dX7_digest_150 : decode cX7_digest 150 = .ok (.lstore_n 1, 1) := by decide +kernel
theorem dX7_digest_151 : decode cX7_digest 151 = .ok (.iinc 3 1, 3) := by decide +kernel
theorem dX7_digest_154 : decode cX7_digest 154 = .ok (.goto (-37), 3) := by decide +kernel
theorem dX7_digest_157 : decode cX7_digest 157 = .ok (.aload_n 0, 1) := by decide +kernel
theorem dX7_digest_158 : decode cX7_digest 158 = .ok (.getfield 18, 3) := by decide +kernel
theorem dX7_digest_161 : decode cX7_digest 161 = .ok (.aload_n 0, 1) := by decide +kernel
theorem dX7_digest_162 : decode cX7_digest 162 = .ok (.getfield 14, 3) := by decide +kernel
theorem dX7_digest_165 : decode cX7_digest 165 = .ok (.lload_n 1, 1) := by decide +kernel
theorem dX7_digest_166 : decode cX7_digest 166 = .ok (.invokevirtual 330, 3) := by decide +kernel
theorem dX7_digest_169 : decode cX7_digest 169 = .ok (.invokevirtual 330, 3) := by decide +kernel
theorem dX7_digest_172 : decode cX7_digest 172 = .ok (.lreturn, 1) := by decide +kernel
theorem dX7_found_0 : decode cX7_found 0 = .ok (.aload_n 0, 1) := by decide +kernel
theorem dX7_found_1 : decode cX7_found 1 = .ok (.iload_n 1, 1) := by decide +kernel
theorem dX7_found_2 : decode cX7_found 2 = .ok (.putfield 72, 3) := by decide +kernel
theorem dX7_found_5 : decode cX7_found 5 = .ok (.aload_n 0, 1) := by decide +kernel
theorem dX7_found_6 : decode cX7_found 6 = .ok (.getfield 68, 3) := by decide +kernel
theorem dX7_found_9 : decode cX7_found 9 = .ok (.iload_n 1, 1) := by decide +kernel
theorem dX7_found_10 : decode cX7_found 10 = .ok (.aload_n 0, 1) := by decide +kernel
theorem dX7_found_11 : decode cX7_found 11 = .ok (.getfield 68, 3) := by decide +kernel
theorem dX7_found_14 : decode cX7_found 14 = .ok (.iload_n 1, 1) := by decide +kernel
theorem dX7_found_15 : decode cX7_found 15 = .ok (.invokevirtual 153, 3) := by decide +kernel
theorem dX7_found_18 : decode cX7_found 18 = .ok (.iconst 1, 1) := by decide +kernel
theorem dX7_found_19 : decode cX7_found 19 = .ok (.iadd, 1) := by decide +kernel
theorem dX7_found_20 : decode cX7_found 20 = .ok (.invokevirtual 334, 3) := by decide +kernel
theorem dX7_found_23 : decode cX7_found 23 = .ok (.bipush (-3), 2) := by decide +kernel
theorem dX7_found_25 : decode cX7_found 25 = .ok (.ireturn, 1) := by decide +kernel
theorem dX7_missingPlace_0 : decode cX7_missingPlace 0 = .ok (.aload_n 0, 1) := by decide +kernel
theorem dX7_missingPlace_1 : decode cX7_missingPlace 1 = .ok (.iload_n 1, 1) := by decide +kernel
theorem dX7_missingPlace_2 : decode cX7_missingPlace 2 = .ok (.invokevirtual 109, 3) := by decide +kernel
theorem dX7_missingPlace_5 : decode cX7_missingPlace 5 = .ok (.ifCond .ne 5, 3) := by decide +kernel
theorem dX7_missingPlace_8 : decode cX7_missingPlace 8 = .ok (.iconst 1, 1) := by decide +kernel
theorem dX7_missingPlace_9 : decode cX7_missingPlace 9 = .ok (.ireturn, 1) := by decide +kernel
theorem dX7_missingPlace_10 : decode cX7_missingPlace 10 = .ok (.aload_n 0, 1) := by decide +kernel
theorem dX7_missingPlace_11 : decode cX7_missingPlace 11 = .ok (.iload_n 1, 1) := by decide +kernel
theorem dX7_missingPlace_12 : decode cX7_missingPlace 12 = .ok (.iload_n 2, 1) := by decide +kernel
theorem dX7_missingPlace_13 : decode cX7_missingPlace 13 = .ok (.invokevirtual 336, 3) := by decide +kernel
theorem dX7_missingPlace_16 : decode cX7_missingPlace 16 = .ok (.ifCond .eq 7, 3) := by decide +kernel
theorem dX7_missingPlace_19 : decode cX7_missingPlace 19 = .ok (.iconst 0, 1) := by decide +kernel
theorem dX7_missingPlace_20 : decode cX7_missingPlace 20 = .ok (.goto 4, 3) := by decide +kernel
theorem dX7_missingPlace_23 : decode cX7_missingPlace 23 = .ok (.iconst 2, 1) := by decide +kernel
theorem dX7_missingPlace_24 : decode cX7_missingPlace 24 = .ok (.ireturn, 1) := by decide +kernel
theorem dX7_ofBear_0 : decode cX7_ofBear 0 = .ok (.iload_n 2, 1) := by decide +kernel
theorem dX7_ofBear_1 : decode cX7_ofBear 1 = .ok (.tableswitch 103 0 4 #[35, 47, 59, 71, 83], 35) := by decide +kernel
theorem dX7_ofBear_36 : decode cX7_ofBear 36 = .ok (.aload_n 0, 1) := by decide +kernel
theorem dX7_ofBear_37 : decode cX7_ofBear 37 = .ok (.getfield 24, 3) := by decide +kernel
theorem dX7_ofBear_40 : decode cX7_ofBear 40 = .ok (.getfield 150, 3) := by decide +kernel
theorem dX7_ofBear_43 : decode cX7_ofBear 43 = .ok (.iload_n 1, 1) := by decide +kernel
theorem dX7_ofBear_44 : decode cX7_ofBear 44 = .ok (.invokevirtual 153, 3) := by decide +kernel
theorem dX7_ofBear_47 : decode cX7_ofBear 47 = .ok (.ireturn, 1) := by decide +kernel
theorem dX7_ofBear_48 : decode cX7_ofBear 48 = .ok (.aload_n 0, 1) := by decide +kernel
theorem dX7_ofBear_49 : decode cX7_ofBear 49 = .ok (.getfield 24, 3) := by decide +kernel
theorem dX7_ofBear_52 : decode cX7_ofBear 52 = .ok (.getfield 311, 3) := by decide +kernel
theorem dX7_ofBear_55 : decode cX7_ofBear 55 = .ok (.iload_n 1, 1) := by decide +kernel
theorem dX7_ofBear_56 : decode cX7_ofBear 56 = .ok (.invokevirtual 153, 3) := by decide +kernel
theorem dX7_ofBear_59 : decode cX7_ofBear 59 = .ok (.ireturn, 1) := by decide +kernel
theorem dX7_ofBear_60 : decode cX7_ofBear 60 = .ok (.aload_n 0, 1) := by decide +kernel
theorem dX7_ofBear_61 : decode cX7_ofBear 61 = .ok (.getfield 24, 3) := by decide +kernel
theorem dX7_ofBear_64 : decode cX7_ofBear 64 = .ok (.getfield 305, 3) := by decide +kernel
theorem dX7_ofBear_67 : decode cX7_ofBear 67 = .ok (.iload_n 1, 1) := by decide +kernel
theorem dX7_ofBear_68 : decode cX7_ofBear 68 = .ok (.invokevirtual 153, 3) := by decide +kernel
theorem dX7_ofBear_71 : decode cX7_ofBear 71 = .ok (.ireturn, 1) := by decide +kernel
theorem dX7_ofBear_72 : decode cX7_ofBear 72 = .ok (.aload_n 0, 1) := by decide +kernel
theorem dX7_ofBear_73 : decode cX7_ofBear 73 = .ok (.getfield 24, 3) := by decide +kernel
theorem dX7_ofBear_76 : decode cX7_ofBear 76 = .ok (.getfield 339, 3) := by decide +kernel
theorem dX7_ofBear_79 : decode cX7_ofBear 79 = .ok (.iload_n 1, 1) := by decide +kernel
theorem dX7_ofBear_80 : decode cX7_ofBear 80 = .ok (.invokevirtual 153, 3) := by decide +kernel
theorem dX7_ofBear_83 : decode cX7_ofBear 83 = .ok (.ireturn, 1) := by decide +kernel
theorem dX7_ofBear_84 : decode cX7_ofBear 84 = .ok (.aload_n 0, 1) := by decide +kernel
theorem dX7_ofBear_85 : decode cX7_ofBear 85 = .ok (.getfield 24, 3) := by decide +kernel
theorem dX7_ofBear_88 : decode cX7_ofBear 88 = .ok (.getfield 302, 3) := by decide +kernel
theorem dX7_ofBear_91 : decode cX7_ofBear 91 = .ok (.iload_n 1, 1) := by decide +kernel
theorem dX7_ofBear_92 : decode cX7_ofBear 92 = .ok (.invokestatic 202, 3) := by decide +kernel
theorem dX7_ofBear_95 : decode cX7_ofBear 95 = .ok (.ifCond .eq 7, 3) := by decide +kernel
theorem dX7_ofBear_98 : decode cX7_ofBear 98 = .ok (.iconst 1, 1) := by decide +kernel
theorem dX7_ofBear_99 : decode cX7_ofBear 99 = .ok (.goto 4, 3) := by decide +kernel
theorem dX7_ofBear_102 : decode cX7_ofBear 102 = .ok (.iconst 0, 1) := by decide +kernel
theorem dX7_ofBear_103 : decode cX7_ofBear 103 = .ok (.ireturn, 1) := by decide +kernel
theorem dX7_ofBear_104 : decode cX7_ofBear 104 = .ok (.aload_n 0, 1) := by decide +kernel
theorem dX7_ofBear_105 : decode cX7_ofBear 105 = .ok (.getfield 24, 3) := by decide +kernel
theorem dX7_ofBear_108 : decode cX7_ofBear 108 = .ok (.iload_n 1, 1) := by decide +kernel
theorem dX7_ofBear_109 : decode cX7_ofBear 109 = .ok (.aload_n 0, 1) := by decide +kernel
theorem dX7_ofBear_110 : decode cX7_ofBear 110 = .ok (.getfield 24, 3) := by decide +kernel
theorem dX7_ofBear_113 : decode cX7_ofBear 113 = .ok (.getfield 150, 3) := by decide +kernel
theorem dX7_ofBear_116 : decode cX7_ofBear 116 = .ok (.iload_n 1, 1) := by decide +kernel
theorem dX7_ofBear_117 : decode cX7_ofBear 117 = .ok (.invokevirtual 153, 3) := by decide +kernel
theorem dX7_ofBear_120 : decode cX7_ofBear 120 = .ok (.aload_n 0, 1) := by decide +kernel
theorem dX7_ofBear_121 : decode cX7_ofBear 121 = .ok (.getfield 24, 3) := by decide +kernel
theorem dX7_ofBear_124 : decode cX7_ofBear 124 = .ok (.getfield 305, 3) := by decide +kernel
theorem dX7_ofBear_127 : decode cX7_ofBear 127 = .ok (.iload_n 1, 1) := by decide +kernel
theorem dX7_ofBear_128 : decode cX7_ofBear 128 = .ok (.invokevirtual 153, 3) := by decide +kernel
theorem dX7_ofBear_131 : decode cX7_ofBear 131 = .ok (.invokevirtual 342, 3) := by decide +kernel
theorem dX7_ofBear_134 : decode cX7_ofBear 134 = .ok (.ireturn, 1) := by decide +kernel
theorem dX7_answerDeed_0 : decode cX7_answerDeed 0 = .ok (.aload_n 0, 1) := by decide +kernel
theorem dX7_answerDeed_1 : decode cX7_answerDeed 1 = .ok (.getfield 24, 3) := by decide +kernel
theorem dX7_answerDeed_4 : decode cX7_answerDeed 4 = .ok (.iload_n 2, 1) := by decide +kernel
theorem dX7_answerDeed_5 : decode cX7_answerDeed 5 = .ok (.invokevirtual 144, 3) := by decide +kernel
theorem dX7_answerDeed_8 : decode cX7_answerDeed 8 = .ok (.ifCond .ne 5, 3) := by decide +kernel
theorem dX7_answerDeed_11 : decode cX7_answerDeed 11 = .ok (.iconst (-1), 1) := by decide +kernel
theorem dX7_answerDeed_12 : decode cX7_answerDeed 12 = .ok (.ireturn, 1) := by decide +kernel
theorem dX7_answerDeed_13 : decode cX7_answerDeed 13 = .ok (.aload_n 0, 1) := by decide +kernel
theorem dX7_answerDeed_14 : decode cX7_answerDeed 14 = .ok (.getfield 24, 3) := by decide +kernel
theorem dX7_answerDeed_17 : decode cX7_answerDeed 17 = .ok (.iload_n 1, 1) := by decide +kernel
theorem dX7_answerDeed_18 : decode cX7_answerDeed 18 = .ok (.iload_n 2, 1) := by decide +kernel
theorem dX7_answerDeed_19 : decode cX7_answerDeed 19 = .ok (.invokevirtual 290, 3) := by decide +kernel
theorem dX7_answerDeed_22 : decode cX7_answerDeed 22 = .ok (.ifCond .ne 6, 3) := by decide +kernel
theorem dX7_answerDeed_25 : decode cX7_answerDeed 25 = .ok (.bipush (-4), 2) := by decide +kernel
theorem dX7_answerDeed_27 : decode cX7_answerDeed 27 = .ok (.ireturn, 1) := by decide +kernel
theorem dX7_answerDeed_28 : decode cX7_answerDeed 28 = .ok (.aload_n 0, 1) := by decide +kernel
theorem dX7_answerDeed_29 : decode cX7_answerDeed 29 = .ok (.getfield 24, 3) := by decide +kernel
theorem dX7_answerDeed_32 : decode cX7_answerDeed 32 = .ok (.getfield 165, 3) := by decide +kernel
theorem dX7_answerDeed_35 : decode cX7_answerDeed 35 = .ok (.bipush 40, 2) := by decide +kernel
theorem dX7_answerDeed_37 : decode cX7_answerDeed 37 = .ok (.if_icmp .lt 6, 3) := by decide +kernel
theorem dX7_answerDeed_40 : decode cX7_answerDeed 40 = .ok (.bipush (-2), 2) := by decide +kernel
theorem dX7_answerDeed_42 : decode cX7_answerDeed 42 = .ok (.ireturn, 1) := by decide +kernel
theorem dX7_answerDeed_43 : decode cX7_answerDeed 43 = .ok (.aload_n 0, 1) := by decide +kernel
theorem dX7_answerDeed_44 : decode cX7_answerDeed 44 = .ok (.getfield 24, 3) := by decide +kernel
theorem dX7_answerDeed_47 : decode cX7_answerDeed 47 = .ok (.iload_n 1, 1) := by decide +kernel
theorem dX7_answerDeed_48 : decode cX7_answerDeed 48 = .ok (.iload_n 2, 1) := by decide +kernel
theorem dX7_answerDeed_49 : decode cX7_answerDeed 49 = .ok (.invokevirtual 293, 3) := by decide +kernel
theorem dX7_answerDeed_52 : decode cX7_answerDeed 52 = .ok (.iload_n 1, 1) := by decide +kernel
theorem dX7_answerDeed_53 : decode cX7_answerDeed 53 = .ok (.iconst 3, 1) := by decide +kernel
theorem dX7_answerDeed_54 : decode cX7_answerDeed 54 = .ok (.if_icmp .ne 23, 3) := by decide +kernel
theorem dX7_answerDeed_57 : decode cX7_answerDeed 57 = .ok (.aload_n 0, 1) := by decide +kernel
theorem dX7_answerDeed_58 : decode cX7_answerDeed 58 = .ok (.getfield 24, 3) := by decide +kernel
theorem dX7_answerDeed_61 : decode cX7_answerDeed 61 = .ok (.getfield 302, 3) := by decide +kernel
theorem dX7_answerDeed_64 : decode cX7_answerDeed 64 = .ok (.iload_n 2, 1) := by decide +kernel
theorem dX7_answerDeed_65 : decode cX7_answerDeed 65 = .ok (.invokestatic 202, 3) := by decide +kernel
theorem dX7_answerDeed_68 : decode cX7_answerDeed 68 = .ok (.ifCond .eq 7, 3) := by decide +kernel
theorem dX7_answerDeed_71 : decode cX7_answerDeed 71 = .ok (.iconst 1, 1) := by decide +kernel
theorem dX7_answerDeed_72 : decode cX7_answerDeed 72 = .ok (.goto 4, 3) := by decide +kernel
theorem dX7_answerDeed_75 : decode cX7_answerDeed 75 = .ok (.iconst 0, 1) := by decide +kernel
theorem dX7_answerDeed_76 : decode cX7_answerDeed 76 = .ok (.ireturn, 1) := by decide +kernel
theorem dX7_answerDeed_77 : decode cX7_answerDeed 77 = .ok (.iload_n 1, 1) := by decide +kernel
theorem dX7_answerDeed_78 : decode cX7_answerDeed 78 = .ok (.iconst 2, 1) := by decide +kernel
theorem dX7_answerDeed_79 : decode cX7_answerDeed 79 = .ok (.if_icmp .ne 17, 3) := by decide +kernel
theorem dX7_answerDeed_82 : decode cX7_answerDeed 82 = .ok (.aload_n 0, 1) := by decide +kernel
theorem dX7_answerDeed_83 : decode cX7_answerDeed 83 = .ok (.getfield 24, 3) := by decide +kernel
theorem dX7_answerDeed_86 : decode cX7_answerDeed 86 = .ok (.getfield 311, 3) := by decide +kernel
theorem dX7_answerDeed_89 : decode cX7_answerDeed 89 = .ok (.iload_n 2, 1) := by decide +kernel
theorem dX7_answerDeed_90 : decode cX7_answerDeed 90 = .ok (.invokevirtual 153, 3) := by decide +kernel
theorem dX7_answerDeed_93 : decode cX7_answerDeed 93 = .ok (.goto 14, 3) := by decide +kernel
theorem dX7_answerDeed_96 : decode cX7_answerDeed 96 = .ok (.aload_n 0, 1) := by decide +kernel
theorem dX7_answerDeed_97 : decode cX7_answerDeed 97 = .ok (.getfield 24, 3) := by decide +kernel
theorem dX7_answerDeed_100 : decode cX7_answerDeed 100 = .ok (.getfield 305, 3) := by decide +kernel
theorem dX7_answerDeed_103 : decode cX7_answerDeed 103 = .ok (.iload_n 2, 1) := by decide +kernel
theorem dX7_answerDeed_104 : decode cX7_answerDeed 104 = .ok (.invokevirtual 153, 3) := by decide +kernel
theorem dX7_answerDeed_107 : decode cX7_answerDeed 107 = .ok (.ireturn, 1) := by decide +kernel
theorem dX7_actOfLot_0 : decode cX7_actOfLot 0 = .ok (.iload_n 0, 1) := by decide +kernel
theorem dX7_actOfLot_1 : decode cX7_actOfLot 1 = .ok (.iconst 3, 1) := by decide +kernel
theorem dX7_actOfLot_2 : decode cX7_actOfLot 2 = .ok (.if_icmp .gt 5, 3) := by decide +kernel
theorem dX7_actOfLot_5 : decode cX7_actOfLot 5 = .ok (.iconst 0, 1) := by decide +kernel
theorem dX7_actOfLot_6 : decode cX7_actOfLot 6 = .ok (.ireturn, 1) := by decide +kernel
theorem dX7_actOfLot_7 : decode cX7_actOfLot 7 = .ok (.iload_n 0, 1) := by decide +kernel
theorem dX7_actOfLot_8 : decode cX7_actOfLot 8 = .ok (.iconst 5, 1) := by decide +kernel
theorem dX7_actOfLot_9 : decode cX7_actOfLot 9 = .ok (.if_icmp .gt 5, 3) := by decide +kernel
theorem dX7_actOfLot_12 : decode cX7_actOfLot 12 = .ok (.iconst 1, 1) := by decide +kernel
theorem dX7_actOfLot_13 : decode cX7_actOfLot 13 = .ok (.ireturn, 1) := by decide +kernel
theorem dX7_actOfLot_14 : decode cX7_actOfLot 14 = .ok (.iload_n 0, 1) := by decide +kernel
theorem dX7_actOfLot_15 : decode cX7_actOfLot 15 = .ok (.bipush 6, 2) := by decide +kernel
theorem dX7_actOfLot_17 : decode cX7_actOfLot 17 = .ok (.if_icmp .ne 7, 3) := by decide +kernel
theorem dX7_actOfLot_20 : decode cX7_actOfLot 20 = .ok (.iconst 2, 1) := by decide +kernel
theorem dX7_actOfLot_21 : decode cX7_actOfLot 21 = .ok (.goto 4, 3) := by decide +kernel
theorem dX7_actOfLot_24 : decode cX7_actOfLot 24 = .ok (.iconst 3, 1) := by decide +kernel
theorem dX7_actOfLot_25 : decode cX7_actOfLot 25 = .ok (.ireturn, 1) := by decide +kernel
theorem dX7_keptIn_0 : decode cX7_keptIn 0 = .ok (.iload_n 1, 1) := by decide +kernel
theorem dX7_keptIn_1 : decode cX7_keptIn 1 = .ok (.ifCond .lt 12, 3) := by decide +kernel
theorem dX7_keptIn_4 : decode cX7_keptIn 4 = .ok (.iload_n 1, 1) := by decide +kernel
theorem dX7_keptIn_5 : decode cX7_keptIn 5 = .ok (.aload_n 0, 1) := by decide +kernel
theorem dX7_keptIn_6 : decode cX7_keptIn 6 = .ok (.getfield 31, 3) := by decide +kernel
theorem dX7_keptIn_9 : decode cX7_keptIn 9 = .ok (.arraylength, 1) := by decide +kernel
theorem dX7_keptIn_10 : decode cX7_keptIn 10 = .ok (.if_icmp .lt 5, 3) := by decide +kernel
theorem dX7_keptIn_13 : decode cX7_keptIn 13 = .ok (.aconst_null, 1) := by decide +kernel
theorem dX7_keptIn_14 : decode cX7_keptIn 14 = .ok (.areturn, 1) := by decide +kernel
theorem dX7_keptIn_15 : decode cX7_keptIn 15 = .ok (.aload_n 0, 1) := by decide +kernel
theorem dX7_keptIn_16 : decode cX7_keptIn 16 = .ok (.getfield 31, 3) := by decide +kernel
theorem dX7_keptIn_19 : decode cX7_keptIn 19 = .ok (.iload_n 1, 1) := by decide +kernel
theorem dX7_keptIn_20 : decode cX7_keptIn 20 = .ok (.aaload, 1) := by decide +kernel
theorem dX7_keptIn_21 : decode cX7_keptIn 21 = .ok (.astore_n 2, 1) := by decide +kernel
theorem dX7_keptIn_22 : decode cX7_keptIn 22 = .ok (.aload_n 2, 1) := by decide +kernel
theorem dX7_keptIn_23 : decode cX7_keptIn 23 = .ok (.ifnull 14, 3) := by decide +kernel
theorem dX7_keptIn_26 : decode cX7_keptIn 26 = .ok (.aload_n 2, 1) := by decide +kernel
theorem dX7_keptIn_27 : decode cX7_keptIn 27 = .ok (.getfield 141, 3) := by decide +kernel
theorem dX7_keptIn_30 : decode cX7_keptIn 30 = .ok (.ifCond .le 7, 3) := by decide +kernel
theorem dX7_keptIn_33 : decode cX7_keptIn 33 = .ok (.aload_n 2, 1) := by decide +kernel
theorem dX7_keptIn_34 : decode cX7_keptIn 34 = .ok (.goto 4, 3) := by decide +kernel
theorem dX7_keptIn_37 : decode cX7_keptIn 37 = .ok (.aconst_null, 1) := by decide +kernel
theorem dX7_keptIn_38 : decode cX7_keptIn 38 = .ok (.areturn, 1) := by decide +kernel
theorem dX7_forgetKept_0 : decode cX7_forgetKept 0 = .ok (.aload_n 0, 1) := by decide +kernel
theorem dX7_forgetKept_1 : decode cX7_forgetKept 1 = .ok (.iload_n 1, 1) := by decide +kernel
theorem dX7_forgetKept_2 : decode cX7_forgetKept 2 = .ok (.invokevirtual 171, 3) := by decide +kernel
theorem dX7_forgetKept_5 : decode cX7_forgetKept 5 = .ok (.astore_n 2, 1) := by decide +kernel
theorem dX7_forgetKept_6 : decode cX7_forgetKept 6 = .ok (.aload_n 2, 1) := by decide +kernel
theorem dX7_forgetKept_7 : decode cX7_forgetKept 7 = .ok (.ifnull 7, 3) := by decide +kernel
theorem dX7_forgetKept_10 : decode cX7_forgetKept 10 = .ok (.aload_n 2, 1) := by decide +kernel
theorem dX7_forgetKept_11 : decode cX7_forgetKept 11 = .ok (.invokevirtual 346, 3) := by decide +kernel
theorem dX7_forgetKept_14 : decode cX7_forgetKept 14 = .ok (.return_, 1) := by decide +kernel
theorem dX7_keptCourts_0 : decode cX7_keptCourts 0 = .ok (.iconst 0, 1) := by decide +kernel
theorem dX7_keptCourts_1 : decode cX7_keptCourts 1 = .ok (.istore_n 1, 1) := by decide +kernel
theorem dX7_keptCourts_2 : decode cX7_keptCourts 2 = .ok (.iconst 0, 1) := by decide +kernel
theorem dX7_keptCourts_3 : decode cX7_keptCourts 3 = .ok (.istore_n 2, 1) := by decide +kernel
theorem dX7_keptCourts_4 : decode cX7_keptCourts 4 = .ok (.iload_n 2, 1) := by decide +kernel
theorem dX7_keptCourts_5 : decode cX7_keptCourts 5 = .ok (.iconst 3, 1) := by decide +kernel
theorem dX7_keptCourts_6 : decode cX7_keptCourts 6 = .ok (.if_icmp .ge 20, 3) := by decide +kernel
theorem dX7_keptCourts_9 : decode cX7_keptCourts 9 = .ok (.aload_n 0, 1) := by decide +kernel
theorem dX7_keptCourts_10 : decode cX7_keptCourts 10 = .ok (.iload_n 2, 1) := by decide +kernel
theorem dX7_keptCourts_11 : decode cX7_keptCourts 11 = .ok (.invokevirtual 171, 3) := by decide +kernel
theorem dX7_keptCourts_14 : decode cX7_keptCourts 14 = .ok (.ifnull 6, 3) := by decide +kernel
theorem dX7_keptCourts_17 : decode cX7_keptCourts 17 = .ok (.iinc 1 1, 3) := by decide +kernel
theorem dX7_keptCourts_20 : decode cX7_keptCourts 20 = .ok (.iinc 2 1, 3) := by decide +kernel
theorem dX7_keptCourts_23 : decode cX7_keptCourts 23 = .ok (.goto (-19), 3) := by decide +kernel
theorem dX7_keptCourts_26 : decode cX7_keptCourts 26 = .ok (.iload_n 1, 1) := by decide +kernel
theorem dX7_keptCourts_27 : decode cX7_keptCourts 27 = .ok (.ireturn, 1) := by decide +kernel
theorem dX7_shownByAll_0 : decode cX7_shownByAll 0 = .ok (.aload_n 0, 1) := by decide +kernel
theorem dX7_shownByAll_1 : decode cX7_shownByAll 1 = .ok (.getfield 52, 3) := by decide +kernel
theorem dX7_shownByAll_4 : decode cX7_shownByAll 4 = .ok (.aload_n 0, 1) := by decide +kernel
theorem dX7_shownByAll_5 : decode cX7_shownByAll 5 = .ok (.getfield 24, 3) := by decide +kernel
theorem dX7_shownByAll_8 : decode cX7_shownByAll 8 = .ok (.invokevirtual 184, 3) := by decide +kernel
theorem dX7_shownByAll_11 : decode cX7_shownByAll 11 = .ok (.aload_n 0, 1) := by decide +kernel
theorem dX7_shownByAll_12 : decode cX7_shownByAll 12 = .ok (.getfield 52, 3) := by decide +kernel
theorem dX7_shownByAll_15 : decode cX7_shownByAll 15 = .ok (.aload_n 0, 1) := by decide +kernel
theorem dX7_shownByAll_16 : decode cX7_shownByAll 16 = .ok (.getfield 24, 3) := by decide +kernel
theorem dX7_shownByAll_19 : decode cX7_shownByAll 19 = .ok (.invokevirtual 193, 3) := by decide +kernel
theorem dX7_shownByAll_22 : decode cX7_shownByAll 22 = .ok (.invokevirtual 190, 3) := by decide +kernel
theorem dX7_shownByAll_25 : decode cX7_shownByAll 25 = .ok (.ireturn, 1) := by decide +kernel
theorem dX7_readLooks_0 : decode cX7_readLooks 0 = .ok (.aload_n 0, 1) := by decide +kernel
theorem dX7_readLooks_1 : decode cX7_readLooks 1 = .ok (.getfield 14, 3) := by decide +kernel
theorem dX7_readLooks_4 : decode cX7_readLooks 4 = .ok (.iload_n 1, 1) := by decide +kernel
theorem dX7_readLooks_5 : decode cX7_readLooks 5 = .ok (.invokevirtual 86, 3) := by decide +kernel
theorem dX7_readLooks_8 : decode cX7_readLooks 8 = .ok (.ifCond .ne 5, 3) := by decide +kernel
theorem dX7_readLooks_11 : decode cX7_readLooks 11 = .ok (.iconst (-1), 1) := by decide +kernel
theorem dX7_readLooks_12 : decode cX7_readLooks 12 = .ok (.ireturn, 1) := by decide +kernel
theorem dX7_readLooks_13 : decode cX7_readLooks 13 = .ok (.aload_n 0, 1) := by decide +kernel
theorem dX7_readLooks_14 : decode cX7_readLooks 14 = .ok (.getfield 24, 3) := by decide +kernel
theorem dX7_readLooks_17 : decode cX7_readLooks 17 = .ok (.getfield 141, 3) := by decide +kernel
theorem dX7_readLooks_20 : decode cX7_readLooks 20 = .ok (.ifCond .ne 6, 3) := by decide +kernel
theorem dX7_readLooks_23 : decode cX7_readLooks 23 = .ok (.bipush (-4), 2) := by decide +kernel
theorem dX7_readLooks_25 : decode cX7_readLooks 25 = .ok (.ireturn, 1) := by decide +kernel
theorem dX7_readLooks_26 : decode cX7_readLooks 26 = .ok (.aload_n 0, 1) := by decide +kernel
theorem dX7_readLooks_27 : decode cX7_readLooks 27 = .ok (.getfield 45, 3) := by decide +kernel
theorem dX7_readLooks_30 : decode cX7_readLooks 30 = .ok (.aload_n 0, 1) := by decide +kernel
theorem dX7_readLooks_31 : decode cX7_readLooks 31 = .ok (.getfield 14, 3) := by decide +kernel
theorem dX7_readLooks_34 : decode cX7_readLooks 34 = .ok (.iload_n 1, 1) := by decide +kernel
theorem dX7_readLooks_35 : decode cX7_readLooks 35 = .ok (.aload_n 0, 1) := by decide +kernel
theorem dX7_readLooks_36 : decode cX7_readLooks 36 = .ok (.getfield 24, 3) := by decide +kernel
theorem dX7_readLooks_39 : decode cX7_readLooks 39 = .ok (.getfield 141, 3) := by decide +kernel
theorem dX7_readLooks_42 : decode cX7_readLooks 42 = .ok (.invokevirtual 349, 3) := by decide +kernel
theorem dX7_readLooks_45 : decode cX7_readLooks 45 = .ok (.istore_n 2, 1) := by decide +kernel
theorem dX7_readLooks_46 : decode cX7_readLooks 46 = .ok (.iload_n 2, 1) := by decide +kernel
theorem dX7_readLooks_47 : decode cX7_readLooks 47 = .ok (.ifCond .ne 7, 3) := by decide +kernel
theorem dX7_readLooks_50 : decode cX7_readLooks 50 = .ok (.iconst 0, 1) := by decide +kernel
theorem dX7_readLooks_51 : decode cX7_readLooks 51 = .ok (.goto 8, 3) := by decide +kernel
theorem dX7_readLooks_54 : decode cX7_readLooks 54 = .ok (.aload_n 0, 1) := by decide +kernel
theorem dX7_readLooks_55 : decode cX7_readLooks 55 = .ok (.iload_n 2, 1) := by decide +kernel
theorem dX7_readLooks_56 : decode cX7_readLooks 56 = .ok (.invokevirtual 90, 3) := by decide +kernel
theorem dX7_readLooks_59 : decode cX7_readLooks 59 = .ok (.ireturn, 1) := by decide +kernel
theorem dX7_greatestPart_0 : decode cX7_greatestPart 0 = .ok (.lload_n 3, 1) := by decide +kernel
theorem dX7_greatestPart_1 : decode cX7_greatestPart 1 = .ok (.invokestatic 238, 3) := by decide +kernel
theorem dX7_greatestPart_4 : decode cX7_greatestPart 4 = .ok (.istore 5, 2) := by decide +kernel
theorem dX7_greatestPart_6 : decode cX7_greatestPart 6 = .ok (.lload_n 3, 1) := by decide +kernel
theorem dX7_greatestPart_7 : decode cX7_greatestPart 7 = .ok (.iload_n 2, 1) := by decide +kernel
theorem dX7_greatestPart_8 : decode cX7_greatestPart 8 = .ok (.invokestatic 246, 3) := by decide +kernel
theorem dX7_greatestPart_11 : decode cX7_greatestPart 11 = .ok (.land, 1) := by decide +kernel
theorem dX7_greatestPart_12 : decode cX7_greatestPart 12 = .ok (.invokestatic 238, 3) := by decide +kernel
theorem dX7_greatestPart_15 : decode cX7_greatestPart 15 = .ok (.istore 6, 2) := by decide +kernel
theorem dX7_greatestPart_17 : decode cX7_greatestPart 17 = .ok (.aload_n 0, 1) := by decide +kernel
theorem dX7_greatestPart_18 : decode cX7_greatestPart 18 = .ok (.getfield 24, 3) := by decide +kernel
theorem dX7_greatestPart_21 : decode cX7_greatestPart 21 = .ok (.iload_n 1, 1) := by decide +kernel
theorem dX7_greatestPart_22 : decode cX7_greatestPart 22 = .ok (.aload_n 0, 1) := by decide +kernel
theorem dX7_greatestPart_23 : decode cX7_greatestPart 23 = .ok (.getfield 24, 3) := by decide +kernel
theorem dX7_greatestPart_26 : decode cX7_greatestPart 26 = .ok (.getfield 150, 3) := by decide +kernel
theorem dX7_greatestPart_29 : decode cX7_greatestPart 29 = .ok (.iload_n 1, 1) := by decide +kernel
theorem dX7_greatestPart_30 : decode cX7_greatestPart 30 = .ok (.invokevirtual 153, 3) := by decide +kernel
theorem dX7_greatestPart_33 : decode cX7_greatestPart 33 = .ok (.iload_n 2, 1) := by decide +kernel
theorem dX7_greatestPart_34 : decode cX7_greatestPart 34 = .ok (.iconst 0, 1) := by decide +kernel
theorem dX7_greatestPart_35 : decode cX7_greatestPart 35 = .ok (.invokevirtual 352, 3) := by decide +kernel
theorem dX7_greatestPart_38 : decode cX7_greatestPart 38 = .ok (.aload_n 0, 1) := by decide +kernel
theorem dX7_greatestPart_39 : decode cX7_greatestPart 39 = .ok (.getfield 24, 3) := by decide +kernel
theorem dX7_greatestPart_42 : decode cX7_greatestPart 42 = .ok (.iload_n 1, 1) := by decide +kernel
theorem dX7_greatestPart_43 : decode cX7_greatestPart 43 = .ok (.aload_n 0, 1) := by decide +kernel
theorem dX7_greatestPart_44 : decode cX7_greatestPart 44 = .ok (.getfield 24, 3) := by decide +kernel
theorem dX7_greatestPart_47 : decode cX7_greatestPart 47 = .ok (.getfield 150, 3) := by decide +kernel
theorem dX7_greatestPart_50 : decode cX7_greatestPart 50 = .ok (.iload_n 1, 1) := by decide +kernel
theorem dX7_greatestPart_51 : decode cX7_greatestPart 51 = .ok (.invokevirtual 153, 3) := by decide +kernel
theorem dX7_greatestPart_54 : decode cX7_greatestPart 54 = .ok (.iload_n 2, 1) := by decide +kernel
theorem dX7_greatestPart_55 : decode cX7_greatestPart 55 = .ok (.bipush 63, 2) := by decide +kernel
theorem dX7_greatestPart_57 : decode cX7_greatestPart 57 = .ok (.invokevirtual 352, 3) := by decide +kernel
theorem dX7_greatestPart_60 : decode cX7_greatestPart 60 = .ok (.if_icmp .ne 7, 3) := by decide +kernel
theorem dX7_greatestPart_63 : decode cX7_greatestPart 63 = .ok (.iconst 1, 1) := by decide +kernel
theorem dX7_greatestPart_64 : decode cX7_greatestPart 64 = .ok (.goto 4, 3) := by decide +kernel
theorem dX7_greatestPart_67 : decode cX7_greatestPart 67 = .ok (.iconst 0, 1) := by decide +kernel
theorem dX7_greatestPart_68 : decode cX7_greatestPart 68 = .ok (.istore 7, 2) := by decide +kernel
theorem dX7_greatestPart_70 : decode cX7_greatestPart 70 = .ok (.iload 7, 2) := by decide +kernel
theorem dX7_greatestPart_72 : decode cX7_greatestPart 72 = .ok (.ifCond .eq 8, 3) := by decide +kernel
theorem dX7_greatestPart_75 : decode cX7_greatestPart 75 = .ok (.iload 5, 2) := by decide +kernel
theorem dX7_greatestPart_77 : decode cX7_greatestPart 77 = .ok (.goto 13, 3) := by decide +kernel
theorem dX7_greatestPart_80 : decode cX7_greatestPart 80 = .ok (.iload 6, 2) := by decide +kernel
theorem dX7_greatestPart_82 : decode cX7_greatestPart 82 = .ok (.iload 5, 2) := by decide +kernel
theorem dX7_greatestPart_84 : decode cX7_greatestPart 84 = .ok (.iload 6, 2) := by decide +kernel
theorem dX7_greatestPart_86 : decode cX7_greatestPart 86 = .ok (.isub, 1) := by decide +kernel
theorem dX7_greatestPart_87 : decode cX7_greatestPart 87 = .ok (.invokestatic 356, 3) := by decide +kernel
theorem dX7_greatestPart_90 : decode cX7_greatestPart 90 = .ok (.ireturn, 1) := by decide +kernel
theorem dX7_leastOf_0 : decode cX7_leastOf 0 = .ok (.lload_n 0, 1) := by decide +kernel
theorem dX7_leastOf_1 : decode cX7_leastOf 1 = .ok (.lconst 0, 1) := by decide +kernel
theorem dX7_leastOf_2 : decode cX7_leastOf 2 = .ok (.lcmp, 1) := by decide +kernel
theorem dX7_leastOf_3 : decode cX7_leastOf 3 = .ok (.ifCond .ne 6, 3) := by decide +kernel
theorem dX7_leastOf_6 : decode cX7_leastOf 6 = .ok (.bipush (-9), 2) := by decide +kernel
theorem dX7_leastOf_8 : decode cX7_leastOf 8 = .ok (.ireturn, 1) := by decide +kernel
theorem dX7_leastOf_9 : decode cX7_leastOf 9 = .ok (.lload_n 0, 1) := by decide +kernel
theorem dX7_leastOf_10 : decode cX7_leastOf 10 = .ok (.lload_n 0, 1) := by decide +kernel
theorem dX7_leastOf_11 : decode cX7_leastOf 11 = .ok (.lneg, 1) := by decide +kernel
theorem dX7_leastOf_12 : decode cX7_leastOf 12 = .ok (.land, 1) := by decide +kernel
theorem dX7_leastOf_13 : decode cX7_leastOf 13 = .ok (.lconst 1, 1) := by decide +kernel
theorem dX7_leastOf_14 : decode cX7_leastOf 14 = .ok (.lsub, 1) := by decide +kernel
theorem dX7_leastOf_15 : decode cX7_leastOf 15 = .ok (.invokestatic 238, 3) := by decide +kernel
theorem dX7_leastOf_18 : decode cX7_leastOf 18 = .ok (.ireturn, 1) := by decide +kernel
theorem dX7_isFewer_0 : decode cX7_isFewer 0 = .ok (.iload_n 1, 1) := by decide +kernel
theorem dX7_isFewer_1 : decode cX7_isFewer 1 = .ok (.bipush (-9), 2) := by decide +kernel
theorem dX7_isFewer_3 : decode cX7_isFewer 3 = .ok (.if_icmp .eq 14, 3) := by decide +kernel
theorem dX7_isFewer_6 : decode cX7_isFewer 6 = .ok (.iload_n 0, 1) := by decide +kernel
theorem dX7_isFewer_7 : decode cX7_isFewer 7 = .ok (.invokestatic 197, 3) := by decide +kernel
theorem dX7_isFewer_10 : decode cX7_isFewer 10 = .ok (.iload_n 1, 1) := by decide +kernel
theorem dX7_isFewer_11 : decode cX7_isFewer 11 = .ok (.invokestatic 197, 3) := by decide +kernel
theorem dX7_isFewer_14 : decode cX7_isFewer 14 = .ok (.if_icmp .ge 7, 3) := by decide +kernel
theorem dX7_isFewer_17 : decode cX7_isFewer 17 = .ok (.iconst 1, 1) := by decide +kernel
theorem dX7_isFewer_18 : decode cX7_isFewer 18 = .ok (.goto 4, 3) := by decide +kernel
theorem dX7_isFewer_21 : decode cX7_isFewer 21 = .ok (.iconst 0, 1) := by decide +kernel
theorem dX7_isFewer_22 : decode cX7_isFewer 22 = .ok (.ireturn, 1) := by decide +kernel
theorem dX7_isThing_0 : decode cX7_isThing 0 = .ok (.iload_n 0, 1) := by decide +kernel
theorem dX7_isThing_1 : decode cX7_isThing 1 = .ok (.ifCond .lt 13, 3) := by decide +kernel
theorem dX7_isThing_4 : decode cX7_isThing 4 = .ok (.iload_n 0, 1) := by decide +kernel
theorem dX7_isThing_5 : decode cX7_isThing 5 = .ok (.bipush 6, 2) := by decide +kernel
theorem dX7_isThing_7 : decode cX7_isThing 7 = .ok (.if_icmp .ge 7, 3) := by decide +kernel
theorem dX7_isThing_10 : decode cX7_isThing 10 = .ok (.iconst 1, 1) := by decide +kernel
theorem dX7_isThing_11 : decode cX7_isThing 11 = .ok (.goto 4, 3) := by decide +kernel
theorem dX7_isThing_14 : decode cX7_isThing 14 = .ok (.iconst 0, 1) := by decide +kernel
theorem dX7_isThing_15 : decode cX7_isThing 15 = .ok (.ireturn, 1) := by decide +kernel
theorem dX7_isChance_0 : decode cX7_isChance 0 = .ok (.iload_n 0, 1) := by decide +kernel
theorem dX7_isChance_1 : decode cX7_isChance 1 = .ok (.ifCond .lt 13, 3) := by decide +kernel
theorem dX7_isChance_4 : decode cX7_isChance 4 = .ok (.iload_n 0, 1) := by decide +kernel
theorem dX7_isChance_5 : decode cX7_isChance 5 = .ok (.bipush 12, 2) := by decide +kernel
theorem dX7_isChance_7 : decode cX7_isChance 7 = .ok (.if_icmp .gt 7, 3) := by decide +kernel
theorem dX7_isChance_10 : decode cX7_isChance 10 = .ok (.iconst 1, 1) := by decide +kernel
theorem dX7_isChance_11 : decode cX7_isChance 11 = .ok (.goto 4, 3) := by decide +kernel
theorem dX7_isChance_14 : decode cX7_isChance 14 = .ok (.iconst 0, 1) := by decide +kernel
theorem dX7_isChance_15 : decode cX7_isChance 15 = .ok (.ireturn, 1) := by decide +kernel
theorem dX7_isIn_0 : decode cX7_isIn 0 = .ok (.iload_n 0, 1) := by decide +kernel
theorem dX7_isIn_1 : decode cX7_isIn 1 = .ok (.iload_n 1, 1) := by decide +kernel
theorem dX7_isIn_2 : decode cX7_isIn 2 = .ok (.ishr, 1) := by decide +kernel
theorem dX7_isIn_3 : decode cX7_isIn 3 = .ok (.iconst 1, 1) := by decide +kernel
theorem dX7_isIn_4 : decode cX7_isIn 4 = .ok (.iand, 1) := by decide +kernel
theorem dX7_isIn_5 : decode cX7_isIn 5 = .ok (.iconst 1, 1) := by decide +kernel
theorem dX7_isIn_6 : decode cX7_isIn 6 = .ok (.if_icmp .ne 7, 3) := by decide +kernel
theorem dX7_isIn_9 : decode cX7_isIn 9 = .ok (.iconst 1, 1) := by decide +kernel
theorem dX7_isIn_10 : decode cX7_isIn 10 = .ok (.goto 4, 3) := by decide +kernel
theorem dX7_isIn_13 : decode cX7_isIn 13 = .ok (.iconst 0, 1) := by decide +kernel
theorem dX7_isIn_14 : decode cX7_isIn 14 = .ok (.ireturn, 1) := by decide +kernel
theorem dX7_isOfKind_0 : decode cX7_isOfKind 0 = .ok (.iload_n 0, 1) := by decide +kernel
theorem dX7_isOfKind_1 : decode cX7_isOfKind 1 = .ok (.iload_n 1, 1) := by decide +kernel
theorem dX7_isOfKind_2 : decode cX7_isOfKind 2 = .ok (.if_icmp .eq 7, 3) := by decide +kernel
theorem dX7_isOfKind_5 : decode cX7_isOfKind 5 = .ok (.iload_n 1, 1) := by decide +kernel
theorem dX7_isOfKind_6 : decode cX7_isOfKind 6 = .ok (.ifCond .ne 5, 3) := by decide +kernel
theorem dX7_isOfKind_9 : decode cX7_isOfKind 9 = .ok (.iconst 1, 1) := by decide +kernel
theorem dX7_isOfKind_10 : decode cX7_isOfKind 10 = .ok (.ireturn, 1) := by decide +kernel
theorem dX7_isOfKind_11 : decode cX7_isOfKind 11 = .ok (.iload_n 1, 1) := by decide +kernel
theorem dX7_isOfKind_12 : decode cX7_isOfKind 12 = .ok (.iconst 1, 1) := by decide +kernel
theorem dX7_isOfKind_13 : decode cX7_isOfKind 13 = .ok (.if_icmp .ne 8, 3) := by decide +kernel
theorem dX7_isOfKind_16 : decode cX7_isOfKind 16 = .ok (.iload_n 0, 1) := by decide +kernel
theorem dX7_isOfKind_17 : decode cX7_isOfKind 17 = .ok (.iconst 4, 1) := by decide +kernel
theorem dX7_isOfKind_18 : decode cX7_isOfKind 18 = .ok (.if_icmp .eq 13, 3) := by decide +kernel
theorem dX7_isOfKind_21 : decode cX7_isOfKind 21 = .ok (.iload_n 1, 1) := by decide +kernel
theorem dX7_isOfKind_22 : decode cX7_isOfKind 22 = .ok (.iconst 3, 1) := by decide +kernel
theorem dX7_isOfKind_23 : decode cX7_isOfKind 23 = .ok (.if_icmp .ne 12, 3) := by decide +kernel
theorem dX7_isOfKind_26 : decode cX7_isOfKind 26 = .ok (.iload_n 0, 1) := by decide +kernel
theorem dX7_isOfKind_27 : decode cX7_isOfKind 27 = .ok (.iconst 5, 1) := by decide +kernel
theorem dX7_isOfKind_28 : decode cX7_isOfKind 28 = .ok (.if_icmp .ne 7, 3) := by decide +kernel
theorem dX7_isOfKind_31 : decode cX7_isOfKind 31 = .ok (.iconst 1, 1) := by decide +kernel
theorem dX7_isOfKind_32 : decode cX7_isOfKind 32 = .ok (.goto 4, 3) := by decide +kernel
theorem dX7_isOfKind_35 : decode cX7_isOfKind 35 = .ok (.iconst 0, 1) := by decide +kernel
theorem dX7_isOfKind_36 : decode cX7_isOfKind 36 = .ok (.ireturn, 1) := by decide +kernel
theorem dX7_weightOf_0 : decode cX7_weightOf 0 = .ok (.lconst 1, 1) := by decide +kernel
theorem dX7_weightOf_1 : decode cX7_weightOf 1 = .ok (.lstore_n 3, 1) := by decide +kernel
theorem dX7_weightOf_2 : decode cX7_weightOf 2 = .ok (.iconst 0, 1) := by decide +kernel
theorem dX7_weightOf_3 : decode cX7_weightOf 3 = .ok (.istore 5, 2) := by decide +kernel
theorem dX7_weightOf_5 : decode cX7_weightOf 5 = .ok (.iload 5, 2) := by decide +kernel
theorem dX7_weightOf_7 : decode cX7_weightOf 7 = .ok (.aload_n 0, 1) := by decide +kernel
theorem dX7_weightOf_8 : decode cX7_weightOf 8 = .ok (.getfield 24, 3) := by decide +kernel
theorem dX7_weightOf_11 : decode cX7_weightOf 11 = .ok (.getfield 141, 3) := by decide +kernel
theorem dX7_weightOf_14 : decode cX7_weightOf 14 = .ok (.if_icmp .ge 31, 3) := by decide +kernel
theorem dX7_weightOf_17 : decode cX7_weightOf 17 = .ok (.lload_n 3, 1) := by decide +kernel
theorem dX7_weightOf_18 : decode cX7_weightOf 18 = .ok (.iload_n 1, 1) := by decide +kernel
theorem dX7_weightOf_19 : decode cX7_weightOf 19 = .ok (.iload 5, 2) := by decide +kernel
theorem dX7_weightOf_21 : decode cX7_weightOf 21 = .ok (.invokestatic 202, 3) := by decide +kernel
theorem dX7_weightOf_24 : decode cX7_weightOf 24 = .ok (.ifCond .eq 11, 3) := by decide +kernel
theorem dX7_weightOf_27 : decode cX7_weightOf 27 = .ok (.bipush 12, 2) := by decide +kernel
theorem dX7_weightOf_29 : decode cX7_weightOf 29 = .ok (.iload_n 2, 1) := by decide +kernel
theorem dX7_weightOf_30 : decode cX7_weightOf 30 = .ok (.isub, 1) := by decide +kernel
theorem dX7_weightOf_31 : decode cX7_weightOf 31 = .ok (.i2l, 1) := by decide +kernel
theorem dX7_weightOf_32 : decode cX7_weightOf 32 = .ok (.goto 5, 3) := by decide +kernel
theorem dX7_weightOf_35 : decode cX7_weightOf 35 = .ok (.iload_n 2, 1) := by decide +kernel
theorem dX7_weightOf_36 : decode cX7_weightOf 36 = .ok (.i2l, 1) := by decide +kernel
theorem dX7_weightOf_37 : decode cX7_weightOf 37 = .ok (.lmul, 1) := by decide +kernel
theorem dX7_weightOf_38 : decode cX7_weightOf 38 = .ok (.lstore_n 3, 1) := by decide +kernel
theorem dX7_weightOf_39 : decode cX7_weightOf 39 = .ok (.iinc 5 1, 3) := by decide +kernel
theorem dX7_weightOf_42 : decode cX7_weightOf 42 = .ok (.goto (-37), 3) := by decide +kernel
theorem dX7_weightOf_45 : decode cX7_weightOf 45 = .ok (.lload_n 3, 1) := by decide +kernel
theorem dX7_weightOf_46 : decode cX7_weightOf 46 = .ok (.lreturn, 1) := by decide +kernel
theorem dX7_allWeight_0 : decode cX7_allWeight 0 = .ok (.lconst 1, 1) := by decide +kernel
theorem dX7_allWeight_1 : decode cX7_allWeight 1 = .ok (.lstore_n 1, 1) := by decide +kernel
theorem dX7_allWeight_2 : decode cX7_allWeight 2 = .ok (.iconst 0, 1) := by decide +kernel
theorem dX7_allWeight_3 : decode cX7_allWeight 3 = .ok (.istore_n 3, 1) := by decide +kernel
theorem dX7_allWeight_4 : decode cX7_allWeight 4 = .ok (.iload_n 3, 1) := by decide +kernel
theorem dX7_allWeight_5 : decode cX7_allWeight 5 = .ok (.aload_n 0, 1) := by decide +kernel
theorem dX7_allWeight_6 : decode cX7_allWeight 6 = .ok (.getfield 24, 3) := by decide +kernel
theorem dX7_allWeight_9 : decode cX7_allWeight 9 = .ok (.getfield 141, 3) := by decide +kernel
theorem dX7_allWeight_12 : decode cX7_allWeight 12 = .ok (.if_icmp .ge 15, 3) := by decide +kernel
theorem dX7_allWeight_15 : decode cX7_allWeight 15 = .ok (.lload_n 1, 1) := by decide +kernel
theorem dX7_allWeight_16 : decode cX7_allWeight 16 = .ok (.ldc2_w 361, 3) := by decide +kernel
theorem dX7_allWeight_19 : decode cX7_allWeight 19 = .ok (.lmul, 1) := by decide +kernel
theorem dX7_allWeight_20 : decode cX7_allWeight 20 = .ok (.lstore_n 1, 1) := by decide +kernel
theorem dX7_allWeight_21 : decode cX7_allWeight 21 = .ok (.iinc 3 1, 3) := by decide +kernel
theorem dX7_allWeight_24 : decode cX7_allWeight 24 = .ok (.goto (-20), 3) := by decide +kernel
theorem dX7_allWeight_27 : decode cX7_allWeight 27 = .ok (.lload_n 1, 1) := by decide +kernel
theorem dX7_allWeight_28 : decode cX7_allWeight 28 = .ok (.lreturn, 1) := by decide +kernel
theorem dX7_tellPart_0 : decode cX7_tellPart 0 = .ok (.lload_n 1, 1) := by decide +kernel
theorem dX7_tellPart_1 : decode cX7_tellPart 1 = .ok (.lload_n 3, 1) := by decide +kernel
theorem dX7_tellPart_2 : decode cX7_tellPart 2 = .ok (.invokestatic 363, 3) := by decide +kernel
theorem dX7_tellPart_5 : decode cX7_tellPart 5 = .ok (.lstore 5, 2) := by decide +kernel
theorem dX7_tellPart_7 : decode cX7_tellPart 7 = .ok (.lload 5, 2) := by decide +kernel
theorem dX7_tellPart_9 : decode cX7_tellPart 9 = .ok (.lconst 0, 1) := by decide +kernel
theorem dX7_tellPart_10 : decode cX7_tellPart 10 = .ok (.lcmp, 1) := by decide +kernel
theorem dX7_tellPart_11 : decode cX7_tellPart 11 = .ok (.ifCond .gt 4, 3) := by decide +kernel
theorem dX7_tellPart_14 : decode cX7_tellPart 14 = .ok (.return_, 1) := by decide +kernel
theorem dX7_tellPart_15 : decode cX7_tellPart 15 = .ok (.aload_n 0, 1) := by decide +kernel
theorem dX7_tellPart_16 : decode cX7_tellPart 16 = .ok (.lload_n 1, 1) := by decide +kernel
theorem dX7_tellPart_17 : decode cX7_tellPart 17 = .ok (.lload 5, 2) := by decide +kernel
theorem dX7_tellPart_19 : decode cX7_tellPart 19 = .ok (.ldiv, 1) := by decide +kernel
theorem dX7_tellPart_20 : decode cX7_tellPart 20 = .ok (.putfield 79, 3) := by decide +kernel
theorem dX7_tellPart_23 : decode cX7_tellPart 23 = .ok (.aload_n 0, 1) := by decide +kernel
theorem dX7_tellPart_24 : decode cX7_tellPart 24 = .ok (.lload_n 3, 1) := by decide +kernel
theorem dX7_tellPart_25 : decode cX7_tellPart 25 = .ok (.lload 5, 2) := by decide +kernel
theorem dX7_tellPart_27 : decode cX7_tellPart 27 = .ok (.ldiv, 1) := by decide +kernel
theorem dX7_tellPart_28 : decode cX7_tellPart 28 = .ok (.putfield 83, 3) := by decide +kernel
theorem dX7_tellPart_31 : decode cX7_tellPart 31 = .ok (.return_, 1) := by decide +kernel
theorem dX7_commonDivisor_0 : decode cX7_commonDivisor 0 = .ok (.iconst 0, 1) := by decide +kernel
theorem dX7_commonDivisor_1 : decode cX7_commonDivisor 1 = .ok (.istore 4, 2) := by decide +kernel
theorem dX7_commonDivisor_3 : decode cX7_commonDivisor 3 = .ok (.iload 4, 2) := by decide +kernel
theorem dX7_commonDivisor_5 : decode cX7_commonDivisor 5 = .ok (.bipush 100, 2) := by decide +kernel
theorem dX7_commonDivisor_7 : decode cX7_commonDivisor 7 = .ok (.if_icmp .ge 25, 3) := by decide +kernel
theorem dX7_commonDivisor_10 : decode cX7_commonDivisor 10 = .ok (.lload_n 2, 1) := by decide +kernel
theorem dX7_commonDivisor_11 : decode cX7_commonDivisor 11 = .ok (.lconst 0, 1) := by decide +kernel
theorem dX7_commonDivisor_12 : decode cX7_commonDivisor 12 = .ok (.lcmp, 1) := by decide +kernel
theorem dX7_commonDivisor_13 : decode cX7_commonDivisor 13 = .ok (.ifCond .eq 19, 3) := by decide +kernel
theorem dX7_commonDivisor_16 : decode cX7_commonDivisor 16 = .ok (.lload_n 0, 1) := by decide +kernel
theorem dX7_commonDivisor_17 : decode cX7_commonDivisor 17 = .ok (.lload_n 2, 1) := by decide +kernel
theorem dX7_commonDivisor_18 : decode cX7_commonDivisor 18 = .ok (.lrem, 1) := by decide +kernel
theorem dX7_commonDivisor_19 : decode cX7_commonDivisor 19 = .ok (.lstore 5, 2) := by decide +kernel
theorem dX7_commonDivisor_21 : decode cX7_commonDivisor 21 = .ok (.lload_n 2, 1) := by decide +kernel
theorem dX7_commonDivisor_22 : decode cX7_commonDivisor 22 = .ok (.lstore_n 0, 1) := by decide +kernel
theorem dX7_commonDivisor_23 : decode cX7_commonDivisor 23 = .ok (.lload 5, 2) := by decide +kernel
theorem dX7_commonDivisor_25 : decode cX7_commonDivisor 25 = .ok (.lstore_n 2, 1) := by decide +kernel
theorem dX7_commonDivisor_26 : decode cX7_commonDivisor 26 = .ok (.iinc 4 1, 3) := by decide +kernel
theorem dX7_commonDivisor_29 : decode cX7_commonDivisor 29 = .ok (.goto (-26), 3) := by decide +kernel
theorem dX7_commonDivisor_32 : decode cX7_commonDivisor 32 = .ok (.lload_n 0, 1) := by decide +kernel
theorem dX7_commonDivisor_33 : decode cX7_commonDivisor 33 = .ok (.lreturn, 1) := by decide +kernel
