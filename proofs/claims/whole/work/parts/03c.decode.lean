/-! decode rows -/
theorem dX8_init_0 : decode cX8_init 0 = .ok (.aload_n 0, 1) := by decide +kernel
theorem dX8_init_1 : decode cX8_init 1 = .ok (.invokespecial 1, 3) := by decide +kernel
theorem dX8_init_4 : decode cX8_init 4 = .ok (.aload_n 0, 1) := by decide +kernel
theorem dX8_init_5 : decode cX8_init 5 = .ok (.bipush 80, 2) := by decide +kernel
theorem dX8_init_7 : decode cX8_init 7 = .ok (.newarray .int, 2) := by decide +kernel
theorem dX8_init_9 : decode cX8_init 9 = .ok (.putfield 7, 3) := by decide +kernel
theorem dX8_init_12 : decode cX8_init 12 = .ok (.aload_n 0, 1) := by decide +kernel
theorem dX8_init_13 : decode cX8_init 13 = .ok (.sipush 240, 3) := by decide +kernel
theorem dX8_init_16 : decode cX8_init 16 = .ok (.newarray .int, 2) := by decide +kernel
theorem dX8_init_18 : decode cX8_init 18 = .ok (.putfield 13, 3) := by decide +kernel
theorem dX8_init_21 : decode cX8_init 21 = .ok (.aload_n 0, 1) := by decide +kernel
theorem dX8_init_22 : decode cX8_init 22 = .ok (.iconst 3, 1) := by decide +kernel
theorem dX8_init_23 : decode cX8_init 23 = .ok (.newarray .boolean, 2) := by decide +kernel
theorem dX8_init_25 : decode cX8_init 25 = .ok (.putfield 16, 3) := by decide +kernel
theorem dX8_init_28 : decode cX8_init 28 = .ok (.aload_n 0, 1) := by decide +kernel
theorem dX8_init_29 : decode cX8_init 29 = .ok (.sipush 240, 3) := by decide +kernel
theorem dX8_init_32 : decode cX8_init 32 = .ok (.newarray .int, 2) := by decide +kernel
theorem dX8_init_34 : decode cX8_init 34 = .ok (.putfield 20, 3) := by decide +kernel
theorem dX8_init_37 : decode cX8_init 37 = .ok (.aload_n 0, 1) := by decide +kernel
theorem dX8_init_38 : decode cX8_init 38 = .ok (.bipush 6, 2) := by decide +kernel
theorem dX8_init_40 : decode cX8_init 40 = .ok (.newarray .int, 2) := by decide +kernel
theorem dX8_init_42 : decode cX8_init 42 = .ok (.putfield 23, 3) := by decide +kernel
theorem dX8_init_45 : decode cX8_init 45 = .ok (.aload_n 0, 1) := by decide +kernel
theorem dX8_init_46 : decode cX8_init 46 = .ok (.sipush 240, 3) := by decide +kernel
theorem dX8_init_49 : decode cX8_init 49 = .ok (.newarray .int, 2) := by decide +kernel
theorem dX8_init_51 : decode cX8_init 51 = .ok (.putfield 26, 3) := by decide +kernel
theorem dX8_init_54 : decode cX8_init 54 = .ok (.aload_n 0, 1) := by decide +kernel
theorem dX8_init_55 : decode cX8_init 55 = .ok (.iconst 4, 1) := by decide +kernel
theorem dX8_init_56 : decode cX8_init 56 = .ok (.newarray .int, 2) := by decide +kernel
theorem dX8_init_58 : decode cX8_init 58 = .ok (.putfield 29, 3) := by decide +kernel
theorem dX8_init_61 : decode cX8_init 61 = .ok (.aload_n 0, 1) := by decide +kernel
theorem dX8_init_62 : decode cX8_init 62 = .ok (.bipush 6, 2) := by decide +kernel
theorem dX8_init_64 : decode cX8_init 64 = .ok (.newarray .int, 2) := by decide +kernel
theorem dX8_init_66 : decode cX8_init 66 = .ok (.putfield 32, 3) := by decide +kernel
theorem dX8_init_69 : decode cX8_init 69 = .ok (.aload_n 0, 1) := by decide +kernel
theorem dX8_init_70 : decode cX8_init 70 = .ok (.lconst 1, 1) := by decide +kernel
theorem dX8_init_71 : decode cX8_init 71 = .ok (.putfield 35, 3) := by decide +kernel
theorem dX8_init_74 : decode cX8_init 74 = .ok (.aload_n 0, 1) := by decide +kernel
theorem dX8_init_75 : decode cX8_init 75 = .ok (.bipush 40, 2) := by decide +kernel
theorem dX8_init_77 : decode cX8_init 77 = .ok (.newarray .int, 2) := by decide +kernel
theorem dX8_init_79 : decode cX8_init 79 = .ok (.putfield 39, 3) := by decide +kernel
theorem dX8_init_82 : decode cX8_init 82 = .ok (.aload_n 0, 1) := by decide +kernel
theorem dX8_init_83 : decode cX8_init 83 = .ok (.bipush 80, 2) := by decide +kernel
theorem dX8_init_85 : decode cX8_init 85 = .ok (.newarray .int, 2) := by decide +kernel
theorem dX8_init_87 : decode cX8_init 87 = .ok (.putfield 42, 3) := by decide +kernel
theorem dX8_init_90 : decode cX8_init 90 = .ok (.aload_n 0, 1) := by decide +kernel
theorem dX8_init_91 : decode cX8_init 91 = .ok (.bipush 80, 2) := by decide +kernel
theorem dX8_init_93 : decode cX8_init 93 = .ok (.newarray .int, 2) := by decide +kernel
theorem dX8_init_95 : decode cX8_init 95 = .ok (.putfield 45, 3) := by decide +kernel
theorem dX8_init_98 : decode cX8_init 98 = .ok (.aload_n 0, 1) := by decide +kernel
theorem dX8_init_99 : decode cX8_init 99 = .ok (.iconst 4, 1) := by decide +kernel
theorem dX8_init_100 : decode cX8_init 100 = .ok (.newarray .int, 2) := by decide +kernel
theorem dX8_init_102 : decode cX8_init 102 = .ok (.putfield 48, 3) := by decide +kernel
theorem dX8_init_105 : decode cX8_init 105 = .ok (.aload_n 0, 1) := by decide +kernel
theorem dX8_init_106 : decode cX8_init 106 = .ok (.iconst 3, 1) := by decide +kernel
theorem dX8_init_107 : decode cX8_init 107 = .ok (.newarray .int, 2) := by decide +kernel
theorem dX8_init_109 : decode cX8_init 109 = .ok (.putfield 51, 3) := by decide +kernel
theorem dX8_init_112 : decode cX8_init 112 = .ok (.aload_n 0, 1) := by decide +kernel
theorem dX8_init_113 : decode cX8_init 113 = .ok (.iconst 4, 1) := by decide +kernel
theorem dX8_init_114 : decode cX8_init 114 = .ok (.newarray .int, 2) := by decide +kernel
theorem dX8_init_116 : decode cX8_init 116 = .ok (.putfield 54, 3) := by decide +kernel
theorem dX8_init_119 : decode cX8_init 119 = .ok (.aload_n 0, 1) := by decide +kernel
theorem dX8_init_120 : decode cX8_init 120 = .ok (.iconst 4, 1) := by decide +kernel
theorem dX8_init_121 : decode cX8_init 121 = .ok (.newarray .int, 2) := by decide +kernel
theorem dX8_init_123 : decode cX8_init 123 = .ok (.putfield 57, 3) := by decide +kernel
theorem dX8_init_126 : decode cX8_init 126 = .ok (.iconst 0, 1) := by decide +kernel
theorem dX8_init_127 : decode cX8_init 127 = .ok (.istore_n 1, 1) := by decide +kernel
theorem dX8_init_128 : decode cX8_init 128 = .ok (.iload_n 1, 1) := by decide +kernel
theorem dX8_init_129 : decode cX8_init 129 = .ok (.bipush 6, 2) := by decide +kernel
theorem dX8_init_131 : decode cX8_init 131 = .ok (.if_icmp .ge 16, 3) := by decide +kernel
theorem dX8_init_134 : decode cX8_init 134 = .ok (.aload_n 0, 1) := by decide +kernel
theorem dX8_init_135 : decode cX8_init 135 = .ok (.getfield 23, 3) := by decide +kernel
theorem dX8_init_138 : decode cX8_init 138 = .ok (.iload_n 1, 1) := by decide +kernel
theorem dX8_init_139 : decode cX8_init 139 = .ok (.iconst (-1), 1) := by decide +kernel
theorem dX8_init_140 : decode cX8_init 140 = .ok (.iastore, 1) := by decide +kernel
theorem dX8_init_141 : decode cX8_init 141 = .ok (.iinc 1 1, 3) := by decide +kernel
theorem dX8_init_144 : decode cX8_init 144 = .ok (.goto (-16), 3) := by decide +kernel
theorem dX8_init_147 : decode cX8_init 147 = .ok (.iconst 0, 1) := by decide +kernel
theorem dX8_init_148 : decode cX8_init 148 = .ok (.istore_n 1, 1) := by decide +kernel
theorem dX8_init_149 : decode cX8_init 149 = .ok (.iload_n 1, 1) := by decide +kernel
theorem dX8_init_150 : decode cX8_init 150 = .ok (.iconst 4, 1) := by decide +kernel
theorem dX8_init_151 : decode cX8_init 151 = .ok (.if_icmp .ge 16, 3) := by decide +kernel
theorem dX8_init_154 : decode cX8_init 154 = .ok (.aload_n 0, 1) := by decide +kernel
theorem dX8_init_155 : decode cX8_init 155 = .ok (.getfield 29, 3) := by decide +kernel
theorem dX8_init_158 : decode cX8_init 158 = .ok (.iload_n 1, 1) := by decide +kernel
theorem dX8_init_159 : decode cX8_init 159 = .ok (.iconst (-1), 1) := by decide +kernel
theorem dX8_init_160 : decode cX8_init 160 = .ok (.iastore, 1) := by decide +kernel
theorem dX8_init_161 : decode cX8_init 161 = .ok (.iinc 1 1, 3) := by decide +kernel
theorem dX8_init_164 : decode cX8_init 164 = .ok (.goto (-15), 3) := by decide +kernel
theorem dX8_init_167 : decode cX8_init 167 = .ok (.return_, 1) := by decide +kernel
theorem dX8_in_0 : decode cX8_in 0 = .ok (.lload_n 0, 1) := by decide +kernel
theorem dX8_in_1 : decode cX8_in 1 = .ok (.lload_n 2, 1) := by decide +kernel
theorem dX8_in_2 : decode cX8_in 2 = .ok (.lcmp, 1) := by decide +kernel
theorem dX8_in_3 : decode cX8_in 3 = .ok (.ifCond .lt 14, 3) := by decide +kernel
theorem dX8_in_6 : decode cX8_in 6 = .ok (.lload_n 0, 1) := by decide +kernel
theorem dX8_in_7 : decode cX8_in 7 = .ok (.lload 4, 2) := by decide +kernel
theorem dX8_in_9 : decode cX8_in 9 = .ok (.lcmp, 1) := by decide +kernel
theorem dX8_in_10 : decode cX8_in 10 = .ok (.ifCond .gt 7, 3) := by decide +kernel
theorem dX8_in_13 : decode cX8_in 13 = .ok (.iconst 1, 1) := by decide +kernel
theorem dX8_in_14 : decode cX8_in 14 = .ok (.goto 4, 3) := by decide +kernel
theorem dX8_in_17 : decode cX8_in 17 = .ok (.iconst 0, 1) := by decide +kernel
theorem dX8_in_18 : decode cX8_in 18 = .ok (.ireturn, 1) := by decide +kernel
theorem dX8_finds_0 : decode cX8_finds 0 = .ok (.aload_n 0, 1) := by decide +kernel
theorem dX8_finds_1 : decode cX8_finds 1 = .ok (.iload_n 1, 1) := by decide +kernel
theorem dX8_finds_2 : decode cX8_finds 2 = .ok (.putfield 60, 3) := by decide +kernel
theorem dX8_finds_5 : decode cX8_finds 5 = .ok (.aload_n 0, 1) := by decide +kernel
theorem dX8_finds_6 : decode cX8_finds 6 = .ok (.getfield 32, 3) := by decide +kernel
theorem dX8_finds_9 : decode cX8_finds 9 = .ok (.iload_n 1, 1) := by decide +kernel
theorem dX8_finds_10 : decode cX8_finds 10 = .ok (.dup2, 1) := by decide +kernel
theorem dX8_finds_11 : decode cX8_finds 11 = .ok (.iaload, 1) := by decide +kernel
theorem dX8_finds_12 : decode cX8_finds 12 = .ok (.iconst 1, 1) := by decide +kernel
theorem dX8_finds_13 : decode cX8_finds 13 = .ok (.iadd, 1) := by decide +kernel
theorem dX8_finds_14 : decode cX8_finds 14 = .ok (.iastore, 1) := by decide +kernel
theorem dX8_finds_15 : decode cX8_finds 15 = .ok (.bipush (-3), 2) := by decide +kernel
theorem dX8_finds_17 : decode cX8_finds 17 = .ok (.ireturn, 1) := by decide +kernel
theorem dX8_asks_0 : decode cX8_asks 0 = .ok (.aload_n 0, 1) := by decide +kernel
theorem dX8_asks_1 : decode cX8_asks 1 = .ok (.iload_n 1, 1) := by decide +kernel
theorem dX8_asks_2 : decode cX8_asks 2 = .ok (.putfield 64, 3) := by decide +kernel
theorem dX8_asks_5 : decode cX8_asks 5 = .ok (.iconst 1, 1) := by decide +kernel
theorem dX8_asks_6 : decode cX8_asks 6 = .ok (.ireturn, 1) := by decide +kernel
theorem dX8_isRow_0 : decode cX8_isRow 0 = .ok (.iload_n 0, 1) := by decide +kernel
theorem dX8_isRow_1 : decode cX8_isRow 1 = .ok (.i2l, 1) := by decide +kernel
theorem dX8_isRow_2 : decode cX8_isRow 2 = .ok (.lconst 0, 1) := by decide +kernel
theorem dX8_isRow_3 : decode cX8_isRow 3 = .ok (.ldc2_w 67, 3) := by decide +kernel
theorem dX8_isRow_6 : decode cX8_isRow 6 = .ok (.invokestatic 69, 3) := by decide +kernel
theorem dX8_isRow_9 : decode cX8_isRow 9 = .ok (.ireturn, 1) := by decide +kernel
theorem dX8_isText_0 : decode cX8_isText 0 = .ok (.iload_n 0, 1) := by decide +kernel
theorem dX8_isText_1 : decode cX8_isText 1 = .ok (.i2l, 1) := by decide +kernel
theorem dX8_isText_2 : decode cX8_isText 2 = .ok (.lconst 0, 1) := by decide +kernel
theorem dX8_isText_3 : decode cX8_isText 3 = .ok (.ldc2_w 73, 3) := by decide +kernel
theorem dX8_isText_6 : decode cX8_isText 6 = .ok (.invokestatic 69, 3) := by decide +kernel
theorem dX8_isText_9 : decode cX8_isText 9 = .ok (.ireturn, 1) := by decide +kernel
theorem dX8_row_0 : decode cX8_row 0 = .ok (.iload_n 1, 1) := by decide +kernel
theorem dX8_row_1 : decode cX8_row 1 = .ok (.invokestatic 75, 3) := by decide +kernel
theorem dX8_row_4 : decode cX8_row 4 = .ok (.ifCond .eq 9, 3) := by decide +kernel
theorem dX8_row_7 : decode cX8_row 7 = .ok (.iload_n 2, 1) := by decide +kernel
theorem dX8_row_8 : decode cX8_row 8 = .ok (.bipush 40, 2) := by decide +kernel
theorem dX8_row_10 : decode cX8_row 10 = .ok (.if_icmp .le 5, 3) := by decide +kernel
theorem dX8_row_13 : decode cX8_row 13 = .ok (.iconst (-1), 1) := by decide +kernel
theorem dX8_row_14 : decode cX8_row 14 = .ok (.ireturn, 1) := by decide +kernel
theorem dX8_row_15 : decode cX8_row 15 = .ok (.iload_n 2, 1) := by decide +kernel
theorem dX8_row_16 : decode cX8_row 16 = .ok (.ifCond .ge 9, 3) := by decide +kernel
theorem dX8_row_19 : decode cX8_row 19 = .ok (.aload_n 0, 1) := by decide +kernel
theorem dX8_row_20 : decode cX8_row 20 = .ok (.iconst 5, 1) := by decide +kernel
theorem dX8_row_21 : decode cX8_row 21 = .ok (.invokevirtual 79, 3) := by decide +kernel
theorem dX8_row_24 : decode cX8_row 24 = .ok (.ireturn, 1) := by decide +kernel
theorem dX8_row_25 : decode cX8_row 25 = .ok (.aload_n 0, 1) := by decide +kernel
theorem dX8_row_26 : decode cX8_row 26 = .ok (.getfield 23, 3) := by decide +kernel
theorem dX8_row_29 : decode cX8_row 29 = .ok (.iload_n 1, 1) := by decide +kernel
theorem dX8_row_30 : decode cX8_row 30 = .ok (.iload_n 2, 1) := by decide +kernel
theorem dX8_row_31 : decode cX8_row 31 = .ok (.iastore, 1) := by decide +kernel
theorem dX8_row_32 : decode cX8_row 32 = .ok (.iconst 0, 1) := by decide +kernel
theorem dX8_row_33 : decode cX8_row 33 = .ok (.istore_n 3, 1) := by decide +kernel
theorem dX8_row_34 : decode cX8_row 34 = .ok (.iload_n 3, 1) := by decide +kernel
theorem dX8_row_35 : decode cX8_row 35 = .ok (.iload_n 2, 1) := by decide +kernel
theorem dX8_row_36 : decode cX8_row 36 = .ok (.if_icmp .ge 21, 3) := by decide +kernel
theorem dX8_row_39 : decode cX8_row 39 = .ok (.aload_n 0, 1) := by decide +kernel
theorem dX8_row_40 : decode cX8_row 40 = .ok (.getfield 20, 3) := by decide +kernel
theorem dX8_row_43 : decode cX8_row 43 = .ok (.bipush 40, 2) := by decide +kernel
theorem dX8_row_45 : decode cX8_row 45 = .ok (.iload_n 1, 1) := by decide +kernel
theorem dX8_row_46 : decode cX8_row 46 = .ok (.imul, 1) := by decide +kernel
theorem dX8_row_47 : decode cX8_row 47 = .ok (.iload_n 3, 1) := by decide +kernel
theorem dX8_row_48 : decode cX8_row 48 = .ok (.iadd, 1) := by decide +kernel
theorem dX8_row_49 : decode cX8_row 49 = .ok (.iconst 0, 1) := by decide +kernel
theorem dX8_row_50 : decode cX8_row 50 = .ok (.iastore, 1) := by decide +kernel
theorem dX8_row_51 : decode cX8_row 51 = .ok (.iinc 3 1, 3) := by decide +kernel
theorem dX8_row_54 : decode cX8_row 54 = .ok (.goto (-20), 3) := by decide +kernel
theorem dX8_row_57 : decode cX8_row 57 = .ok (.iload_n 2, 1) := by decide +kernel
theorem dX8_row_58 : decode cX8_row 58 = .ok (.ireturn, 1) := by decide +kernel
theorem dX8_lay_0 : decode cX8_lay 0 = .ok (.aload_n 0, 1) := by decide +kernel
theorem dX8_lay_1 : decode cX8_lay 1 = .ok (.iload_n 1, 1) := by decide +kernel
theorem dX8_lay_2 : decode cX8_lay 2 = .ok (.iload_n 2, 1) := by decide +kernel
theorem dX8_lay_3 : decode cX8_lay 3 = .ok (.invokevirtual 83, 3) := by decide +kernel
theorem dX8_lay_6 : decode cX8_lay 6 = .ok (.istore 4, 2) := by decide +kernel
theorem dX8_lay_8 : decode cX8_lay 8 = .ok (.iload 4, 2) := by decide +kernel
theorem dX8_lay_10 : decode cX8_lay 10 = .ok (.iconst 1, 1) := by decide +kernel
theorem dX8_lay_11 : decode cX8_lay 11 = .ok (.if_icmp .ne 15, 3) := by decide +kernel
theorem dX8_lay_14 : decode cX8_lay 14 = .ok (.aload_n 0, 1) := by decide +kernel
theorem dX8_lay_15 : decode cX8_lay 15 = .ok (.getfield 20, 3) := by decide +kernel
theorem dX8_lay_18 : decode cX8_lay 18 = .ok (.bipush 40, 2) := by decide +kernel
theorem dX8_lay_20 : decode cX8_lay 20 = .ok (.iload_n 1, 1) := by decide +kernel
theorem dX8_lay_21 : decode cX8_lay 21 = .ok (.imul, 1) := by decide +kernel
theorem dX8_lay_22 : decode cX8_lay 22 = .ok (.iload_n 2, 1) := by decide +kernel
theorem dX8_lay_23 : decode cX8_lay 23 = .ok (.iadd, 1) := by decide +kernel
theorem dX8_lay_24 : decode cX8_lay 24 = .ok (.iload_n 3, 1) := by decide +kernel
theorem dX8_lay_25 : decode cX8_lay 25 = .ok (.iastore, 1) := by decide +kernel
theorem dX8_lay_26 : decode cX8_lay 26 = .ok (.iload 4, 2) := by decide +kernel
theorem dX8_lay_28 : decode cX8_lay 28 = .ok (.ireturn, 1) := by decide +kernel
theorem dX8_at_0 : decode cX8_at 0 = .ok (.iload_n 1, 1) := by decide +kernel
theorem dX8_at_1 : decode cX8_at 1 = .ok (.invokestatic 75, 3) := by decide +kernel
theorem dX8_at_4 : decode cX8_at 4 = .ok (.ifCond .ne 5, 3) := by decide +kernel
theorem dX8_at_7 : decode cX8_at 7 = .ok (.iconst (-1), 1) := by decide +kernel
theorem dX8_at_8 : decode cX8_at 8 = .ok (.ireturn, 1) := by decide +kernel
theorem dX8_at_9 : decode cX8_at 9 = .ok (.aload_n 0, 1) := by decide +kernel
theorem dX8_at_10 : decode cX8_at 10 = .ok (.getfield 23, 3) := by decide +kernel
theorem dX8_at_13 : decode cX8_at 13 = .ok (.iload_n 1, 1) := by decide +kernel
theorem dX8_at_14 : decode cX8_at 14 = .ok (.iaload, 1) := by decide +kernel
theorem dX8_at_15 : decode cX8_at 15 = .ok (.ifCond .ge 9, 3) := by decide +kernel
theorem dX8_at_18 : decode cX8_at 18 = .ok (.aload_n 0, 1) := by decide +kernel
theorem dX8_at_19 : decode cX8_at 19 = .ok (.iconst 1, 1) := by decide +kernel
theorem dX8_at_20 : decode cX8_at 20 = .ok (.invokevirtual 79, 3) := by decide +kernel
theorem dX8_at_23 : decode cX8_at 23 = .ok (.ireturn, 1) := by decide +kernel
theorem dX8_at_24 : decode cX8_at 24 = .ok (.iload_n 2, 1) := by decide +kernel
theorem dX8_at_25 : decode cX8_at 25 = .ok (.i2l, 1) := by decide +kernel
theorem dX8_at_26 : decode cX8_at 26 = .ok (.lconst 0, 1) := by decide +kernel
theorem dX8_at_27 : decode cX8_at 27 = .ok (.aload_n 0, 1) := by decide +kernel
theorem dX8_at_28 : decode cX8_at 28 = .ok (.getfield 23, 3) := by decide +kernel
theorem dX8_at_31 : decode cX8_at 31 = .ok (.iload_n 1, 1) := by decide +kernel
theorem dX8_at_32 : decode cX8_at 32 = .ok (.iaload, 1) := by decide +kernel
theorem dX8_at_33 : decode cX8_at 33 = .ok (.iconst 1, 1) := by decide +kernel
theorem dX8_at_34 : decode cX8_at 34 = .ok (.isub, 1) := by decide +kernel
theorem dX8_at_35 : decode cX8_at 35 = .ok (.i2l, 1) := by decide +kernel
theorem dX8_at_36 : decode cX8_at 36 = .ok (.invokestatic 69, 3) := by decide +kernel
theorem dX8_at_39 : decode cX8_at 39 = .ok (.ifCond .eq 21, 3) := by decide +kernel
theorem dX8_at_42 : decode cX8_at 42 = .ok (.aload_n 0, 1) := by decide +kernel
theorem dX8_at_43 : decode cX8_at 43 = .ok (.aload_n 0, 1) := by decide +kernel
theorem dX8_at_44 : decode cX8_at 44 = .ok (.getfield 20, 3) := by decide +kernel
theorem dX8_at_47 : decode cX8_at 47 = .ok (.bipush 40, 2) := by decide +kernel
theorem dX8_at_49 : decode cX8_at 49 = .ok (.iload_n 1, 1) := by decide +kernel
theorem dX8_at_50 : decode cX8_at 50 = .ok (.imul, 1) := by decide +kernel
theorem dX8_at_51 : decode cX8_at 51 = .ok (.iload_n 2, 1) := by decide +kernel
theorem dX8_at_52 : decode cX8_at 52 = .ok (.iadd, 1) := by decide +kernel
theorem dX8_at_53 : decode cX8_at 53 = .ok (.iaload, 1) := by decide +kernel
theorem dX8_at_54 : decode cX8_at 54 = .ok (.invokevirtual 87, 3) := by decide +kernel
theorem dX8_at_57 : decode cX8_at 57 = .ok (.goto 8, 3) := by decide +kernel
theorem dX8_at_60 : decode cX8_at 60 = .ok (.aload_n 0, 1) := by decide +kernel
theorem dX8_at_61 : decode cX8_at 61 = .ok (.iconst 2, 1) := by decide +kernel
theorem dX8_at_62 : decode cX8_at 62 = .ok (.invokevirtual 79, 3) := by decide +kernel
theorem dX8_at_65 : decode cX8_at 65 = .ok (.ireturn, 1) := by decide +kernel
theorem dX8_tear_0 : decode cX8_tear 0 = .ok (.iload_n 1, 1) := by decide +kernel
theorem dX8_tear_1 : decode cX8_tear 1 = .ok (.invokestatic 75, 3) := by decide +kernel
theorem dX8_tear_4 : decode cX8_tear 4 = .ok (.ifCond .ne 5, 3) := by decide +kernel
theorem dX8_tear_7 : decode cX8_tear 7 = .ok (.iconst (-1), 1) := by decide +kernel
theorem dX8_tear_8 : decode cX8_tear 8 = .ok (.ireturn, 1) := by decide +kernel
theorem dX8_tear_9 : decode cX8_tear 9 = .ok (.aload_n 0, 1) := by decide +kernel
theorem dX8_tear_10 : decode cX8_tear 10 = .ok (.getfield 23, 3) := by decide +kernel
theorem dX8_tear_13 : decode cX8_tear 13 = .ok (.iload_n 1, 1) := by decide +kernel
theorem dX8_tear_14 : decode cX8_tear 14 = .ok (.iaload, 1) := by decide +kernel
theorem dX8_tear_15 : decode cX8_tear 15 = .ok (.ifCond .ge 9, 3) := by decide +kernel
theorem dX8_tear_18 : decode cX8_tear 18 = .ok (.aload_n 0, 1) := by decide +kernel
theorem dX8_tear_19 : decode cX8_tear 19 = .ok (.iconst 1, 1) := by decide +kernel
theorem dX8_tear_20 : decode cX8_tear 20 = .ok (.invokevirtual 79, 3) := by decide +kernel
theorem dX8_tear_23 : decode cX8_tear 23 = .ok (.ireturn, 1) := by decide +kernel
theorem dX8_tear_24 : decode cX8_tear 24 = .ok (.aload_n 0, 1) := by decide +kernel
theorem dX8_tear_25 : decode cX8_tear 25 = .ok (.getfield 23, 3) := by decide +kernel
theorem dX8_tear_28 : decode cX8_tear 28 = .ok (.iload_n 1, 1) := by decide +kernel
theorem dX8_tear_29 : decode cX8_tear 29 = .ok (.iconst (-1), 1) := by decide +kernel
theorem dX8_tear_30 : decode cX8_tear 30 = .ok (.iastore, 1) := by decide +kernel
theorem dX8_tear_31 : decode cX8_tear 31 = .ok (.iconst 1, 1) := by decide +kernel
theorem dX8_tear_32 : decode cX8_tear 32 = .ok (.ireturn, 1) := by decide +kernel
theorem dX8_copy_0 : decode cX8_copy 0 = .ok (.iload_n 1, 1) := by decide +kernel
theorem dX8_copy_1 : decode cX8_copy 1 = .ok (.invokestatic 75, 3) := by decide +kernel
theorem dX8_copy_4 : decode cX8_copy 4 = .ok (.ifCond .eq 10, 3) := by decide +kernel
theorem dX8_copy_7 : decode cX8_copy 7 = .ok (.iload_n 3, 1) := by decide +kernel
theorem dX8_copy_8 : decode cX8_copy 8 = .ok (.invokestatic 75, 3) := by decide +kernel
theorem dX8_copy_11 : decode cX8_copy 11 = .ok (.ifCond .ne 5, 3) := by decide +kernel
theorem dX8_copy_14 : decode cX8_copy 14 = .ok (.iconst (-1), 1) := by decide +kernel
theorem dX8_copy_15 : decode cX8_copy 15 = .ok (.ireturn, 1) := by decide +kernel
theorem dX8_copy_16 : decode cX8_copy 16 = .ok (.iload 5, 2) := by decide +kernel
theorem dX8_copy_18 : decode cX8_copy 18 = .ok (.ifCond .ge 9, 3) := by decide +kernel
theorem dX8_copy_21 : decode cX8_copy 21 = .ok (.aload_n 0, 1) := by decide +kernel
theorem dX8_copy_22 : decode cX8_copy 22 = .ok (.iconst 5, 1) := by decide +kernel
theorem dX8_copy_23 : decode cX8_copy 23 = .ok (.invokevirtual 79, 3) := by decide +kernel
theorem dX8_copy_26 : decode cX8_copy 26 = .ok (.ireturn, 1) := by decide +kernel
theorem dX8_copy_27 : decode cX8_copy 27 = .ok (.aload_n 0, 1) := by decide +kernel
theorem dX8_copy_28 : decode cX8_copy 28 = .ok (.getfield 23, 3) := by decide +kernel
theorem dX8_copy_31 : decode cX8_copy 31 = .ok (.iload_n 1, 1) := by decide +kernel
theorem dX8_copy_32 : decode cX8_copy 32 = .ok (.iaload, 1) := by decide +kernel
theorem dX8_copy_33 : decode cX8_copy 33 = .ok (.ifCond .lt 12, 3) := by decide +kernel
theorem dX8_copy_36 : decode cX8_copy 36 = .ok (.aload_n 0, 1) := by decide +kernel
theorem dX8_copy_37 : decode cX8_copy 37 = .ok (.getfield 23, 3) := by decide +kernel
theorem dX8_copy_40 : decode cX8_copy 40 = .ok (.iload_n 3, 1) := by decide +kernel
theorem dX8_copy_41 : decode cX8_copy 41 = .ok (.iaload, 1) := by decide +kernel
theorem dX8_copy_42 : decode cX8_copy 42 = .ok (.ifCond .ge 9, 3) := by decide +kernel
theorem dX8_copy_45 : decode cX8_copy 45 = .ok (.aload_n 0, 1) := by decide +kernel
theorem dX8_copy_46 : decode cX8_copy 46 = .ok (.iconst 1, 1) := by decide +kernel
theorem dX8_copy_47 : decode cX8_copy 47 = .ok (.invokevirtual 79, 3) := by decide +kernel
theorem dX8_copy_50 : decode cX8_copy 50 = .ok (.ireturn, 1) := by decide +kernel
theorem dX8_copy_51 : decode cX8_copy 51 = .ok (.iload_n 2, 1) := by decide +kernel
theorem dX8_copy_52 : decode cX8_copy 52 = .ok (.i2l, 1) := by decide +kernel
theorem dX8_copy_53 : decode cX8_copy 53 = .ok (.lconst 0, 1) := by decide +kernel
theorem dX8_copy_54 : decode cX8_copy 54 = .ok (.aload_n 0, 1) := by decide +kernel
theorem dX8_copy_55 : decode cX8_copy 55 = .ok (.getfield 23, 3) := by decide +kernel
theorem dX8_copy_58 : decode cX8_copy 58 = .ok (.iload_n 1, 1) := by decide +kernel
theorem dX8_copy_59 : decode cX8_copy 59 = .ok (.iaload, 1) := by decide +kernel
theorem dX8_copy_60 : decode cX8_copy 60 = .ok (.i2l, 1) := by decide +kernel
theorem dX8_copy_61 : decode cX8_copy 61 = .ok (.iload 5, 2) := by decide +kernel
theorem dX8_copy_63 : decode cX8_copy 63 = .ok (.i2l, 1) := by decide +kernel
theorem dX8_copy_64 : decode cX8_copy 64 = .ok (.lsub, 1) := by decide +kernel
theorem dX8_copy_65 : decode cX8_copy 65 = .ok (.invokestatic 69, 3) := by decide +kernel
theorem dX8_copy_68 : decode cX8_copy 68 = .ok (.ifCond .eq 24, 3) := by decide +kernel
theorem dX8_copy_71 : decode cX8_copy 71 = .ok (.iload 4, 2) := by decide +kernel
theorem dX8_copy_73 : decode cX8_copy 73 = .ok (.i2l, 1) := by decide +kernel
theorem dX8_copy_74 : decode cX8_copy 74 = .ok (.lconst 0, 1) := by decide +kernel
theorem dX8_copy_75 : decode cX8_copy 75 = .ok (.aload_n 0, 1) := by decide +kernel
theorem dX8_copy_76 : decode cX8_copy 76 = .ok (.getfield 23, 3) := by decide +kernel
theorem dX8_copy_79 : decode cX8_copy 79 = .ok (.iload_n 3, 1) := by decide +kernel
theorem dX8_copy_80 : decode cX8_copy 80 = .ok (.iaload, 1) := by decide +kernel
theorem dX8_copy_81 : decode cX8_copy 81 = .ok (.i2l, 1) := by decide +kernel
theorem dX8_copy_82 : decode cX8_copy 82 = .ok (.iload 5, 2) := by decide +kernel
theorem dX8_copy_84 : decode cX8_copy 84 = .ok (.i2l, 1) := by decide +kernel
theorem dX8_copy_85 : decode cX8_copy 85 = .ok (.lsub, 1) := by decide +kernel
theorem dX8_copy_86 : decode cX8_copy 86 = .ok (.invokestatic 69, 3) := by decide +kernel
theorem dX8_copy_89 : decode cX8_copy 89 = .ok (.ifCond .ne 9, 3) := by decide +kernel
theorem dX8_copy_92 : decode cX8_copy 92 = .ok (.aload_n 0, 1) := by decide +kernel
theorem dX8_copy_93 : decode cX8_copy 93 = .ok (.iconst 2, 1) := by decide +kernel
theorem dX8_copy_94 : decode cX8_copy 94 = .ok (.invokevirtual 79, 3) := by decide +kernel
theorem dX8_copy_97 : decode cX8_copy 97 = .ok (.ireturn, 1) := by decide +kernel
theorem dX8_copy_98 : decode cX8_copy 98 = .ok (.iconst 0, 1) := by decide +kernel
theorem dX8_copy_99 : decode cX8_copy 99 = .ok (.istore 6, 2) := by decide +kernel
theorem dX8_copy_101 : decode cX8_copy 101 = .ok (.iload 6, 2) := by decide +kernel
theorem dX8_copy_103 : decode cX8_copy 103 = .ok (.iload 5, 2) := by decide +kernel
theorem dX8_copy_105 : decode cX8_copy 105 = .ok (.if_icmp .ge 30, 3) := by decide +kernel
theorem dX8_copy_108 : decode cX8_copy 108 = .ok (.aload_n 0, 1) := by decide +kernel
theorem dX8_copy_109 : decode cX8_copy 109 = .ok (.getfield 39, 3) := by decide +kernel
theorem dX8_copy_112 : decode cX8_copy 112 = .ok (.iload 6, 2) := by decide +kernel
theorem dX8_copy_114 : decode cX8_copy 114 = .ok (.aload_n 0, 1) := by decide +kernel
theorem dX8_copy_115 : decode cX8_copy 115 = .ok (.getfield 20, 3) := by decide +kernel
theorem dX8_copy_118 : decode cX8_copy 118 = .ok (.bipush 40, 2) := by decide +kernel
theorem dX8_copy_120 : decode cX8_copy 120 = .ok (.iload_n 1, 1) := by decide +kernel
theorem dX8_copy_121 : decode cX8_copy 121 = .ok (.imul, 1) := by decide +kernel
theorem dX8_copy_122 : decode cX8_copy 122 = .ok (.iload_n 2, 1) := by decide +kernel
theorem dX8_copy_123 : decode cX8_copy 123 = .ok (.iadd, 1) := by decide +kernel
theorem dX8_copy_124 : decode cX8_copy 124 = .ok (.iload 6, 2) := by decide +kernel
theorem dX8_copy_126 : decode cX8_copy 126 = .ok (.iadd, 1) := by decide +kernel
theorem dX8_copy_127 : decode cX8_copy 127 = .ok (.iaload, 1) := by decide +kernel
theorem dX8_copy_128 : decode cX8_copy 128 = .ok (.iastore, 1) := by decide +kernel
theorem dX8_copy_129 : decode cX8_copy 129 = .ok (.iinc 6 1, 3) := by decide +kernel
theorem dX8_copy_132 : decode cX8_copy 132 = .ok (.goto (-31), 3) := by decide +kernel
theorem dX8_copy_135 : decode cX8_copy 135 = .ok (.iconst 0, 1) := by decide +kernel
theorem dX8_copy_136 : decode cX8_copy 136 = .ok (.istore 6, 2) := by decide +kernel
theorem dX8_copy_138 : decode cX8_copy 138 = .ok (.iload 6, 2) := by decide +kernel
theorem dX8_copy_140 : decode cX8_copy 140 = .ok (.iload 5, 2) := by decide +kernel
theorem dX8_copy_142 : decode cX8_copy 142 = .ok (.if_icmp .ge 31, 3) := by decide +kernel
theorem dX8_copy_145 : decode cX8_copy 145 = .ok (.aload_n 0, 1) := by decide +kernel
theorem dX8_copy_146 : decode cX8_copy 146 = .ok (.getfield 20, 3) := by decide +kernel
theorem dX8_copy_149 : decode cX8_copy 149 = .ok (.bipush 40, 2) := by decide +kernel
theorem dX8_copy_151 : decode cX8_copy 151 = .ok (.iload_n 3, 1) := by decide +kernel
theorem dX8_copy_152 : decode cX8_copy 152 = .ok (.imul, 1) := by decide +kernel
theorem dX8_copy_153 : decode cX8_copy 153 = .ok (.iload 4, 2) := by decide +kernel
theorem dX8_copy_155 : decode cX8_copy 155 = .ok (.iadd, 1) := by decide +kernel
theorem dX8_copy_156 : decode cX8_copy 156 = .ok (.iload 6, 2) := by decide +kernel
theorem dX8_copy_158 : decode cX8_copy 158 = .ok (.iadd, 1) := by decide +kernel
theorem dX8_copy_159 : decode cX8_copy 159 = .ok (.aload_n 0, 1) := by decide +kernel
theorem dX8_copy_160 : decode cX8_copy 160 = .ok (.getfield 39, 3) := by decide +kernel
theorem dX8_copy_163 : decode cX8_copy 163 = .ok (.iload 6, 2) := by decide +kernel
theorem dX8_copy_165 : decode cX8_copy 165 = .ok (.iaload, 1) := by decide +kernel
theorem dX8_copy_166 : decode cX8_copy 166 = .ok (.iastore, 1) := by decide +kernel
theorem dX8_copy_167 : decode cX8_copy 167 = .ok (.iinc 6 1, 3) := by decide +kernel
theorem dX8_copy_170 : decode cX8_copy 170 = .ok (.goto (-32), 3) := by decide +kernel
theorem dX8_copy_173 : decode cX8_copy 173 = .ok (.iconst 1, 1) := by decide +kernel
theorem dX8_copy_174 : decode cX8_copy 174 = .ok (.ireturn, 1) := by decide +kernel
theorem dX8_mean_0 : decode cX8_mean 0 = .ok (.iload_n 1, 1) := by decide +kernel
theorem dX8_mean_1 : decode cX8_mean 1 = .ok (.invokestatic 75, 3) := by decide +kernel
theorem dX8_mean_4 : decode cX8_mean 4 = .ok (.ifCond .ne 5, 3) := by decide +kernel
theorem dX8_mean_7 : decode cX8_mean 7 = .ok (.iconst (-1), 1) := by decide +kernel
theorem dX8_mean_8 : decode cX8_mean 8 = .ok (.ireturn, 1) := by decide +kernel
theorem dX8_mean_9 : decode cX8_mean 9 = .ok (.aload_n 0, 1) := by decide +kernel
theorem dX8_mean_10 : decode cX8_mean 10 = .ok (.getfield 23, 3) := by decide +kernel
theorem dX8_mean_13 : decode cX8_mean 13 = .ok (.iload_n 1, 1) := by decide +kernel
theorem dX8_mean_14 : decode cX8_mean 14 = .ok (.iaload, 1) := by decide +kernel
theorem dX8_mean_15 : decode cX8_mean 15 = .ok (.ifCond .ge 9, 3) := by decide +kernel
theorem dX8_mean_18 : decode cX8_mean 18 = .ok (.aload_n 0, 1) := by decide +kernel
theorem dX8_mean_19 : decode cX8_mean 19 = .ok (.iconst 1, 1) := by decide +kernel
theorem dX8_mean_20 : decode cX8_mean 20 = .ok (.invokevirtual 79, 3) := by decide +kernel
theorem dX8_mean_23 : decode cX8_mean 23 = .ok (.ireturn, 1) := by decide +kernel
theorem dX8_mean_24 : decode cX8_mean 24 = .ok (.aload_n 0, 1) := by decide +kernel
theorem dX8_mean_25 : decode cX8_mean 25 = .ok (.getfield 23, 3) := by decide +kernel
theorem dX8_mean_28 : decode cX8_mean 28 = .ok (.iload_n 1, 1) := by decide +kernel
theorem dX8_mean_29 : decode cX8_mean 29 = .ok (.iaload, 1) := by decide +kernel
theorem dX8_mean_30 : decode cX8_mean 30 = .ok (.ifCond .ne 9, 3) := by decide +kernel
theorem dX8_mean_33 : decode cX8_mean 33 = .ok (.aload_n 0, 1) := by decide +kernel
theorem dX8_mean_34 : decode cX8_mean 34 = .ok (.iconst 4, 1) := by decide +kernel
theorem dX8_mean_35 : decode cX8_mean 35 = .ok (.invokevirtual 79, 3) := by decide +kernel
theorem dX8_mean_38 : decode cX8_mean 38 = .ok (.ireturn, 1) := by decide +kernel
theorem dX8_mean_39 : decode cX8_mean 39 = .ok (.lconst 0, 1) := by decide +kernel
theorem dX8_mean_40 : decode cX8_mean 40 = .ok (.lstore_n 2, 1) := by decide +kernel
theorem dX8_mean_41 : decode cX8_mean 41 = .ok (.iconst 0, 1) := by decide +kernel
theorem dX8_mean_42 : decode cX8_mean 42 = .ok (.istore 4, 2) := by decide +kernel
theorem dX8_mean_44 : decode cX8_mean 44 = .ok (.iload 4, 2) := by decide +kernel
theorem dX8_mean_46 : decode cX8_mean 46 = .ok (.aload_n 0, 1) := by decide +kernel
theorem dX8_mean_47 : decode cX8_mean 47 = .ok (.getfield 23, 3) := by decide +kernel
theorem dX8_mean_50 : decode cX8_mean 50 = .ok (.iload_n 1, 1) := by decide +kernel
theorem dX8_mean_51 : decode cX8_mean 51 = .ok (.iaload, 1) := by decide +kernel
theorem dX8_mean_52 : decode cX8_mean 52 = .ok (.if_icmp .ge 25, 3) := by decide +kernel
theorem dX8_mean_55 : decode cX8_mean 55 = .ok (.lload_n 2, 1) := by decide +kernel
theorem dX8_mean_56 : decode cX8_mean 56 = .ok (.aload_n 0, 1) := by decide +kernel
theorem dX8_mean_57 : decode cX8_mean 57 = .ok (.getfield 20, 3) := by decide +kernel
theorem dX8_mean_60 : decode cX8_mean 60 = .ok (.bipush 40, 2) := by decide +kernel
theorem dX8_mean_62 : decode cX8_mean 62 = .ok (.iload_n 1, 1) := by decide +kernel
theorem dX8_mean_63 : decode cX8_mean 63 = .ok (.imul, 1) := by decide +kernel
theorem dX8_mean_64 : decode cX8_mean 64 = .ok (.iload 4, 2) := by decide +kernel
theorem dX8_mean_66 : decode cX8_mean 66 = .ok (.iadd, 1) := by decide +kernel
theorem dX8_mean_67 : decode cX8_mean 67 = .ok (.iaload, 1) := by decide +kernel
theorem dX8_mean_68 : decode cX8_mean 68 = .ok (.i2l, 1) := by decide +kernel
theorem dX8_mean_69 : decode cX8_mean 69 = .ok (.ladd, 1) := by decide +kernel
theorem dX8_mean_70 : decode cX8_mean 70 = .ok (.lstore_n 2, 1) := by decide +kernel
theorem dX8_mean_71 : decode cX8_mean 71 = .ok (.iinc 4 1, 3) := by decide +kernel
theorem dX8_mean_74 : decode cX8_mean 74 = .ok (.goto (-30), 3) := by decide +kernel
theorem dX8_mean_77 : decode cX8_mean 77 = .ok (.aload_n 0, 1) := by decide +kernel
theorem dX8_mean_78 : decode cX8_mean 78 = .ok (.lload_n 2, 1) := by decide +kernel
theorem dX8_mean_79 : decode cX8_mean 79 = .ok (.aload_n 0, 1) := by decide +kernel
theorem dX8_mean_80 : decode cX8_mean 80 = .ok (.getfield 23, 3) := by decide +kernel
theorem dX8_mean_83 : decode cX8_mean 83 = .ok (.iload_n 1, 1) := by decide +kernel
theorem dX8_mean_84 : decode cX8_mean 84 = .ok (.iaload, 1) := by decide +kernel
theorem dX8_mean_85 : decode cX8_mean 85 = .ok (.i2l, 1) := by decide +kernel
theorem dX8_mean_86 : decode cX8_mean 86 = .ok (.ldiv, 1) := by decide +kernel
theorem dX8_mean_87 : decode cX8_mean 87 = .ok (.l2i, 1) := by decide +kernel
theorem dX8_mean_88 : decode cX8_mean 88 = .ok (.invokevirtual 87, 3) := by decide +kernel
theorem dX8_mean_91 : decode cX8_mean 91 = .ok (.ireturn, 1) := by decide +kernel
theorem dX8_text_0 : decode cX8_text 0 = .ok (.iload_n 1, 1) := by decide +kernel
theorem dX8_text_1 : decode cX8_text 1 = .ok (.invokestatic 90, 3) := by decide +kernel
theorem dX8_text_4 : decode cX8_text 4 = .ok (.ifCond .eq 9, 3) := by decide +kernel
theorem dX8_text_7 : decode cX8_text 7 = .ok (.iload_n 2, 1) := by decide +kernel
theorem dX8_text_8 : decode cX8_text 8 = .ok (.bipush 60, 2) := by decide +kernel
theorem dX8_text_10 : decode cX8_text 10 = .ok (.if_icmp .le 5, 3) := by decide +kernel
theorem dX8_text_13 : decode cX8_text 13 = .ok (.iconst (-1), 1) := by decide +kernel
theorem dX8_text_14 : decode cX8_text 14 = .ok (.ireturn, 1) := by decide +kernel
theorem dX8_text_15 : decode cX8_text 15 = .ok (.iload_n 2, 1) := by decide +kernel
theorem dX8_text_16 : decode cX8_text 16 = .ok (.ifCond .ge 9, 3) := by decide +kernel
theorem dX8_text_19 : decode cX8_text 19 = .ok (.aload_n 0, 1) := by decide +kernel
theorem dX8_text_20 : decode cX8_text 20 = .ok (.iconst 5, 1) := by decide +kernel
theorem dX8_text_21 : decode cX8_text 21 = .ok (.invokevirtual 79, 3) := by decide +kernel
theorem dX8_text_24 : decode cX8_text 24 = .ok (.ireturn, 1) := by decide +kernel
theorem dX8_text_25 : decode cX8_text 25 = .ok (.aload_n 0, 1) := by decide +kernel
theorem dX8_text_26 : decode cX8_text 26 = .ok (.getfield 29, 3) := by decide +kernel
theorem dX8_text_29 : decode cX8_text 29 = .ok (.iload_n 1, 1) := by decide +kernel
theorem dX8_text_30 : decode cX8_text 30 = .ok (.iload_n 2, 1) := by decide +kernel
theorem dX8_text_31 : decode cX8_text 31 = .ok (.iastore, 1) := by decide +kernel
theorem dX8_text_32 : decode cX8_text 32 = .ok (.iconst 0, 1) := by decide +kernel
theorem dX8_text_33 : decode cX8_text 33 = .ok (.istore_n 3, 1) := by decide +kernel
theorem dX8_text_34 : decode cX8_text 34 = .ok (.iload_n 3, 1) := by decide +kernel
theorem dX8_text_35 : decode cX8_text 35 = .ok (.iload_n 2, 1) := by decide +kernel
theorem dX8_text_36 : decode cX8_text 36 = .ok (.if_icmp .ge 22, 3) := by decide +kernel
theorem dX8_text_39 : decode cX8_text 39 = .ok (.aload_n 0, 1) := by decide +kernel
theorem dX8_text_40 : decode cX8_text 40 = .ok (.getfield 26, 3) := by decide +kernel
theorem dX8_text_43 : decode cX8_text 43 = .ok (.bipush 60, 2) := by decide +kernel
theorem dX8_text_45 : decode cX8_text 45 = .ok (.iload_n 1, 1) := by decide +kernel
theorem dX8_text_46 : decode cX8_text 46 = .ok (.imul, 1) := by decide +kernel
theorem dX8_text_47 : decode cX8_text 47 = .ok (.iload_n 3, 1) := by decide +kernel
theorem dX8_text_48 : decode cX8_text 48 = .ok (.iadd, 1) := by decide +kernel
theorem dX8_text_49 : decode cX8_text 49 = .ok (.bipush 32, 2) := by decide +kernel
theorem dX8_text_51 : decode cX8_text 51 = .ok (.iastore, 1) := by decide +kernel
theorem dX8_text_52 : decode cX8_text 52 = .ok (.iinc 3 1, 3) := by decide +kernel
theorem dX8_text_55 : decode cX8_text 55 = .ok (.goto (-21), 3) := by decide +kernel
theorem dX8_text_58 : decode cX8_text 58 = .ok (.iload_n 2, 1) := by decide +kernel
theorem dX8_text_59 : decode cX8_text 59 = .ok (.ireturn, 1) := by decide +kernel
theorem dX8_put_0 : decode cX8_put 0 = .ok (.iload_n 1, 1) := by decide +kernel
theorem dX8_put_1 : decode cX8_put 1 = .ok (.invokestatic 90, 3) := by decide +kernel
theorem dX8_put_4 : decode cX8_put 4 = .ok (.ifCond .ne 5, 3) := by decide +kernel
theorem dX8_put_7 : decode cX8_put 7 = .ok (.iconst (-1), 1) := by decide +kernel
theorem dX8_put_8 : decode cX8_put 8 = .ok (.ireturn, 1) := by decide +kernel
theorem dX8_put_9 : decode cX8_put 9 = .ok (.aload_n 0, 1) := by decide +kernel
theorem dX8_put_10 : decode cX8_put 10 = .ok (.getfield 29, 3) := by decide +kernel
theorem dX8_put_13 : decode cX8_put 13 = .ok (.iload_n 1, 1) := by decide +kernel
theorem dX8_put_14 : decode cX8_put 14 = .ok (.iaload, 1) := by decide +kernel
theorem dX8_put_15 : decode cX8_put 15 = .ok (.ifCond .ge 9, 3) := by decide +kernel
theorem dX8_put_18 : decode cX8_put 18 = .ok (.aload_n 0, 1) := by decide +kernel
theorem dX8_put_19 : decode cX8_put 19 = .ok (.iconst 1, 1) := by decide +kernel
theorem dX8_put_20 : decode cX8_put 20 = .ok (.invokevirtual 79, 3) := by decide +kernel
theorem dX8_put_23 : decode cX8_put 23 = .ok (.ireturn, 1) := by decide +kernel
theorem dX8_put_24 : decode cX8_put 24 = .ok (.iload_n 2, 1) := by decide +kernel
theorem dX8_put_25 : decode cX8_put 25 = .ok (.i2l, 1) := by decide +kernel
theorem dX8_put_26 : decode cX8_put 26 = .ok (.lconst 0, 1) := by decide +kernel
theorem dX8_put_27 : decode cX8_put 27 = .ok (.aload_n 0, 1) := by decide +kernel
theorem dX8_put_28 : decode cX8_put 28 = .ok (.getfield 29, 3) := by decide +kernel
theorem dX8_put_31 : decode cX8_put 31 = .ok (.iload_n 1, 1) := by decide +kernel
theorem dX8_put_32 : decode cX8_put 32 = .ok (.iaload, 1) := by decide +kernel
theorem dX8_put_33 : decode cX8_put 33 = .ok (.iconst 1, 1) := by decide +kernel
theorem dX8_put_34 : decode cX8_put 34 = .ok (.isub, 1) := by decide +kernel
theorem dX8_put_35 : decode cX8_put 35 = .ok (.i2l, 1) := by decide +kernel
theorem dX8_put_36 : decode cX8_put 36 = .ok (.invokestatic 69, 3) := by decide +kernel
theorem dX8_put_39 : decode cX8_put 39 = .ok (.ifCond .ne 9, 3) := by decide +kernel
theorem dX8_put_42 : decode cX8_put 42 = .ok (.aload_n 0, 1) := by decide +kernel
theorem dX8_put_43 : decode cX8_put 43 = .ok (.iconst 2, 1) := by decide +kernel
theorem dX8_put_44 : decode cX8_put 44 = .ok (.invokevirtual 79, 3) := by decide +kernel
theorem dX8_put_47 : decode cX8_put 47 = .ok (.ireturn, 1) := by decide +kernel
theorem dX8_put_48 : decode cX8_put 48 = .ok (.aload_n 0, 1) := by decide +kernel
theorem dX8_put_49 : decode cX8_put 49 = .ok (.getfield 26, 3) := by decide +kernel
theorem dX8_put_52 : decode cX8_put 52 = .ok (.bipush 60, 2) := by decide +kernel
theorem dX8_put_54 : decode cX8_put 54 = .ok (.iload_n 1, 1) := by decide +kernel
theorem dX8_put_55 : decode cX8_put 55 = .ok (.imul, 1) := by decide +kernel
theorem dX8_put_56 : decode cX8_put 56 = .ok (.iload_n 2, 1) := by decide +kernel
theorem dX8_put_57 : decode cX8_put 57 = .ok (.iadd, 1) := by decide +kernel
theorem dX8_put_58 : decode cX8_put 58 = .ok (.iaload, 1) := by decide +kernel
theorem dX8_put_59 : decode cX8_put 59 = .ok (.istore 4, 2) := by decide +kernel
theorem dX8_put_61 : decode cX8_put 61 = .ok (.iload_n 3, 1) := by decide +kernel
theorem dX8_put_62 : decode cX8_put 62 = .ok (.sipush 255, 3) := by decide +kernel
theorem dX8_put_65 : decode cX8_put 65 = .ok (.iand, 1) := by decide +kernel
theorem dX8_put_66 : decode cX8_put 66 = .ok (.istore 5, 2) := by decide +kernel
theorem dX8_put_68 : decode cX8_put 68 = .ok (.aload_n 0, 1) := by decide +kernel
theorem dX8_put_69 : decode cX8_put 69 = .ok (.getfield 26, 3) := by decide +kernel
theorem dX8_put_72 : decode cX8_put 72 = .ok (.bipush 60, 2) := by decide +kernel
theorem dX8_put_74 : decode cX8_put 74 = .ok (.iload_n 1, 1) := by decide +kernel
theorem dX8_put_75 : decode cX8_put 75 = .ok (.imul, 1) := by decide +kernel
theorem dX8_put_76 : decode cX8_put 76 = .ok (.iload_n 2, 1) := by decide +kernel
theorem dX8_put_77 : decode cX8_put 77 = .ok (.iadd, 1) := by decide +kernel
theorem dX8_put_78 : decode cX8_put 78 = .ok (.iload 5, 2) := by decide +kernel
theorem dX8_put_80 : decode cX8_put 80 = .ok (.bipush 127, 2) := by decide +kernel
theorem dX8_put_82 : decode cX8_put 82 = .ok (.if_icmp .le 12, 3) := by decide +kernel
theorem dX8_put_85 : decode cX8_put 85 = .ok (.iload 5, 2) := by decide +kernel
theorem dX8_put_87 : decode cX8_put 87 = .ok (.sipush 256, 3) := by decide +kernel
theorem dX8_put_90 : decode cX8_put 90 = .ok (.isub, 1) := by decide +kernel
theorem dX8_put_91 : decode cX8_put 91 = .ok (.goto 5, 3) := by decide +kernel
theorem dX8_put_94 : decode cX8_put 94 = .ok (.iload 5, 2) := by decide +kernel
theorem dX8_put_96 : decode cX8_put 96 = .ok (.iastore, 1) := by decide +kernel
theorem dX8_put_97 : decode cX8_put 97 = .ok (.iload 4, 2) := by decide +kernel
theorem dX8_put_99 : decode cX8_put 99 = .ok (.sipush 1000, 3) := by decide +kernel
theorem dX8_put_102 : decode cX8_put 102 = .ok (.iadd, 1) := by decide +kernel
theorem dX8_put_103 : decode cX8_put 103 = .ok (.ireturn, 1) := by decide +kernel
theorem dX8_here_0 : decode cX8_here 0 = .ok (.aload_n 0, 1) := by decide +kernel
theorem dX8_here_1 : decode cX8_here 1 = .ok (.getfield 93, 3) := by decide +kernel
theorem dX8_here_4 : decode cX8_here 4 = .ok (.aload_n 0, 1) := by decide +kernel
theorem dX8_here_5 : decode cX8_here 5 = .ok (.getfield 29, 3) := by decide +kernel
theorem dX8_here_8 : decode cX8_here 8 = .ok (.iload_n 1, 1) := by decide +kernel
theorem dX8_here_9 : decode cX8_here 9 = .ok (.iaload, 1) := by decide +kernel
theorem dX8_here_10 : decode cX8_here 10 = .ok (.if_icmp .ge 20, 3) := by decide +kernel
theorem dX8_here_13 : decode cX8_here 13 = .ok (.aload_n 0, 1) := by decide +kernel
theorem dX8_here_14 : decode cX8_here 14 = .ok (.getfield 26, 3) := by decide +kernel
theorem dX8_here_17 : decode cX8_here 17 = .ok (.bipush 60, 2) := by decide +kernel
theorem dX8_here_19 : decode cX8_here 19 = .ok (.iload_n 1, 1) := by decide +kernel
theorem dX8_here_20 : decode cX8_here 20 = .ok (.imul, 1) := by decide +kernel
theorem dX8_here_21 : decode cX8_here 21 = .ok (.aload_n 0, 1) := by decide +kernel
theorem dX8_here_22 : decode cX8_here 22 = .ok (.getfield 93, 3) := by decide +kernel
theorem dX8_here_25 : decode cX8_here 25 = .ok (.iadd, 1) := by decide +kernel
theorem dX8_here_26 : decode cX8_here 26 = .ok (.iaload, 1) := by decide +kernel
theorem dX8_here_27 : decode cX8_here 27 = .ok (.goto 5, 3) := by decide +kernel
theorem dX8_here_30 : decode cX8_here 30 = .ok (.bipush (-9), 2) := by decide +kernel
theorem dX8_here_32 : decode cX8_here 32 = .ok (.ireturn, 1) := by decide +kernel
theorem dX8_skip_0 : decode cX8_skip 0 = .ok (.aload_n 0, 1) := by decide +kernel
theorem dX8_skip_1 : decode cX8_skip 1 = .ok (.iload_n 1, 1) := by decide +kernel
theorem dX8_skip_2 : decode cX8_skip 2 = .ok (.invokevirtual 96, 3) := by decide +kernel
theorem dX8_skip_5 : decode cX8_skip 5 = .ok (.bipush 32, 2) := by decide +kernel
theorem dX8_skip_7 : decode cX8_skip 7 = .ok (.if_icmp .ne 16, 3) := by decide +kernel
theorem dX8_skip_10 : decode cX8_skip 10 = .ok (.aload_n 0, 1) := by decide +kernel
theorem dX8_skip_11 : decode cX8_skip 11 = .ok (.dup, 1) := by decide +kernel
theorem dX8_skip_12 : decode cX8_skip 12 = .ok (.getfield 93, 3) := by decide +kernel
theorem dX8_skip_15 : decode cX8_skip 15 = .ok (.iconst 1, 1) := by decide +kernel
theorem dX8_skip_16 : decode cX8_skip 16 = .ok (.iadd, 1) := by decide +kernel
theorem dX8_skip_17 : decode cX8_skip 17 = .ok (.putfield 93, 3) := by decide +kernel
theorem dX8_skip_20 : decode cX8_skip 20 = .ok (.goto (-20), 3) := by decide +kernel
theorem dX8_skip_23 : decode cX8_skip 23 = .ok (.return_, 1) := by decide +kernel
theorem dX8_takes_0 : decode cX8_takes 0 = .ok (.aload_n 0, 1) := by decide +kernel
theorem dX8_takes_1 : decode cX8_takes 1 = .ok (.iload_n 1, 1) := by decide +kernel
theorem dX8_takes_2 : decode cX8_takes 2 = .ok (.invokevirtual 96, 3) := by decide +kernel
theorem dX8_takes_5 : decode cX8_takes 5 = .ok (.istore 4, 2) := by decide +kernel
theorem dX8_takes_7 : decode cX8_takes 7 = .ok (.iload 4, 2) := by decide +kernel
theorem dX8_takes_9 : decode cX8_takes 9 = .ok (.i2l, 1) := by decide +kernel
theorem dX8_takes_10 : decode cX8_takes 10 = .ok (.ldc2_w 99, 3) := by decide +kernel
theorem dX8_takes_13 : decode cX8_takes 13 = .ok (.bipush 48, 2) := by decide +kernel
theorem dX8_takes_15 : decode cX8_takes 15 = .ok (.iload_n 3, 1) := by decide +kernel
theorem dX8_takes_16 : decode cX8_takes 16 = .ok (.iadd, 1) := by decide +kernel
theorem dX8_takes_17 : decode cX8_takes 17 = .ok (.i2l, 1) := by decide +kernel
theorem dX8_takes_18 : decode cX8_takes 18 = .ok (.invokestatic 69, 3) := by decide +kernel
theorem dX8_takes_21 : decode cX8_takes 21 = .ok (.ifCond .ne 5, 3) := by decide +kernel
theorem dX8_takes_24 : decode cX8_takes 24 = .ok (.iconst 0, 1) := by decide +kernel
theorem dX8_takes_25 : decode cX8_takes 25 = .ok (.ireturn, 1) := by decide +kernel
theorem dX8_takes_26 : decode cX8_takes 26 = .ok (.aload_n 0, 1) := by decide +kernel
theorem dX8_takes_27 : decode cX8_takes 27 = .ok (.getfield 42, 3) := by decide +kernel
theorem dX8_takes_30 : decode cX8_takes 30 = .ok (.iload_n 2, 1) := by decide +kernel
theorem dX8_takes_31 : decode cX8_takes 31 = .ok (.iload 4, 2) := by decide +kernel
theorem dX8_takes_33 : decode cX8_takes 33 = .ok (.bipush 48, 2) := by decide +kernel
theorem dX8_takes_35 : decode cX8_takes 35 = .ok (.isub, 1) := by decide +kernel
theorem dX8_takes_36 : decode cX8_takes 36 = .ok (.iastore, 1) := by decide +kernel
theorem dX8_takes_37 : decode cX8_takes 37 = .ok (.aload_n 0, 1) := by decide +kernel
theorem dX8_takes_38 : decode cX8_takes 38 = .ok (.dup, 1) := by decide +kernel
theorem dX8_takes_39 : decode cX8_takes 39 = .ok (.getfield 93, 3) := by decide +kernel
theorem dX8_takes_42 : decode cX8_takes 42 = .ok (.iconst 1, 1) := by decide +kernel
theorem dX8_takes_43 : decode cX8_takes 43 = .ok (.iadd, 1) := by decide +kernel
theorem dX8_takes_44 : decode cX8_takes 44 = .ok (.putfield 93, 3) := by decide +kernel
theorem dX8_takes_47 : decode cX8_takes 47 = .ok (.iconst 1, 1) := by decide +kernel
theorem dX8_takes_48 : decode cX8_takes 48 = .ok (.ireturn, 1) := by decide +kernel
theorem dX8_takesSet_0 : decode cX8_takesSet 0 = .ok (.aload_n 0, 1) := by decide +kernel
theorem dX8_takesSet_1 : decode cX8_takesSet 1 = .ok (.getfield 93, 3) := by decide +kernel
theorem dX8_takesSet_4 : decode cX8_takesSet 4 = .ok (.istore_n 3, 1) := by decide +kernel
theorem dX8_takesSet_5 : decode cX8_takesSet 5 = .ok (.aload_n 0, 1) := by decide +kernel
theorem dX8_takesSet_6 : decode cX8_takesSet 6 = .ok (.iload_n 1, 1) := by decide +kernel
theorem dX8_takesSet_7 : decode cX8_takesSet 7 = .ok (.iload_n 2, 1) := by decide +kernel
theorem dX8_takesSet_8 : decode cX8_takesSet 8 = .ok (.bipush 9, 2) := by decide +kernel
theorem dX8_takesSet_10 : decode cX8_takesSet 10 = .ok (.invokevirtual 101, 3) := by decide +kernel
theorem dX8_takesSet_13 : decode cX8_takesSet 13 = .ok (.ifCond .ne 5, 3) := by decide +kernel
theorem dX8_takesSet_16 : decode cX8_takesSet 16 = .ok (.iconst 0, 1) := by decide +kernel
theorem dX8_takesSet_17 : decode cX8_takesSet 17 = .ok (.ireturn, 1) := by decide +kernel
theorem dX8_takesSet_18 : decode cX8_takesSet 18 = .ok (.aload_n 0, 1) := by decide +kernel
theorem dX8_takesSet_19 : decode cX8_takesSet 19 = .ok (.getfield 42, 3) := by decide +kernel
theorem dX8_takesSet_22 : decode cX8_takesSet 22 = .ok (.iload_n 2, 1) := by decide +kernel
theorem dX8_takesSet_23 : decode cX8_takesSet 23 = .ok (.iaload, 1) := by decide +kernel
theorem dX8_takesSet_24 : decode cX8_takesSet 24 = .ok (.istore 4, 2) := by decide +kernel
theorem dX8_takesSet_26 : decode cX8_takesSet 26 = .ok (.aload_n 0, 1) := by decide +kernel
theorem dX8_takesSet_27 : decode cX8_takesSet 27 = .ok (.iload_n 1, 1) := by decide +kernel
theorem dX8_takesSet_28 : decode cX8_takesSet 28 = .ok (.iload_n 2, 1) := by decide +kernel
theorem dX8_takesSet_29 : decode cX8_takesSet 29 = .ok (.bipush 9, 2) := by decide +kernel
theorem dX8_takesSet_31 : decode cX8_takesSet 31 = .ok (.invokevirtual 101, 3) := by decide +kernel
theorem dX8_takesSet_34 : decode cX8_takesSet 34 = .ok (.ifCond .ne 5, 3) := by decide +kernel
theorem dX8_takesSet_37 : decode cX8_takesSet 37 = .ok (.iconst 0, 1) := by decide +kernel
theorem dX8_takesSet_38 : decode cX8_takesSet 38 = .ok (.ireturn, 1) := by decide +kernel
theorem dX8_takesSet_39 : decode cX8_takesSet 39 = .ok (.aload_n 0, 1) := by decide +kernel
theorem dX8_takesSet_40 : decode cX8_takesSet 40 = .ok (.getfield 42, 3) := by decide +kernel
theorem dX8_takesSet_43 : decode cX8_takesSet 43 = .ok (.iload_n 2, 1) := by decide +kernel
theorem dX8_takesSet_44 : decode cX8_takesSet 44 = .ok (.dup2, 1) := by decide +kernel
theorem dX8_takesSet_45 : decode cX8_takesSet 45 = .ok (.iaload, 1) := by decide +kernel
theorem dX8_takesSet_46 : decode cX8_takesSet 46 = .ok (.bipush 10, 2) := by decide +kernel
theorem dX8_takesSet_48 : decode cX8_takesSet 48 = .ok (.iload 4, 2) := by decide +kernel
theorem dX8_takesSet_50 : decode cX8_takesSet 50 = .ok (.imul, 1) := by decide +kernel
theorem dX8_takesSet_51 : decode cX8_takesSet 51 = .ok (.iadd, 1) := by decide +kernel
theorem dX8_takesSet_52 : decode cX8_takesSet 52 = .ok (.iastore, 1) := by decide +kernel
theorem dX8_takesSet_53 : decode cX8_takesSet 53 = .ok (.aload_n 0, 1) := by decide +kernel
theorem dX8_takesSet_54 : decode cX8_takesSet 54 = .ok (.aload_n 0, 1) := by decide +kernel
theorem dX8_takesSet_55 : decode cX8_takesSet 55 = .ok (.getfield 42, 3) := by decide +kernel
theorem dX8_takesSet_58 : decode cX8_takesSet 58 = .ok (.iload_n 2, 1) := by decide +kernel
theorem dX8_takesSet_59 : decode cX8_takesSet 59 = .ok (.iaload, 1) := by decide +kernel
theorem dX8_takesSet_60 : decode cX8_takesSet 60 = .ok (.bipush 63, 2) := by decide +kernel
theorem dX8_takesSet_62 : decode cX8_takesSet 62 = .ok (.if_icmp .le 7, 3) := by decide +kernel
theorem dX8_takesSet_65 : decode cX8_takesSet 65 = .ok (.iload_n 3, 1) := by decide +kernel
theorem dX8_takesSet_66 : decode cX8_takesSet 66 = .ok (.goto 7, 3) := by decide +kernel
theorem dX8_takesSet_69 : decode cX8_takesSet 69 = .ok (.aload_n 0, 1) := by decide +kernel
theorem dX8_takesSet_70 : decode cX8_takesSet 70 = .ok (.getfield 93, 3) := by decide +kernel
theorem dX8_takesSet_73 : decode cX8_takesSet 73 = .ok (.putfield 93, 3) := by decide +kernel
theorem dX8_takesSet_76 : decode cX8_takesSet 76 = .ok (.aload_n 0, 1) := by decide +kernel
theorem dX8_takesSet_77 : decode cX8_takesSet 77 = .ok (.getfield 42, 3) := by decide +kernel
theorem dX8_takesSet_80 : decode cX8_takesSet 80 = .ok (.iload_n 2, 1) := by decide +kernel
theorem dX8_takesSet_81 : decode cX8_takesSet 81 = .ok (.iaload, 1) := by decide +kernel
theorem dX8_takesSet_82 : decode cX8_takesSet 82 = .ok (.bipush 63, 2) := by decide +kernel
theorem dX8_takesSet_84 : decode cX8_takesSet 84 = .ok (.if_icmp .gt 7, 3) := by decide +kernel
theorem dX8_takesSet_87 : decode cX8_takesSet 87 = .ok (.iconst 1, 1) := by decide +kernel
theorem dX8_takesSet_88 : decode cX8_takesSet 88 = .ok (.goto 4, 3) := by decide +kernel
theorem dX8_takesSet_91 : decode cX8_takesSet 91 = .ok (.iconst 0, 1) := by decide +kernel
theorem dX8_takesSet_92 : decode cX8_takesSet 92 = .ok (.ireturn, 1) := by decide +kernel
theorem dX8_kindBy_0 : decode cX8_kindBy 0 = .ok (.iload_n 0, 1) := by decide +kernel
theorem dX8_kindBy_1 : decode cX8_kindBy 1 = .ok (.bipush 98, 2) := by decide +kernel
theorem dX8_kindBy_3 : decode cX8_kindBy 3 = .ok (.if_icmp .ne 7, 3) := by decide +kernel
theorem dX8_kindBy_6 : decode cX8_kindBy 6 = .ok (.iconst 0, 1) := by decide +kernel
theorem dX8_kindBy_7 : decode cX8_kindBy 7 = .ok (.goto 55, 3) := by decide +kernel
theorem dX8_kindBy_10 : decode cX8_kindBy 10 = .ok (.iload_n 0, 1) := by decide +kernel
theorem dX8_kindBy_11 : decode cX8_kindBy 11 = .ok (.bipush 108, 2) := by decide +kernel
theorem dX8_kindBy_13 : decode cX8_kindBy 13 = .ok (.if_icmp .ne 7, 3) := by decide +kernel
theorem dX8_kindBy_16 : decode cX8_kindBy 16 = .ok (.iconst 1, 1) := by decide +kernel
theorem dX8_kindBy_17 : decode cX8_kindBy 17 = .ok (.goto 45, 3) := by decide +kernel
theorem dX8_kindBy_20 : decode cX8_kindBy 20 = .ok (.iload_n 0, 1) := by decide +kernel
theorem dX8_kindBy_21 : decode cX8_kindBy 21 = .ok (.bipush 112, 2) := by decide +kernel
theorem dX8_kindBy_23 : decode cX8_kindBy 23 = .ok (.if_icmp .ne 7, 3) := by decide +kernel
theorem dX8_kindBy_26 : decode cX8_kindBy 26 = .ok (.iconst 2, 1) := by decide +kernel
theorem dX8_kindBy_27 : decode cX8_kindBy 27 = .ok (.goto 35, 3) := by decide +kernel
theorem dX8_kindBy_30 : decode cX8_kindBy 30 = .ok (.iload_n 0, 1) := by decide +kernel
theorem dX8_kindBy_31 : decode cX8_kindBy 31 = .ok (.bipush 109, 2) := by decide +kernel
theorem dX8_kindBy_33 : decode cX8_kindBy 33 = .ok (.if_icmp .ne 7, 3) := by decide +kernel
theorem dX8_kindBy_36 : decode cX8_kindBy 36 = .ok (.iconst 3, 1) := by decide +kernel
theorem dX8_kindBy_37 : decode cX8_kindBy 37 = .ok (.goto 25, 3) := by decide +kernel
theorem dX8_kindBy_40 : decode cX8_kindBy 40 = .ok (.iload_n 0, 1) := by decide +kernel
theorem dX8_kindBy_41 : decode cX8_kindBy 41 = .ok (.bipush 103, 2) := by decide +kernel
theorem dX8_kindBy_43 : decode cX8_kindBy 43 = .ok (.if_icmp .ne 7, 3) := by decide +kernel
theorem dX8_kindBy_46 : decode cX8_kindBy 46 = .ok (.iconst 4, 1) := by decide +kernel
theorem dX8_kindBy_47 : decode cX8_kindBy 47 = .ok (.goto 15, 3) := by decide +kernel
theorem dX8_kindBy_50 : decode cX8_kindBy 50 = .ok (.iload_n 0, 1) := by decide +kernel
theorem dX8_kindBy_51 : decode cX8_kindBy 51 = .ok (.bipush 114, 2) := by decide +kernel
theorem dX8_kindBy_53 : decode cX8_kindBy 53 = .ok (.if_icmp .ne 7, 3) := by decide +kernel
theorem dX8_kindBy_56 : decode cX8_kindBy 56 = .ok (.iconst 5, 1) := by decide +kernel
theorem dX8_kindBy_57 : decode cX8_kindBy 57 = .ok (.goto 5, 3) := by decide +kernel
theorem dX8_kindBy_60 : decode cX8_kindBy 60 = .ok (.bipush (-9), 2) := by decide +kernel
theorem dX8_kindBy_62 : decode cX8_kindBy 62 = .ok (.ireturn, 1) := by decide +kernel
theorem dX8_takesFirst_0 : decode cX8_takesFirst 0 = .ok (.aload_n 0, 1) := by decide +kernel
theorem dX8_takesFirst_1 : decode cX8_takesFirst 1 = .ok (.iload_n 1, 1) := by decide +kernel
theorem dX8_takesFirst_2 : decode cX8_takesFirst 2 = .ok (.invokevirtual 105, 3) := by decide +kernel
theorem dX8_takesFirst_5 : decode cX8_takesFirst 5 = .ok (.aload_n 0, 1) := by decide +kernel
theorem dX8_takesFirst_6 : decode cX8_takesFirst 6 = .ok (.iload_n 1, 1) := by decide +kernel
theorem dX8_takesFirst_7 : decode cX8_takesFirst 7 = .ok (.invokevirtual 96, 3) := by decide +kernel
theorem dX8_takesFirst_10 : decode cX8_takesFirst 10 = .ok (.bipush 107, 2) := by decide +kernel
theorem dX8_takesFirst_12 : decode cX8_takesFirst 12 = .ok (.if_icmp .eq 5, 3) := by decide +kernel
theorem dX8_takesFirst_15 : decode cX8_takesFirst 15 = .ok (.iconst 0, 1) := by decide +kernel
theorem dX8_takesFirst_16 : decode cX8_takesFirst 16 = .ok (.ireturn, 1) := by decide +kernel
theorem dX8_takesFirst_17 : decode cX8_takesFirst 17 = .ok (.aload_n 0, 1) := by decide +kernel
theorem dX8_takesFirst_18 : decode cX8_takesFirst 18 = .ok (.dup, 1) := by decide +kernel
theorem dX8_takesFirst_19 : decode cX8_takesFirst 19 = .ok (.getfield 93, 3) := by decide +kernel
theorem dX8_takesFirst_22 : decode cX8_takesFirst 22 = .ok (.iconst 1, 1) := by decide +kernel
theorem dX8_takesFirst_23 : decode cX8_takesFirst 23 = .ok (.iadd, 1) := by decide +kernel
theorem dX8_takesFirst_24 : decode cX8_takesFirst 24 = .ok (.putfield 93, 3) := by decide +kernel
theorem dX8_takesFirst_27 : decode cX8_takesFirst 27 = .ok (.aload_n 0, 1) := by decide +kernel
theorem dX8_takesFirst_28 : decode cX8_takesFirst 28 = .ok (.iload_n 1, 1) := by decide +kernel
theorem dX8_takesFirst_29 : decode cX8_takesFirst 29 = .ok (.iconst 1, 1) := by decide +kernel
theorem dX8_takesFirst_30 : decode cX8_takesFirst 30 = .ok (.invokevirtual 109, 3) := by decide +kernel
theorem dX8_takesFirst_33 : decode cX8_takesFirst 33 = .ok (.ireturn, 1) := by decide +kernel
theorem dX8_takesBear_0 : decode cX8_takesBear 0 = .ok (.aload_n 0, 1) := by decide +kernel
theorem dX8_takesBear_1 : decode cX8_takesBear 1 = .ok (.getfield 42, 3) := by decide +kernel
theorem dX8_takesBear_4 : decode cX8_takesBear 4 = .ok (.iconst 0, 1) := by decide +kernel
theorem dX8_takesBear_5 : decode cX8_takesBear 5 = .ok (.iaload, 1) := by decide +kernel
theorem dX8_takesBear_6 : decode cX8_takesBear 6 = .ok (.istore_n 2, 1) := by decide +kernel
theorem dX8_takesBear_7 : decode cX8_takesBear 7 = .ok (.aload_n 0, 1) := by decide +kernel
theorem dX8_takesBear_8 : decode cX8_takesBear 8 = .ok (.iload_n 1, 1) := by decide +kernel
theorem dX8_takesBear_9 : decode cX8_takesBear 9 = .ok (.invokevirtual 96, 3) := by decide +kernel
theorem dX8_takesBear_12 : decode cX8_takesBear 12 = .ok (.invokestatic 113, 3) := by decide +kernel
theorem dX8_takesBear_15 : decode cX8_takesBear 15 = .ok (.istore_n 3, 1) := by decide +kernel
theorem dX8_takesBear_16 : decode cX8_takesBear 16 = .ok (.iload_n 3, 1) := by decide +kernel
theorem dX8_takesBear_17 : decode cX8_takesBear 17 = .ok (.bipush (-9), 2) := by decide +kernel
theorem dX8_takesBear_19 : decode cX8_takesBear 19 = .ok (.if_icmp .eq 9, 3) := by decide +kernel
theorem dX8_takesBear_22 : decode cX8_takesBear 22 = .ok (.iload_n 2, 1) := by decide +kernel
theorem dX8_takesBear_23 : decode cX8_takesBear 23 = .ok (.bipush 6, 2) := by decide +kernel
theorem dX8_takesBear_25 : decode cX8_takesBear 25 = .ok (.if_icmp .ne 5, 3) := by decide +kernel
theorem dX8_takesBear_28 : decode cX8_takesBear 28 = .ok (.iconst 0, 1) := by decide +kernel
theorem dX8_takesBear_29 : decode cX8_takesBear 29 = .ok (.ireturn, 1) := by decide +kernel
theorem dX8_takesBear_30 : decode cX8_takesBear 30 = .ok (.aload_n 0, 1) := by decide +kernel
theorem dX8_takesBear_31 : decode cX8_takesBear 31 = .ok (.getfield 42, 3) := by decide +kernel
theorem dX8_takesBear_34 : decode cX8_takesBear 34 = .ok (.iconst 2, 1) := by decide +kernel
theorem dX8_takesBear_35 : decode cX8_takesBear 35 = .ok (.iload_n 2, 1) := by decide +kernel
theorem dX8_takesBear_36 : decode cX8_takesBear 36 = .ok (.iadd, 1) := by decide +kernel
theorem dX8_takesBear_37 : decode cX8_takesBear 37 = .ok (.iload_n 3, 1) := by decide +kernel
theorem dX8_takesBear_38 : decode cX8_takesBear 38 = .ok (.iastore, 1) := by decide +kernel
theorem dX8_takesBear_39 : decode cX8_takesBear 39 = .ok (.aload_n 0, 1) := by decide +kernel
theorem dX8_takesBear_40 : decode cX8_takesBear 40 = .ok (.dup, 1) := by decide +kernel
theorem dX8_takesBear_41 : decode cX8_takesBear 41 = .ok (.getfield 93, 3) := by decide +kernel
theorem dX8_takesBear_44 : decode cX8_takesBear 44 = .ok (.iconst 1, 1) := by decide +kernel
theorem dX8_takesBear_45 : decode cX8_takesBear 45 = .ok (.iadd, 1) := by decide +kernel
theorem dX8_takesBear_46 : decode cX8_takesBear 46 = .ok (.putfield 93, 3) := by decide +kernel
theorem dX8_takesBear_49 : decode cX8_takesBear 49 = .ok (.aload_n 0, 1) := by decide +kernel
theorem dX8_takesBear_50 : decode cX8_takesBear 50 = .ok (.iload_n 1, 1) := by decide +kernel
theorem dX8_takesBear_51 : decode cX8_takesBear 51 = .ok (.bipush 8, 2) := by decide +kernel
theorem dX8_takesBear_53 : decode cX8_takesBear 53 = .ok (.iload_n 2, 1) := by decide +kernel
theorem dX8_takesBear_54 : decode cX8_takesBear 54 = .ok (.iadd, 1) := by decide +kernel
theorem dX8_takesBear_55 : decode cX8_takesBear 55 = .ok (.iconst 2, 1) := by decide +kernel
theorem dX8_takesBear_56 : decode cX8_takesBear 56 = .ok (.invokevirtual 101, 3) := by decide +kernel
theorem dX8_takesBear_59 : decode cX8_takesBear 59 = .ok (.ifCond .eq 29, 3) := by decide +kernel
theorem dX8_takesBear_62 : decode cX8_takesBear 62 = .ok (.aload_n 0, 1) := by decide +kernel
theorem dX8_takesBear_63 : decode cX8_takesBear 63 = .ok (.iload_n 1, 1) := by decide +kernel
theorem dX8_takesBear_64 : decode cX8_takesBear 64 = .ok (.bipush 14, 2) := by decide +kernel
theorem dX8_takesBear_66 : decode cX8_takesBear 66 = .ok (.iload_n 2, 1) := by decide +kernel
theorem dX8_takesBear_67 : decode cX8_takesBear 67 = .ok (.iadd, 1) := by decide +kernel
theorem dX8_takesBear_68 : decode cX8_takesBear 68 = .ok (.bipush 9, 2) := by decide +kernel
theorem dX8_takesBear_70 : decode cX8_takesBear 70 = .ok (.invokevirtual 101, 3) := by decide +kernel
theorem dX8_takesBear_73 : decode cX8_takesBear 73 = .ok (.ifCond .eq 15, 3) := by decide +kernel
theorem dX8_takesBear_76 : decode cX8_takesBear 76 = .ok (.aload_n 0, 1) := by decide +kernel
theorem dX8_takesBear_77 : decode cX8_takesBear 77 = .ok (.iload_n 1, 1) := by decide +kernel
theorem dX8_takesBear_78 : decode cX8_takesBear 78 = .ok (.bipush 20, 2) := by decide +kernel
theorem dX8_takesBear_80 : decode cX8_takesBear 80 = .ok (.iload_n 2, 1) := by decide +kernel
theorem dX8_takesBear_81 : decode cX8_takesBear 81 = .ok (.iadd, 1) := by decide +kernel
theorem dX8_takesBear_82 : decode cX8_takesBear 82 = .ok (.invokevirtual 109, 3) := by decide +kernel
theorem dX8_takesBear_85 : decode cX8_takesBear 85 = .ok (.ifCond .ne 5, 3) := by decide +kernel
theorem dX8_takesBear_88 : decode cX8_takesBear 88 = .ok (.iconst 0, 1) := by decide +kernel
theorem dX8_takesBear_89 : decode cX8_takesBear 89 = .ok (.ireturn, 1) := by decide +kernel
theorem dX8_takesBear_90 : decode cX8_takesBear 90 = .ok (.aload_n 0, 1) := by decide +kernel
theorem dX8_takesBear_91 : decode cX8_takesBear 91 = .ok (.getfield 42, 3) := by decide +kernel
theorem dX8_takesBear_94 : decode cX8_takesBear 94 = .ok (.iconst 0, 1) := by decide +kernel
theorem dX8_takesBear_95 : decode cX8_takesBear 95 = .ok (.dup2, 1) := by decide +kernel
theorem dX8_takesBear_96 : decode cX8_takesBear 96 = .ok (.iaload, 1) := by decide +kernel
theorem dX8_takesBear_97 : decode cX8_takesBear 97 = .ok (.iconst 1, 1) := by decide +kernel
theorem dX8_takesBear_98 : decode cX8_takesBear 98 = .ok (.iadd, 1) := by decide +kernel
theorem dX8_takesBear_99 : decode cX8_takesBear 99 = .ok (.iastore, 1) := by decide +kernel
theorem dX8_takesBear_100 : decode cX8_takesBear 100 = .ok (.iconst 1, 1) := by decide +kernel
theorem dX8_takesBear_101 : decode cX8_takesBear 101 = .ok (.ireturn, 1) := by decide +kernel
theorem dX8_faultOf_0 : decode cX8_faultOf 0 = .ok (.aload_n 0, 1) := by decide +kernel
theorem dX8_faultOf_1 : decode cX8_faultOf 1 = .ok (.iconst 0, 1) := by decide +kernel
theorem dX8_faultOf_2 : decode cX8_faultOf 2 = .ok (.putfield 93, 3) := by decide +kernel
theorem dX8_faultOf_5 : decode cX8_faultOf 5 = .ok (.aload_n 0, 1) := by decide +kernel
theorem dX8_faultOf_6 : decode cX8_faultOf 6 = .ok (.getfield 42, 3) := by decide +kernel
theorem dX8_faultOf_9 : decode cX8_faultOf 9 = .ok (.iconst 0, 1) := by decide +kernel
theorem dX8_faultOf_10 : decode cX8_faultOf 10 = .ok (.iconst 0, 1) := by decide +kernel
theorem dX8_faultOf_11 : decode cX8_faultOf 11 = .ok (.iastore, 1) := by decide +kernel
theorem dX8_faultOf_12 : decode cX8_faultOf 12 = .ok (.aload_n 0, 1) := by decide +kernel
theorem dX8_faultOf_13 : decode cX8_faultOf 13 = .ok (.iload_n 1, 1) := by decide +kernel
theorem dX8_faultOf_14 : decode cX8_faultOf 14 = .ok (.invokevirtual 116, 3) := by decide +kernel
theorem dX8_faultOf_17 : decode cX8_faultOf 17 = .ok (.istore_n 2, 1) := by decide +kernel
theorem dX8_faultOf_18 : decode cX8_faultOf 18 = .ok (.iload_n 2, 1) := by decide +kernel
theorem dX8_faultOf_19 : decode cX8_faultOf 19 = .ok (.ifCond .eq 8, 3) := by decide +kernel
theorem dX8_faultOf_22 : decode cX8_faultOf 22 = .ok (.aload_n 0, 1) := by decide +kernel
theorem dX8_faultOf_23 : decode cX8_faultOf 23 = .ok (.iload_n 1, 1) := by decide +kernel
theorem dX8_faultOf_24 : decode cX8_faultOf 24 = .ok (.invokevirtual 105, 3) := by decide +kernel
theorem dX8_faultOf_27 : decode cX8_faultOf 27 = .ok (.iload_n 2, 1) := by decide +kernel
theorem dX8_faultOf_28 : decode cX8_faultOf 28 = .ok (.ifCond .eq 34, 3) := by decide +kernel
theorem dX8_faultOf_31 : decode cX8_faultOf 31 = .ok (.aload_n 0, 1) := by decide +kernel
theorem dX8_faultOf_32 : decode cX8_faultOf 32 = .ok (.getfield 93, 3) := by decide +kernel
theorem dX8_faultOf_35 : decode cX8_faultOf 35 = .ok (.aload_n 0, 1) := by decide +kernel
theorem dX8_faultOf_36 : decode cX8_faultOf 36 = .ok (.getfield 29, 3) := by decide +kernel
theorem dX8_faultOf_39 : decode cX8_faultOf 39 = .ok (.iload_n 1, 1) := by decide +kernel
theorem dX8_faultOf_40 : decode cX8_faultOf 40 = .ok (.iaload, 1) := by decide +kernel
theorem dX8_faultOf_41 : decode cX8_faultOf 41 = .ok (.if_icmp .ge 21, 3) := by decide +kernel
theorem dX8_faultOf_44 : decode cX8_faultOf 44 = .ok (.aload_n 0, 1) := by decide +kernel
theorem dX8_faultOf_45 : decode cX8_faultOf 45 = .ok (.iload_n 1, 1) := by decide +kernel
theorem dX8_faultOf_46 : decode cX8_faultOf 46 = .ok (.invokevirtual 119, 3) := by decide +kernel
theorem dX8_faultOf_49 : decode cX8_faultOf 49 = .ok (.istore_n 2, 1) := by decide +kernel
theorem dX8_faultOf_50 : decode cX8_faultOf 50 = .ok (.iload_n 2, 1) := by decide +kernel
theorem dX8_faultOf_51 : decode cX8_faultOf 51 = .ok (.ifCond .eq (-24), 3) := by decide +kernel
theorem dX8_faultOf_54 : decode cX8_faultOf 54 = .ok (.aload_n 0, 1) := by decide +kernel
theorem dX8_faultOf_55 : decode cX8_faultOf 55 = .ok (.iload_n 1, 1) := by decide +kernel
theorem dX8_faultOf_56 : decode cX8_faultOf 56 = .ok (.invokevirtual 105, 3) := by decide +kernel
theorem dX8_faultOf_59 : decode cX8_faultOf 59 = .ok (.goto (-32), 3) := by decide +kernel
theorem dX8_faultOf_62 : decode cX8_faultOf 62 = .ok (.iload_n 2, 1) := by decide +kernel
theorem dX8_faultOf_63 : decode cX8_faultOf 63 = .ok (.ifCond .eq 17, 3) := by decide +kernel
theorem dX8_faultOf_66 : decode cX8_faultOf 66 = .ok (.aload_n 0, 1) := by decide +kernel
theorem dX8_faultOf_67 : decode cX8_faultOf 67 = .ok (.getfield 42, 3) := by decide +kernel
theorem dX8_faultOf_70 : decode cX8_faultOf 70 = .ok (.iconst 0, 1) := by decide +kernel
theorem dX8_faultOf_71 : decode cX8_faultOf 71 = .ok (.iaload, 1) := by decide +kernel
theorem dX8_faultOf_72 : decode cX8_faultOf 72 = .ok (.ifCond .le 8, 3) := by decide +kernel
theorem dX8_faultOf_75 : decode cX8_faultOf 75 = .ok (.bipush (-9), 2) := by decide +kernel
theorem dX8_faultOf_77 : decode cX8_faultOf 77 = .ok (.goto 7, 3) := by decide +kernel
theorem dX8_faultOf_80 : decode cX8_faultOf 80 = .ok (.aload_n 0, 1) := by decide +kernel
theorem dX8_faultOf_81 : decode cX8_faultOf 81 = .ok (.getfield 93, 3) := by decide +kernel
theorem dX8_faultOf_84 : decode cX8_faultOf 84 = .ok (.ireturn, 1) := by decide +kernel
theorem dX8_fault_0 : decode cX8_fault 0 = .ok (.iload_n 1, 1) := by decide +kernel
theorem dX8_fault_1 : decode cX8_fault 1 = .ok (.invokestatic 90, 3) := by decide +kernel
theorem dX8_fault_4 : decode cX8_fault 4 = .ok (.ifCond .ne 5, 3) := by decide +kernel
theorem dX8_fault_7 : decode cX8_fault 7 = .ok (.iconst (-1), 1) := by decide +kernel
theorem dX8_fault_8 : decode cX8_fault 8 = .ok (.ireturn, 1) := by decide +kernel
theorem dX8_fault_9 : decode cX8_fault 9 = .ok (.aload_n 0, 1) := by decide +kernel
theorem dX8_fault_10 : decode cX8_fault 10 = .ok (.getfield 29, 3) := by decide +kernel
theorem dX8_fault_13 : decode cX8_fault 13 = .ok (.iload_n 1, 1) := by decide +kernel
theorem dX8_fault_14 : decode cX8_fault 14 = .ok (.iaload, 1) := by decide +kernel
theorem dX8_fault_15 : decode cX8_fault 15 = .ok (.ifCond .ge 11, 3) := by decide +kernel
theorem dX8_fault_18 : decode cX8_fault 18 = .ok (.aload_n 0, 1) := by decide +kernel
theorem dX8_fault_19 : decode cX8_fault 19 = .ok (.iconst 1, 1) := by decide +kernel
theorem dX8_fault_20 : decode cX8_fault 20 = .ok (.invokevirtual 79, 3) := by decide +kernel
theorem dX8_fault_23 : decode cX8_fault 23 = .ok (.goto 8, 3) := by decide +kernel
theorem dX8_fault_26 : decode cX8_fault 26 = .ok (.aload_n 0, 1) := by decide +kernel
theorem dX8_fault_27 : decode cX8_fault 27 = .ok (.iload_n 1, 1) := by decide +kernel
theorem dX8_fault_28 : decode cX8_fault 28 = .ok (.invokevirtual 122, 3) := by decide +kernel
theorem dX8_fault_31 : decode cX8_fault 31 = .ok (.ireturn, 1) := by decide +kernel
theorem dX8_court_0 : decode cX8_court 0 = .ok (.iload_n 1, 1) := by decide +kernel
theorem dX8_court_1 : decode cX8_court 1 = .ok (.invokestatic 90, 3) := by decide +kernel
theorem dX8_court_4 : decode cX8_court 4 = .ok (.ifCond .ne 5, 3) := by decide +kernel
theorem dX8_court_7 : decode cX8_court 7 = .ok (.iconst (-1), 1) := by decide +kernel
theorem dX8_court_8 : decode cX8_court 8 = .ok (.ireturn, 1) := by decide +kernel
theorem dX8_court_9 : decode cX8_court 9 = .ok (.aload_n 0, 1) := by decide +kernel
theorem dX8_court_10 : decode cX8_court 10 = .ok (.getfield 29, 3) := by decide +kernel
theorem dX8_court_13 : decode cX8_court 13 = .ok (.iload_n 1, 1) := by decide +kernel
theorem dX8_court_14 : decode cX8_court 14 = .ok (.iaload, 1) := by decide +kernel
theorem dX8_court_15 : decode cX8_court 15 = .ok (.ifCond .ge 9, 3) := by decide +kernel
theorem dX8_court_18 : decode cX8_court 18 = .ok (.aload_n 0, 1) := by decide +kernel
theorem dX8_court_19 : decode cX8_court 19 = .ok (.iconst 1, 1) := by decide +kernel
theorem dX8_court_20 : decode cX8_court 20 = .ok (.invokevirtual 79, 3) := by decide +kernel
theorem dX8_court_23 : decode cX8_court 23 = .ok (.ireturn, 1) := by decide +kernel
theorem dX8_court_24 : decode cX8_court 24 = .ok (.aload_n 0, 1) := by decide +kernel
theorem dX8_court_25 : decode cX8_court 25 = .ok (.iload_n 1, 1) := by decide +kernel
theorem dX8_court_26 : decode cX8_court 26 = .ok (.invokevirtual 122, 3) := by decide +kernel
theorem dX8_court_29 : decode cX8_court 29 = .ok (.bipush (-9), 2) := by decide +kernel
theorem dX8_court_31 : decode cX8_court 31 = .ok (.if_icmp .eq 6, 3) := by decide +kernel
theorem dX8_court_34 : decode cX8_court 34 = .ok (.bipush (-4), 2) := by decide +kernel
theorem dX8_court_36 : decode cX8_court 36 = .ok (.ireturn, 1) := by decide +kernel
theorem dX8_court_37 : decode cX8_court 37 = .ok (.iconst 0, 1) := by decide +kernel
theorem dX8_court_38 : decode cX8_court 38 = .ok (.istore_n 2, 1) := by decide +kernel
theorem dX8_court_39 : decode cX8_court 39 = .ok (.iload_n 2, 1) := by decide +kernel
theorem dX8_court_40 : decode cX8_court 40 = .ok (.bipush 26, 2) := by decide +kernel
theorem dX8_court_42 : decode cX8_court 42 = .ok (.if_icmp .ge 21, 3) := by decide +kernel
theorem dX8_court_45 : decode cX8_court 45 = .ok (.aload_n 0, 1) := by decide +kernel
theorem dX8_court_46 : decode cX8_court 46 = .ok (.getfield 7, 3) := by decide +kernel
theorem dX8_court_49 : decode cX8_court 49 = .ok (.iload_n 2, 1) := by decide +kernel
theorem dX8_court_50 : decode cX8_court 50 = .ok (.aload_n 0, 1) := by decide +kernel
theorem dX8_court_51 : decode cX8_court 51 = .ok (.getfield 42, 3) := by decide +kernel
theorem dX8_court_54 : decode cX8_court 54 = .ok (.iload_n 2, 1) := by decide +kernel
theorem dX8_court_55 : decode cX8_court 55 = .ok (.iaload, 1) := by decide +kernel
theorem dX8_court_56 : decode cX8_court 56 = .ok (.iastore, 1) := by decide +kernel
theorem dX8_court_57 : decode cX8_court 57 = .ok (.iinc 2 1, 3) := by decide +kernel
theorem dX8_court_60 : decode cX8_court 60 = .ok (.goto (-21), 3) := by decide +kernel
theorem dX8_court_63 : decode cX8_court 63 = .ok (.aload_n 0, 1) := by decide +kernel
theorem dX8_court_64 : decode cX8_court 64 = .ok (.getfield 7, 3) := by decide +kernel
theorem dX8_court_67 : decode cX8_court 67 = .ok (.bipush 26, 2) := by decide +kernel
theorem dX8_court_69 : decode cX8_court 69 = .ok (.iconst 0, 1) := by decide +kernel
theorem dX8_court_70 : decode cX8_court 70 = .ok (.iastore, 1) := by decide +kernel
theorem dX8_court_71 : decode cX8_court 71 = .ok (.aload_n 0, 1) := by decide +kernel
theorem dX8_court_72 : decode cX8_court 72 = .ok (.getfield 7, 3) := by decide +kernel
theorem dX8_court_75 : decode cX8_court 75 = .ok (.invokestatic 125, 3) := by decide +kernel
theorem dX8_court_78 : decode cX8_court 78 = .ok (.iconst 0, 1) := by decide +kernel
theorem dX8_court_79 : decode cX8_court 79 = .ok (.istore_n 2, 1) := by decide +kernel
theorem dX8_court_80 : decode cX8_court 80 = .ok (.iload_n 2, 1) := by decide +kernel
theorem dX8_court_81 : decode cX8_court 81 = .ok (.iconst 3, 1) := by decide +kernel
theorem dX8_court_82 : decode cX8_court 82 = .ok (.if_icmp .ge 16, 3) := by decide +kernel
theorem dX8_court_85 : decode cX8_court 85 = .ok (.aload_n 0, 1) := by decide +kernel
theorem dX8_court_86 : decode cX8_court 86 = .ok (.getfield 16, 3) := by decide +kernel
theorem dX8_court_89 : decode cX8_court 89 = .ok (.iload_n 2, 1) := by decide +kernel
theorem dX8_court_90 : decode cX8_court 90 = .ok (.iconst 0, 1) := by decide +kernel
theorem dX8_court_91 : decode cX8_court 91 = .ok (.bastore, 1) := by decide +kernel
theorem dX8_court_92 : decode cX8_court 92 = .ok (.iinc 2 1, 3) := by decide +kernel
theorem dX8_court_95 : decode cX8_court 95 = .ok (.goto (-15), 3) := by decide +kernel
theorem dX8_court_98 : decode cX8_court 98 = .ok (.aload_n 0, 1) := by decide +kernel
theorem dX8_court_99 : decode cX8_court 99 = .ok (.getfield 7, 3) := by decide +kernel
theorem dX8_court_102 : decode cX8_court 102 = .ok (.iconst 0, 1) := by decide +kernel
theorem dX8_court_103 : decode cX8_court 103 = .ok (.iaload, 1) := by decide +kernel
theorem dX8_court_104 : decode cX8_court 104 = .ok (.ireturn, 1) := by decide +kernel
theorem dX8_begin_0 : decode cX8_begin 0 = .ok (.iconst 0, 1) := by decide +kernel
theorem dX8_begin_1 : decode cX8_begin 1 = .ok (.istore_n 1, 1) := by decide +kernel
theorem dX8_begin_2 : decode cX8_begin 2 = .ok (.iload_n 1, 1) := by decide +kernel
theorem dX8_begin_3 : decode cX8_begin 3 = .ok (.bipush 6, 2) := by decide +kernel
theorem dX8_begin_5 : decode cX8_begin 5 = .ok (.if_icmp .ge 33, 3) := by decide +kernel
theorem dX8_begin_8 : decode cX8_begin 8 = .ok (.aload_n 0, 1) := by decide +kernel
theorem dX8_begin_9 : decode cX8_begin 9 = .ok (.bipush 67, 2) := by decide +kernel
theorem dX8_begin_11 : decode cX8_begin 11 = .ok (.iload_n 1, 1) := by decide +kernel
theorem dX8_begin_12 : decode cX8_begin 12 = .ok (.iadd, 1) := by decide +kernel
theorem dX8_begin_13 : decode cX8_begin 13 = .ok (.aload_n 0, 1) := by decide +kernel
theorem dX8_begin_14 : decode cX8_begin 14 = .ok (.bipush 8, 2) := by decide +kernel
theorem dX8_begin_16 : decode cX8_begin 16 = .ok (.iload_n 1, 1) := by decide +kernel
theorem dX8_begin_17 : decode cX8_begin 17 = .ok (.iadd, 1) := by decide +kernel
theorem dX8_begin_18 : decode cX8_begin 18 = .ok (.iaload, 1) := by decide +kernel
theorem dX8_begin_19 : decode cX8_begin 19 = .ok (.iastore, 1) := by decide +kernel
theorem dX8_begin_20 : decode cX8_begin 20 = .ok (.aload_n 0, 1) := by decide +kernel
theorem dX8_begin_21 : decode cX8_begin 21 = .ok (.bipush 73, 2) := by decide +kernel
theorem dX8_begin_23 : decode cX8_begin 23 = .ok (.iload_n 1, 1) := by decide +kernel
theorem dX8_begin_24 : decode cX8_begin 24 = .ok (.iadd, 1) := by decide +kernel
theorem dX8_begin_25 : decode cX8_begin 25 = .ok (.aload_n 0, 1) := by decide +kernel
theorem dX8_begin_26 : decode cX8_begin 26 = .ok (.bipush 14, 2) := by decide +kernel
theorem dX8_begin_28 : decode cX8_begin 28 = .ok (.iload_n 1, 1) := by decide +kernel
theorem dX8_begin_29 : decode cX8_begin 29 = .ok (.iadd, 1) := by decide +kernel
theorem dX8_begin_30 : decode cX8_begin 30 = .ok (.iaload, 1) := by decide +kernel
theorem dX8_begin_31 : decode cX8_begin 31 = .ok (.iastore, 1) := by decide +kernel
theorem dX8_begin_32 : decode cX8_begin 32 = .ok (.iinc 1 1, 3) := by decide +kernel
theorem dX8_begin_35 : decode cX8_begin 35 = .ok (.goto (-33), 3) := by decide +kernel
theorem dX8_begin_38 : decode cX8_begin 38 = .ok (.aload_n 0, 1) := by decide +kernel
theorem dX8_begin_39 : decode cX8_begin 39 = .ok (.bipush 79, 2) := by decide +kernel
theorem dX8_begin_41 : decode cX8_begin 41 = .ok (.iconst 0, 1) := by decide +kernel
theorem dX8_begin_42 : decode cX8_begin 42 = .ok (.iastore, 1) := by decide +kernel
theorem dX8_begin_43 : decode cX8_begin 43 = .ok (.return_, 1) := by decide +kernel
theorem dX8_has_0 : decode cX8_has 0 = .ok (.iload_n 0, 1) := by decide +kernel
theorem dX8_has_1 : decode cX8_has 1 = .ok (.iload_n 1, 1) := by decide +kernel
theorem dX8_has_2 : decode cX8_has 2 = .ok (.ishr, 1) := by decide +kernel
theorem dX8_has_3 : decode cX8_has 3 = .ok (.iconst 1, 1) := by decide +kernel
theorem dX8_has_4 : decode cX8_has 4 = .ok (.iand, 1) := by decide +kernel
theorem dX8_has_5 : decode cX8_has 5 = .ok (.iconst 1, 1) := by decide +kernel
theorem dX8_has_6 : decode cX8_has 6 = .ok (.if_icmp .ne 7, 3) := by decide +kernel
theorem dX8_has_9 : decode cX8_has 9 = .ok (.iconst 1, 1) := by decide +kernel
theorem dX8_has_10 : decode cX8_has 10 = .ok (.goto 4, 3) := by decide +kernel
theorem dX8_has_13 : decode cX8_has 13 = .ok (.iconst 0, 1) := by decide +kernel
theorem dX8_has_14 : decode cX8_has 14 = .ok (.ireturn, 1) := by decide +kernel
theorem dX8_bits_0 : decode cX8_bits 0 = .ok (.iconst 0, 1) := by decide +kernel
theorem dX8_bits_1 : decode cX8_bits 1 = .ok (.istore_n 1, 1) := by decide +kernel
theorem dX8_bits_2 : decode cX8_bits 2 = .ok (.iload_n 0, 1) := by decide +kernel
theorem dX8_bits_3 : decode cX8_bits 3 = .ok (.istore_n 2, 1) := by decide +kernel
theorem dX8_bits_4 : decode cX8_bits 4 = .ok (.iload_n 2, 1) := by decide +kernel
theorem dX8_bits_5 : decode cX8_bits 5 = .ok (.ifCond .le 16, 3) := by decide +kernel
theorem dX8_bits_8 : decode cX8_bits 8 = .ok (.iload_n 1, 1) := by decide +kernel
theorem dX8_bits_9 : decode cX8_bits 9 = .ok (.iload_n 2, 1) := by decide +kernel
theorem dX8_bits_10 : decode cX8_bits 10 = .ok (.iconst 1, 1) := by decide +kernel
theorem dX8_bits_11 : decode cX8_bits 11 = .ok (.iand, 1) := by decide +kernel
theorem dX8_bits_12 : decode cX8_bits 12 = .ok (.iadd, 1) := by decide +kernel
theorem dX8_bits_13 : decode cX8_bits 13 = .ok (.istore_n 1, 1) := by decide +kernel
theorem dX8_bits_14 : decode cX8_bits 14 = .ok (.iload_n 2, 1) := by decide +kernel
theorem dX8_bits_15 : decode cX8_bits 15 = .ok (.iconst 1, 1) := by decide +kernel
theorem dX8_bits_16 : decode cX8_bits 16 = .ok (.ishr, 1) := by decide +kernel
theorem dX8_bits_17 : decode cX8_bits 17 = .ok (.istore_n 2, 1) := by decide +kernel
theorem dX8_bits_18 : decode cX8_bits 18 = .ok (.goto (-14), 3) := by decide +kernel
theorem dX8_bits_21 : decode cX8_bits 21 = .ok (.iload_n 1, 1) := by decide +kernel
theorem dX8_bits_22 : decode cX8_bits 22 = .ok (.ireturn, 1) := by decide +kernel
theorem dX8_seesAs_0 : decode cX8_seesAs 0 = .ok (.iload_n 3, 1) := by decide +kernel
theorem dX8_seesAs_1 : decode cX8_seesAs 1 = .ok (.iload 4, 2) := by decide +kernel
theorem dX8_seesAs_3 : decode cX8_seesAs 3 = .ok (.invokestatic 129, 3) := by decide +kernel
theorem dX8_seesAs_6 : decode cX8_seesAs 6 = .ok (.istore 5, 2) := by decide +kernel
theorem dX8_seesAs_8 : decode cX8_seesAs 8 = .ok (.iload_n 1, 1) := by decide +kernel
theorem dX8_seesAs_9 : decode cX8_seesAs 9 = .ok (.iconst 2, 1) := by decide +kernel
theorem dX8_seesAs_10 : decode cX8_seesAs 10 = .ok (.if_icmp .eq 15, 3) := by decide +kernel
theorem dX8_seesAs_13 : decode cX8_seesAs 13 = .ok (.iload_n 1, 1) := by decide +kernel
theorem dX8_seesAs_14 : decode cX8_seesAs 14 = .ok (.iconst 1, 1) := by decide +kernel
theorem dX8_seesAs_15 : decode cX8_seesAs 15 = .ok (.if_icmp .ne 14, 3) := by decide +kernel
theorem dX8_seesAs_18 : decode cX8_seesAs 18 = .ok (.iload 4, 2) := by decide +kernel
theorem dX8_seesAs_20 : decode cX8_seesAs 20 = .ok (.iconst 2, 1) := by decide +kernel
theorem dX8_seesAs_21 : decode cX8_seesAs 21 = .ok (.irem, 1) := by decide +kernel
theorem dX8_seesAs_22 : decode cX8_seesAs 22 = .ok (.ifCond .ne 7, 3) := by decide +kernel
theorem dX8_seesAs_25 : decode cX8_seesAs 25 = .ok (.iconst 1, 1) := by decide +kernel
theorem dX8_seesAs_26 : decode cX8_seesAs 26 = .ok (.goto 4, 3) := by decide +kernel
theorem dX8_seesAs_29 : decode cX8_seesAs 29 = .ok (.iconst 0, 1) := by decide +kernel
theorem dX8_seesAs_30 : decode cX8_seesAs 30 = .ok (.istore 6, 2) := by decide +kernel
theorem dX8_seesAs_32 : decode cX8_seesAs 32 = .ok (.iload_n 2, 1) := by decide +kernel
theorem dX8_seesAs_33 : decode cX8_seesAs 33 = .ok (.bipush 9, 2) := by decide +kernel
theorem dX8_seesAs_35 : decode cX8_seesAs 35 = .ok (.if_icmp .lt 5, 3) := by decide +kernel
theorem dX8_seesAs_38 : decode cX8_seesAs 38 = .ok (.iconst 0, 1) := by decide +kernel
theorem dX8_seesAs_39 : decode cX8_seesAs 39 = .ok (.ireturn, 1) := by decide +kernel
theorem dX8_seesAs_40 : decode cX8_seesAs 40 = .ok (.iload_n 0, 1) := by decide +kernel
theorem dX8_seesAs_41 : decode cX8_seesAs 41 = .ok (.tableswitch 91 1 5 #[35, 38, 91, 35, 70], 35) := by decide +kernel
theorem dX8_seesAs_76 : decode cX8_seesAs 76 = .ok (.iload 5, 2) := by decide +kernel
theorem dX8_seesAs_78 : decode cX8_seesAs 78 = .ok (.ireturn, 1) := by decide +kernel
theorem dX8_seesAs_79 : decode cX8_seesAs 79 = .ok (.iload 6, 2) := by decide +kernel
theorem dX8_seesAs_81 : decode cX8_seesAs 81 = .ok (.ifCond .eq 28, 3) := by decide +kernel
theorem dX8_seesAs_84 : decode cX8_seesAs 84 = .ok (.iload 5, 2) := by decide +kernel
theorem dX8_seesAs_86 : decode cX8_seesAs 86 = .ok (.ifCond .ne 19, 3) := by decide +kernel
theorem dX8_seesAs_89 : decode cX8_seesAs 89 = .ok (.iload 4, 2) := by decide +kernel
theorem dX8_seesAs_91 : decode cX8_seesAs 91 = .ok (.ifCond .le 18, 3) := by decide +kernel
theorem dX8_seesAs_94 : decode cX8_seesAs 94 = .ok (.iload_n 3, 1) := by decide +kernel
theorem dX8_seesAs_95 : decode cX8_seesAs 95 = .ok (.iload 4, 2) := by decide +kernel
theorem dX8_seesAs_97 : decode cX8_seesAs 97 = .ok (.iconst 1, 1) := by decide +kernel
theorem dX8_seesAs_98 : decode cX8_seesAs 98 = .ok (.isub, 1) := by decide +kernel
theorem dX8_seesAs_99 : decode cX8_seesAs 99 = .ok (.invokestatic 129, 3) := by decide +kernel
theorem dX8_seesAs_102 : decode cX8_seesAs 102 = .ok (.ifCond .eq 7, 3) := by decide +kernel
theorem dX8_seesAs_105 : decode cX8_seesAs 105 = .ok (.iconst 1, 1) := by decide +kernel
theorem dX8_seesAs_106 : decode cX8_seesAs 106 = .ok (.goto 4, 3) := by decide +kernel
theorem dX8_seesAs_109 : decode cX8_seesAs 109 = .ok (.iconst 0, 1) := by decide +kernel
theorem dX8_seesAs_110 : decode cX8_seesAs 110 = .ok (.ireturn, 1) := by decide +kernel
theorem dX8_seesAs_111 : decode cX8_seesAs 111 = .ok (.iload_n 2, 1) := by decide +kernel
theorem dX8_seesAs_112 : decode cX8_seesAs 112 = .ok (.iconst 3, 1) := by decide +kernel
theorem dX8_seesAs_113 : decode cX8_seesAs 113 = .ok (.if_icmp .ge 17, 3) := by decide +kernel
theorem dX8_seesAs_116 : decode cX8_seesAs 116 = .ok (.iload 5, 2) := by decide +kernel
theorem dX8_seesAs_118 : decode cX8_seesAs 118 = .ok (.ifCond .eq 12, 3) := by decide +kernel
theorem dX8_seesAs_121 : decode cX8_seesAs 121 = .ok (.iload 6, 2) := by decide +kernel
theorem dX8_seesAs_123 : decode cX8_seesAs 123 = .ok (.ifCond .eq 7, 3) := by decide +kernel
theorem dX8_seesAs_126 : decode cX8_seesAs 126 = .ok (.iconst 1, 1) := by decide +kernel
theorem dX8_seesAs_127 : decode cX8_seesAs 127 = .ok (.goto 4, 3) := by decide +kernel
theorem dX8_seesAs_130 : decode cX8_seesAs 130 = .ok (.iconst 0, 1) := by decide +kernel
theorem dX8_seesAs_131 : decode cX8_seesAs 131 = .ok (.ireturn, 1) := by decide +kernel
theorem dX8_seesAs_132 : decode cX8_seesAs 132 = .ok (.iload 5, 2) := by decide +kernel
theorem dX8_seesAs_134 : decode cX8_seesAs 134 = .ok (.ifCond .eq 12, 3) := by decide +kernel
theorem dX8_seesAs_137 : decode cX8_seesAs 137 = .ok (.iload 6, 2) := by decide +kernel
theorem dX8_seesAs_139 : decode cX8_seesAs 139 = .ok (.ifCond .eq 7, 3) := by decide +kernel
theorem dX8_seesAs_142 : decode cX8_seesAs 142 = .ok (.iconst 1, 1) := by decide +kernel
theorem dX8_seesAs_143 : decode cX8_seesAs 143 = .ok (.goto 4, 3) := by decide +kernel
theorem dX8_seesAs_146 : decode cX8_seesAs 146 = .ok (.iconst 0, 1) := by decide +kernel
theorem dX8_seesAs_147 : decode cX8_seesAs 147 = .ok (.ireturn, 1) := by decide +kernel
theorem dX8_tellsAs_0 : decode cX8_tellsAs 0 = .ok (.iload_n 0, 1) := by decide +kernel
theorem dX8_tellsAs_1 : decode cX8_tellsAs 1 = .ok (.iload_n 1, 1) := by decide +kernel
theorem dX8_tellsAs_2 : decode cX8_tellsAs 2 = .ok (.iload_n 2, 1) := by decide +kernel
theorem dX8_tellsAs_3 : decode cX8_tellsAs 3 = .ok (.iload_n 3, 1) := by decide +kernel
theorem dX8_tellsAs_4 : decode cX8_tellsAs 4 = .ok (.iload 4, 2) := by decide +kernel
theorem dX8_tellsAs_6 : decode cX8_tellsAs 6 = .ok (.invokestatic 132, 3) := by decide +kernel
theorem dX8_tellsAs_9 : decode cX8_tellsAs 9 = .ok (.ifCond .ne 6, 3) := by decide +kernel
theorem dX8_tellsAs_12 : decode cX8_tellsAs 12 = .ok (.bipush (-9), 2) := by decide +kernel
theorem dX8_tellsAs_14 : decode cX8_tellsAs 14 = .ok (.ireturn, 1) := by decide +kernel
theorem dX8_tellsAs_15 : decode cX8_tellsAs 15 = .ok (.iload 5, 2) := by decide +kernel
theorem dX8_tellsAs_17 : decode cX8_tellsAs 17 = .ok (.iload 4, 2) := by decide +kernel
theorem dX8_tellsAs_19 : decode cX8_tellsAs 19 = .ok (.ishr, 1) := by decide +kernel
theorem dX8_tellsAs_20 : decode cX8_tellsAs 20 = .ok (.iconst 1, 1) := by decide +kernel
theorem dX8_tellsAs_21 : decode cX8_tellsAs 21 = .ok (.iand, 1) := by decide +kernel
theorem dX8_tellsAs_22 : decode cX8_tellsAs 22 = .ok (.istore 6, 2) := by decide +kernel
theorem dX8_tellsAs_24 : decode cX8_tellsAs 24 = .ok (.iload_n 0, 1) := by decide +kernel
theorem dX8_tellsAs_25 : decode cX8_tellsAs 25 = .ok (.iconst 4, 1) := by decide +kernel
theorem dX8_tellsAs_26 : decode cX8_tellsAs 26 = .ok (.if_icmp .ne 7, 3) := by decide +kernel
theorem dX8_tellsAs_29 : decode cX8_tellsAs 29 = .ok (.iconst 1, 1) := by decide +kernel
theorem dX8_tellsAs_30 : decode cX8_tellsAs 30 = .ok (.goto 27, 3) := by decide +kernel
theorem dX8_tellsAs_33 : decode cX8_tellsAs 33 = .ok (.iload_n 0, 1) := by decide +kernel
theorem dX8_tellsAs_34 : decode cX8_tellsAs 34 = .ok (.iconst 3, 1) := by decide +kernel
theorem dX8_tellsAs_35 : decode cX8_tellsAs 35 = .ok (.if_icmp .eq 8, 3) := by decide +kernel
theorem dX8_tellsAs_38 : decode cX8_tellsAs 38 = .ok (.iload_n 0, 1) := by decide +kernel
theorem dX8_tellsAs_39 : decode cX8_tellsAs 39 = .ok (.iconst 5, 1) := by decide +kernel
theorem dX8_tellsAs_40 : decode cX8_tellsAs 40 = .ok (.if_icmp .ne 15, 3) := by decide +kernel
theorem dX8_tellsAs_43 : decode cX8_tellsAs 43 = .ok (.iload_n 2, 1) := by decide +kernel
theorem dX8_tellsAs_44 : decode cX8_tellsAs 44 = .ok (.iconst 5, 1) := by decide +kernel
theorem dX8_tellsAs_45 : decode cX8_tellsAs 45 = .ok (.if_icmp .lt 10, 3) := by decide +kernel
theorem dX8_tellsAs_48 : decode cX8_tellsAs 48 = .ok (.iconst 1, 1) := by decide +kernel
theorem dX8_tellsAs_49 : decode cX8_tellsAs 49 = .ok (.iload 6, 2) := by decide +kernel
theorem dX8_tellsAs_51 : decode cX8_tellsAs 51 = .ok (.isub, 1) := by decide +kernel
theorem dX8_tellsAs_52 : decode cX8_tellsAs 52 = .ok (.goto 5, 3) := by decide +kernel
theorem dX8_tellsAs_55 : decode cX8_tellsAs 55 = .ok (.iload 6, 2) := by decide +kernel
theorem dX8_tellsAs_57 : decode cX8_tellsAs 57 = .ok (.ireturn, 1) := by decide +kernel
theorem dX8_sayOf_0 : decode cX8_sayOf 0 = .ok (.aload_n 1, 1) := by decide +kernel
theorem dX8_sayOf_1 : decode cX8_sayOf 1 = .ok (.iconst 2, 1) := by decide +kernel
theorem dX8_sayOf_2 : decode cX8_sayOf 2 = .ok (.iload_n 2, 1) := by decide +kernel
theorem dX8_sayOf_3 : decode cX8_sayOf 3 = .ok (.iadd, 1) := by decide +kernel
theorem dX8_sayOf_4 : decode cX8_sayOf 4 = .ok (.iaload, 1) := by decide +kernel
theorem dX8_sayOf_5 : decode cX8_sayOf 5 = .ok (.aload_n 1, 1) := by decide +kernel
theorem dX8_sayOf_6 : decode cX8_sayOf 6 = .ok (.bipush 67, 2) := by decide +kernel
theorem dX8_sayOf_8 : decode cX8_sayOf 8 = .ok (.iload_n 2, 1) := by decide +kernel
theorem dX8_sayOf_9 : decode cX8_sayOf 9 = .ok (.iadd, 1) := by decide +kernel
theorem dX8_sayOf_10 : decode cX8_sayOf 10 = .ok (.iaload, 1) := by decide +kernel
theorem dX8_sayOf_11 : decode cX8_sayOf 11 = .ok (.aload_n 1, 1) := by decide +kernel
theorem dX8_sayOf_12 : decode cX8_sayOf 12 = .ok (.bipush 73, 2) := by decide +kernel
theorem dX8_sayOf_14 : decode cX8_sayOf 14 = .ok (.iload_n 2, 1) := by decide +kernel
theorem dX8_sayOf_15 : decode cX8_sayOf 15 = .ok (.iadd, 1) := by decide +kernel
theorem dX8_sayOf_16 : decode cX8_sayOf 16 = .ok (.iaload, 1) := by decide +kernel
theorem dX8_sayOf_17 : decode cX8_sayOf 17 = .ok (.aload_n 1, 1) := by decide +kernel
theorem dX8_sayOf_18 : decode cX8_sayOf 18 = .ok (.bipush 20, 2) := by decide +kernel
theorem dX8_sayOf_20 : decode cX8_sayOf 20 = .ok (.iload_n 2, 1) := by decide +kernel
theorem dX8_sayOf_21 : decode cX8_sayOf 21 = .ok (.iadd, 1) := by decide +kernel
theorem dX8_sayOf_22 : decode cX8_sayOf 22 = .ok (.iaload, 1) := by decide +kernel
theorem dX8_sayOf_23 : decode cX8_sayOf 23 = .ok (.iload_n 3, 1) := by decide +kernel
theorem dX8_sayOf_24 : decode cX8_sayOf 24 = .ok (.iload 4, 2) := by decide +kernel
theorem dX8_sayOf_26 : decode cX8_sayOf 26 = .ok (.invokestatic 136, 3) := by decide +kernel
theorem dX8_sayOf_29 : decode cX8_sayOf 29 = .ok (.ireturn, 1) := by decide +kernel
theorem dX8_tellOf_0 : decode cX8_tellOf 0 = .ok (.aload_n 1, 1) := by decide +kernel
theorem dX8_tellOf_1 : decode cX8_tellOf 1 = .ok (.bipush 79, 2) := by decide +kernel
theorem dX8_tellOf_3 : decode cX8_tellOf 3 = .ok (.iaload, 1) := by decide +kernel
theorem dX8_tellOf_4 : decode cX8_tellOf 4 = .ok (.iload_n 2, 1) := by decide +kernel
theorem dX8_tellOf_5 : decode cX8_tellOf 5 = .ok (.invokestatic 129, 3) := by decide +kernel
theorem dX8_tellOf_8 : decode cX8_tellOf 8 = .ok (.ifCond .eq 8, 3) := by decide +kernel
theorem dX8_tellOf_11 : decode cX8_tellOf 11 = .ok (.bipush (-9), 2) := by decide +kernel
theorem dX8_tellOf_13 : decode cX8_tellOf 13 = .ok (.goto 12, 3) := by decide +kernel
theorem dX8_tellOf_16 : decode cX8_tellOf 16 = .ok (.aload_n 0, 1) := by decide +kernel
theorem dX8_tellOf_17 : decode cX8_tellOf 17 = .ok (.aload_n 1, 1) := by decide +kernel
theorem dX8_tellOf_18 : decode cX8_tellOf 18 = .ok (.iload_n 2, 1) := by decide +kernel
theorem dX8_tellOf_19 : decode cX8_tellOf 19 = .ok (.iload_n 3, 1) := by decide +kernel
theorem dX8_tellOf_20 : decode cX8_tellOf 20 = .ok (.iload 4, 2) := by decide +kernel
theorem dX8_tellOf_22 : decode cX8_tellOf 22 = .ok (.invokevirtual 140, 3) := by decide +kernel
theorem dX8_tellOf_25 : decode cX8_tellOf 25 = .ok (.ireturn, 1) := by decide +kernel
theorem dX8_tellNow_0 : decode cX8_tellNow 0 = .ok (.aload_n 0, 1) := by decide +kernel
theorem dX8_tellNow_1 : decode cX8_tellNow 1 = .ok (.aload_n 0, 1) := by decide +kernel
theorem dX8_tellNow_2 : decode cX8_tellNow 2 = .ok (.getfield 7, 3) := by decide +kernel
theorem dX8_tellNow_5 : decode cX8_tellNow 5 = .ok (.iload_n 1, 1) := by decide +kernel
theorem dX8_tellNow_6 : decode cX8_tellNow 6 = .ok (.iload_n 2, 1) := by decide +kernel
theorem dX8_tellNow_7 : decode cX8_tellNow 7 = .ok (.aload_n 0, 1) := by decide +kernel
theorem dX8_tellNow_8 : decode cX8_tellNow 8 = .ok (.getfield 7, 3) := by decide +kernel
theorem dX8_tellNow_11 : decode cX8_tellNow 11 = .ok (.iconst 1, 1) := by decide +kernel
theorem dX8_tellNow_12 : decode cX8_tellNow 12 = .ok (.iaload, 1) := by decide +kernel
theorem dX8_tellNow_13 : decode cX8_tellNow 13 = .ok (.invokevirtual 144, 3) := by decide +kernel
theorem dX8_tellNow_16 : decode cX8_tellNow 16 = .ok (.ireturn, 1) := by decide +kernel
theorem dX8_toldThings_0 : decode cX8_toldThings 0 = .ok (.iconst 0, 1) := by decide +kernel
theorem dX8_toldThings_1 : decode cX8_toldThings 1 = .ok (.istore_n 2, 1) := by decide +kernel
theorem dX8_toldThings_2 : decode cX8_toldThings 2 = .ok (.iconst 0, 1) := by decide +kernel
theorem dX8_toldThings_3 : decode cX8_toldThings 3 = .ok (.istore_n 3, 1) := by decide +kernel
theorem dX8_toldThings_4 : decode cX8_toldThings 4 = .ok (.iload_n 3, 1) := by decide +kernel
theorem dX8_toldThings_5 : decode cX8_toldThings 5 = .ok (.bipush 6, 2) := by decide +kernel
theorem dX8_toldThings_7 : decode cX8_toldThings 7 = .ok (.if_icmp .ge 30, 3) := by decide +kernel
theorem dX8_toldThings_10 : decode cX8_toldThings 10 = .ok (.iload_n 2, 1) := by decide +kernel
theorem dX8_toldThings_11 : decode cX8_toldThings 11 = .ok (.aload_n 0, 1) := by decide +kernel
theorem dX8_toldThings_12 : decode cX8_toldThings 12 = .ok (.iload_n 1, 1) := by decide +kernel
theorem dX8_toldThings_13 : decode cX8_toldThings 13 = .ok (.iload_n 3, 1) := by decide +kernel
theorem dX8_toldThings_14 : decode cX8_toldThings 14 = .ok (.invokevirtual 147, 3) := by decide +kernel
theorem dX8_toldThings_17 : decode cX8_toldThings 17 = .ok (.bipush (-9), 2) := by decide +kernel
theorem dX8_toldThings_19 : decode cX8_toldThings 19 = .ok (.if_icmp .eq 9, 3) := by decide +kernel
theorem dX8_toldThings_22 : decode cX8_toldThings 22 = .ok (.iconst 1, 1) := by decide +kernel
theorem dX8_toldThings_23 : decode cX8_toldThings 23 = .ok (.iload_n 3, 1) := by decide +kernel
theorem dX8_toldThings_24 : decode cX8_toldThings 24 = .ok (.ishl, 1) := by decide +kernel
theorem dX8_toldThings_25 : decode cX8_toldThings 25 = .ok (.goto 4, 3) := by decide +kernel
theorem dX8_toldThings_28 : decode cX8_toldThings 28 = .ok (.iconst 0, 1) := by decide +kernel
theorem dX8_toldThings_29 : decode cX8_toldThings 29 = .ok (.ior, 1) := by decide +kernel
theorem dX8_toldThings_30 : decode cX8_toldThings 30 = .ok (.istore_n 2, 1) := by decide +kernel
theorem dX8_toldThings_31 : decode cX8_toldThings 31 = .ok (.iinc 3 1, 3) := by decide +kernel
theorem dX8_toldThings_34 : decode cX8_toldThings 34 = .ok (.goto (-30), 3) := by decide +kernel
theorem dX8_toldThings_37 : decode cX8_toldThings 37 = .ok (.iload_n 2, 1) := by decide +kernel
theorem dX8_toldThings_38 : decode cX8_toldThings 38 = .ok (.ireturn, 1) := by decide +kernel
theorem dX8_balance_0 : decode cX8_balance 0 = .ok (.iconst 0, 1) := by decide +kernel
theorem dX8_balance_1 : decode cX8_balance 1 = .ok (.istore 4, 2) := by decide +kernel
theorem dX8_balance_3 : decode cX8_balance 3 = .ok (.iconst 0, 1) := by decide +kernel
theorem dX8_balance_4 : decode cX8_balance 4 = .ok (.istore 5, 2) := by decide +kernel
theorem dX8_balance_6 : decode cX8_balance 6 = .ok (.iload 5, 2) := by decide +kernel
theorem dX8_balance_8 : decode cX8_balance 8 = .ok (.aload_n 1, 1) := by decide +kernel
theorem dX8_balance_9 : decode cX8_balance 9 = .ok (.iconst 0, 1) := by decide +kernel
theorem dX8_balance_10 : decode cX8_balance 10 = .ok (.iaload, 1) := by decide +kernel
theorem dX8_balance_11 : decode cX8_balance 11 = .ok (.if_icmp .ge 58, 3) := by decide +kernel
theorem dX8_balance_14 : decode cX8_balance 14 = .ok (.iload_n 2, 1) := by decide +kernel
theorem dX8_balance_15 : decode cX8_balance 15 = .ok (.iload 5, 2) := by decide +kernel
theorem dX8_balance_17 : decode cX8_balance 17 = .ok (.invokestatic 129, 3) := by decide +kernel
theorem dX8_balance_20 : decode cX8_balance 20 = .ok (.ifCond .eq 17, 3) := by decide +kernel
theorem dX8_balance_23 : decode cX8_balance 23 = .ok (.aload_n 0, 1) := by decide +kernel
theorem dX8_balance_24 : decode cX8_balance 24 = .ok (.aload_n 1, 1) := by decide +kernel
theorem dX8_balance_25 : decode cX8_balance 25 = .ok (.iload 5, 2) := by decide +kernel
theorem dX8_balance_27 : decode cX8_balance 27 = .ok (.iload_n 3, 1) := by decide +kernel
theorem dX8_balance_28 : decode cX8_balance 28 = .ok (.aload_n 1, 1) := by decide +kernel
theorem dX8_balance_29 : decode cX8_balance 29 = .ok (.iconst 1, 1) := by decide +kernel
theorem dX8_balance_30 : decode cX8_balance 30 = .ok (.iaload, 1) := by decide +kernel
theorem dX8_balance_31 : decode cX8_balance 31 = .ok (.invokevirtual 144, 3) := by decide +kernel
theorem dX8_balance_34 : decode cX8_balance 34 = .ok (.goto 5, 3) := by decide +kernel
theorem dX8_balance_37 : decode cX8_balance 37 = .ok (.bipush (-9), 2) := by decide +kernel
theorem dX8_balance_39 : decode cX8_balance 39 = .ok (.istore 6, 2) := by decide +kernel
theorem dX8_balance_41 : decode cX8_balance 41 = .ok (.iload 4, 2) := by decide +kernel
theorem dX8_balance_43 : decode cX8_balance 43 = .ok (.iload 6, 2) := by decide +kernel
theorem dX8_balance_45 : decode cX8_balance 45 = .ok (.bipush (-9), 2) := by decide +kernel
theorem dX8_balance_47 : decode cX8_balance 47 = .ok (.if_icmp .ne 7, 3) := by decide +kernel
theorem dX8_balance_50 : decode cX8_balance 50 = .ok (.iconst 0, 1) := by decide +kernel
theorem dX8_balance_51 : decode cX8_balance 51 = .ok (.goto 9, 3) := by decide +kernel
theorem dX8_balance_54 : decode cX8_balance 54 = .ok (.iconst 2, 1) := by decide +kernel
theorem dX8_balance_55 : decode cX8_balance 55 = .ok (.iload 6, 2) := by decide +kernel
theorem dX8_balance_57 : decode cX8_balance 57 = .ok (.imul, 1) := by decide +kernel
theorem dX8_balance_58 : decode cX8_balance 58 = .ok (.iconst 1, 1) := by decide +kernel
theorem dX8_balance_59 : decode cX8_balance 59 = .ok (.isub, 1) := by decide +kernel
theorem dX8_balance_60 : decode cX8_balance 60 = .ok (.iadd, 1) := by decide +kernel
theorem dX8_balance_61 : decode cX8_balance 61 = .ok (.istore 4, 2) := by decide +kernel
theorem dX8_balance_63 : decode cX8_balance 63 = .ok (.iinc 5 1, 3) := by decide +kernel
theorem dX8_balance_66 : decode cX8_balance 66 = .ok (.goto (-60), 3) := by decide +kernel
theorem dX8_balance_69 : decode cX8_balance 69 = .ok (.iload 4, 2) := by decide +kernel
theorem dX8_balance_71 : decode cX8_balance 71 = .ok (.ireturn, 1) := by decide +kernel
theorem dX8_shownBy_0 : decode cX8_shownBy 0 = .ok (.iconst 0, 1) := by decide +kernel
theorem dX8_shownBy_1 : decode cX8_shownBy 1 = .ok (.istore_n 2, 1) := by decide +kernel
theorem dX8_shownBy_2 : decode cX8_shownBy 2 = .ok (.iconst 0, 1) := by decide +kernel
theorem dX8_shownBy_3 : decode cX8_shownBy 3 = .ok (.istore_n 3, 1) := by decide +kernel
theorem dX8_shownBy_4 : decode cX8_shownBy 4 = .ok (.iload_n 3, 1) := by decide +kernel
theorem dX8_shownBy_5 : decode cX8_shownBy 5 = .ok (.bipush 6, 2) := by decide +kernel
theorem dX8_shownBy_7 : decode cX8_shownBy 7 = .ok (.if_icmp .ge 32, 3) := by decide +kernel
theorem dX8_shownBy_10 : decode cX8_shownBy 10 = .ok (.iload_n 2, 1) := by decide +kernel
theorem dX8_shownBy_11 : decode cX8_shownBy 11 = .ok (.aload_n 0, 1) := by decide +kernel
theorem dX8_shownBy_12 : decode cX8_shownBy 12 = .ok (.aload_n 0, 1) := by decide +kernel
theorem dX8_shownBy_13 : decode cX8_shownBy 13 = .ok (.getfield 7, 3) := by decide +kernel
theorem dX8_shownBy_16 : decode cX8_shownBy 16 = .ok (.iload_n 1, 1) := by decide +kernel
theorem dX8_shownBy_17 : decode cX8_shownBy 17 = .ok (.iload_n 3, 1) := by decide +kernel
theorem dX8_shownBy_18 : decode cX8_shownBy 18 = .ok (.invokevirtual 150, 3) := by decide +kernel
theorem dX8_shownBy_21 : decode cX8_shownBy 21 = .ok (.ifCond .le 9, 3) := by decide +kernel
theorem dX8_shownBy_24 : decode cX8_shownBy 24 = .ok (.iconst 1, 1) := by decide +kernel
theorem dX8_shownBy_25 : decode cX8_shownBy 25 = .ok (.iload_n 3, 1) := by decide +kernel
theorem dX8_shownBy_26 : decode cX8_shownBy 26 = .ok (.ishl, 1) := by decide +kernel
theorem dX8_shownBy_27 : decode cX8_shownBy 27 = .ok (.goto 4, 3) := by decide +kernel
theorem dX8_shownBy_30 : decode cX8_shownBy 30 = .ok (.iconst 0, 1) := by decide +kernel
theorem dX8_shownBy_31 : decode cX8_shownBy 31 = .ok (.ior, 1) := by decide +kernel
theorem dX8_shownBy_32 : decode cX8_shownBy 32 = .ok (.istore_n 2, 1) := by decide +kernel
theorem dX8_shownBy_33 : decode cX8_shownBy 33 = .ok (.iinc 3 1, 3) := by decide +kernel
theorem dX8_shownBy_36 : decode cX8_shownBy 36 = .ok (.goto (-32), 3) := by decide +kernel
theorem dX8_shownBy_39 : decode cX8_shownBy 39 = .ok (.iload_n 2, 1) := by decide +kernel
theorem dX8_shownBy_40 : decode cX8_shownBy 40 = .ok (.ireturn, 1) := by decide +kernel
theorem dX8_allBears_0 : decode cX8_allBears 0 = .ok (.iconst 1, 1) := by decide +kernel
theorem dX8_allBears_1 : decode cX8_allBears 1 = .ok (.aload_n 0, 1) := by decide +kernel
theorem dX8_allBears_2 : decode cX8_allBears 2 = .ok (.getfield 7, 3) := by decide +kernel
theorem dX8_allBears_5 : decode cX8_allBears 5 = .ok (.iconst 0, 1) := by decide +kernel
theorem dX8_allBears_6 : decode cX8_allBears 6 = .ok (.iaload, 1) := by decide +kernel
theorem dX8_allBears_7 : decode cX8_allBears 7 = .ok (.ishl, 1) := by decide +kernel
theorem dX8_allBears_8 : decode cX8_allBears 8 = .ok (.iconst 1, 1) := by decide +kernel
theorem dX8_allBears_9 : decode cX8_allBears 9 = .ok (.isub, 1) := by decide +kernel
theorem dX8_allBears_10 : decode cX8_allBears 10 = .ok (.ireturn, 1) := by decide +kernel
theorem dX8_isBear_0 : decode cX8_isBear 0 = .ok (.iload_n 1, 1) := by decide +kernel
theorem dX8_isBear_1 : decode cX8_isBear 1 = .ok (.i2l, 1) := by decide +kernel
theorem dX8_isBear_2 : decode cX8_isBear 2 = .ok (.lconst 0, 1) := by decide +kernel
theorem dX8_isBear_3 : decode cX8_isBear 3 = .ok (.aload_n 0, 1) := by decide +kernel
theorem dX8_isBear_4 : decode cX8_isBear 4 = .ok (.getfield 7, 3) := by decide +kernel
theorem dX8_isBear_7 : decode cX8_isBear 7 = .ok (.iconst 0, 1) := by decide +kernel
theorem dX8_isBear_8 : decode cX8_isBear 8 = .ok (.iaload, 1) := by decide +kernel
theorem dX8_isBear_9 : decode cX8_isBear 9 = .ok (.iconst 1, 1) := by decide +kernel
theorem dX8_isBear_10 : decode cX8_isBear 10 = .ok (.isub, 1) := by decide +kernel
theorem dX8_isBear_11 : decode cX8_isBear 11 = .ok (.i2l, 1) := by decide +kernel
theorem dX8_isBear_12 : decode cX8_isBear 12 = .ok (.invokestatic 69, 3) := by decide +kernel
theorem dX8_isBear_15 : decode cX8_isBear 15 = .ok (.ireturn, 1) := by decide +kernel
theorem dX8_isThing_0 : decode cX8_isThing 0 = .ok (.iload_n 0, 1) := by decide +kernel
theorem dX8_isThing_1 : decode cX8_isThing 1 = .ok (.i2l, 1) := by decide +kernel
theorem dX8_isThing_2 : decode cX8_isThing 2 = .ok (.lconst 0, 1) := by decide +kernel
theorem dX8_isThing_3 : decode cX8_isThing 3 = .ok (.ldc2_w 67, 3) := by decide +kernel
theorem dX8_isThing_6 : decode cX8_isThing 6 = .ok (.invokestatic 69, 3) := by decide +kernel
theorem dX8_isThing_9 : decode cX8_isThing 9 = .ok (.ireturn, 1) := by decide +kernel
theorem dX8_toldOf_0 : decode cX8_toldOf 0 = .ok (.iload_n 2, 1) := by decide +kernel
theorem dX8_toldOf_1 : decode cX8_toldOf 1 = .ok (.tableswitch 94 0 4 #[35, 44, 54, 64, 74], 35) := by decide +kernel
theorem dX8_toldOf_36 : decode cX8_toldOf 36 = .ok (.aload_n 0, 1) := by decide +kernel
theorem dX8_toldOf_37 : decode cX8_toldOf 37 = .ok (.getfield 7, 3) := by decide +kernel
theorem dX8_toldOf_40 : decode cX8_toldOf 40 = .ok (.iconst 2, 1) := by decide +kernel
theorem dX8_toldOf_41 : decode cX8_toldOf 41 = .ok (.iload_n 1, 1) := by decide +kernel
theorem dX8_toldOf_42 : decode cX8_toldOf 42 = .ok (.iadd, 1) := by decide +kernel
theorem dX8_toldOf_43 : decode cX8_toldOf 43 = .ok (.iaload, 1) := by decide +kernel
theorem dX8_toldOf_44 : decode cX8_toldOf 44 = .ok (.ireturn, 1) := by decide +kernel
theorem dX8_toldOf_45 : decode cX8_toldOf 45 = .ok (.aload_n 0, 1) := by decide +kernel
theorem dX8_toldOf_46 : decode cX8_toldOf 46 = .ok (.getfield 7, 3) := by decide +kernel
theorem dX8_toldOf_49 : decode cX8_toldOf 49 = .ok (.bipush 67, 2) := by decide +kernel
theorem dX8_toldOf_51 : decode cX8_toldOf 51 = .ok (.iload_n 1, 1) := by decide +kernel
theorem dX8_toldOf_52 : decode cX8_toldOf 52 = .ok (.iadd, 1) := by decide +kernel
theorem dX8_toldOf_53 : decode cX8_toldOf 53 = .ok (.iaload, 1) := by decide +kernel
theorem dX8_toldOf_54 : decode cX8_toldOf 54 = .ok (.ireturn, 1) := by decide +kernel
theorem dX8_toldOf_55 : decode cX8_toldOf 55 = .ok (.aload_n 0, 1) := by decide +kernel
theorem dX8_toldOf_56 : decode cX8_toldOf 56 = .ok (.getfield 7, 3) := by decide +kernel
theorem dX8_toldOf_59 : decode cX8_toldOf 59 = .ok (.bipush 73, 2) := by decide +kernel
theorem dX8_toldOf_61 : decode cX8_toldOf 61 = .ok (.iload_n 1, 1) := by decide +kernel
theorem dX8_toldOf_62 : decode cX8_toldOf 62 = .ok (.iadd, 1) := by decide +kernel
theorem dX8_toldOf_63 : decode cX8_toldOf 63 = .ok (.iaload, 1) := by decide +kernel
theorem dX8_toldOf_64 : decode cX8_toldOf 64 = .ok (.ireturn, 1) := by decide +kernel
theorem dX8_toldOf_65 : decode cX8_toldOf 65 = .ok (.aload_n 0, 1) := by decide +kernel
theorem dX8_toldOf_66 : decode cX8_toldOf 66 = .ok (.getfield 7, 3) := by decide +kernel
theorem dX8_toldOf_69 : decode cX8_toldOf 69 = .ok (.bipush 20, 2) := by decide +kernel
theorem dX8_toldOf_71 : decode cX8_toldOf 71 = .ok (.iload_n 1, 1) := by decide +kernel
theorem dX8_toldOf_72 : decode cX8_toldOf 72 = .ok (.iadd, 1) := by decide +kernel
theorem dX8_toldOf_73 : decode cX8_toldOf 73 = .ok (.iaload, 1) := by decide +kernel
theorem dX8_toldOf_74 : decode cX8_toldOf 74 = .ok (.ireturn, 1) := by decide +kernel
theorem dX8_toldOf_75 : decode cX8_toldOf 75 = .ok (.aload_n 0, 1) := by decide +kernel
theorem dX8_toldOf_76 : decode cX8_toldOf 76 = .ok (.getfield 7, 3) := by decide +kernel
theorem dX8_toldOf_79 : decode cX8_toldOf 79 = .ok (.bipush 79, 2) := by decide +kernel
theorem dX8_toldOf_81 : decode cX8_toldOf 81 = .ok (.iaload, 1) := by decide +kernel
theorem dX8_toldOf_82 : decode cX8_toldOf 82 = .ok (.iload_n 1, 1) := by decide +kernel
theorem dX8_toldOf_83 : decode cX8_toldOf 83 = .ok (.invokestatic 129, 3) := by decide +kernel
theorem dX8_toldOf_86 : decode cX8_toldOf 86 = .ok (.ifCond .eq 7, 3) := by decide +kernel
theorem dX8_toldOf_89 : decode cX8_toldOf 89 = .ok (.iconst 1, 1) := by decide +kernel
theorem dX8_toldOf_90 : decode cX8_toldOf 90 = .ok (.goto 4, 3) := by decide +kernel
theorem dX8_toldOf_93 : decode cX8_toldOf 93 = .ok (.iconst 0, 1) := by decide +kernel
theorem dX8_toldOf_94 : decode cX8_toldOf 94 = .ok (.ireturn, 1) := by decide +kernel
theorem dX8_toldOf_95 : decode cX8_toldOf 95 = .ok (.aload_n 0, 1) := by decide +kernel
theorem dX8_toldOf_96 : decode cX8_toldOf 96 = .ok (.iload_n 1, 1) := by decide +kernel
theorem dX8_toldOf_97 : decode cX8_toldOf 97 = .ok (.invokevirtual 154, 3) := by decide +kernel
theorem dX8_toldOf_100 : decode cX8_toldOf 100 = .ok (.ireturn, 1) := by decide +kernel
theorem dX8_bear_0 : decode cX8_bear 0 = .ok (.aload_n 0, 1) := by decide +kernel
theorem dX8_bear_1 : decode cX8_bear 1 = .ok (.iload_n 1, 1) := by decide +kernel
theorem dX8_bear_2 : decode cX8_bear 2 = .ok (.invokevirtual 157, 3) := by decide +kernel
theorem dX8_bear_5 : decode cX8_bear 5 = .ok (.ifCond .eq 28, 3) := by decide +kernel
theorem dX8_bear_8 : decode cX8_bear 8 = .ok (.iload_n 2, 1) := by decide +kernel
theorem dX8_bear_9 : decode cX8_bear 9 = .ok (.i2l, 1) := by decide +kernel
theorem dX8_bear_10 : decode cX8_bear 10 = .ok (.lconst 0, 1) := by decide +kernel
theorem dX8_bear_11 : decode cX8_bear 11 = .ok (.ldc2_w 67, 3) := by decide +kernel
theorem dX8_bear_14 : decode cX8_bear 14 = .ok (.invokestatic 69, 3) := by decide +kernel
theorem dX8_bear_17 : decode cX8_bear 17 = .ok (.ifCond .eq 16, 3) := by decide +kernel
theorem dX8_bear_20 : decode cX8_bear 20 = .ok (.aload_n 0, 1) := by decide +kernel
theorem dX8_bear_21 : decode cX8_bear 21 = .ok (.aload_n 0, 1) := by decide +kernel
theorem dX8_bear_22 : decode cX8_bear 22 = .ok (.iload_n 1, 1) := by decide +kernel
theorem dX8_bear_23 : decode cX8_bear 23 = .ok (.iload_n 2, 1) := by decide +kernel
theorem dX8_bear_24 : decode cX8_bear 24 = .ok (.invokevirtual 160, 3) := by decide +kernel
theorem dX8_bear_27 : decode cX8_bear 27 = .ok (.invokevirtual 87, 3) := by decide +kernel
theorem dX8_bear_30 : decode cX8_bear 30 = .ok (.goto 4, 3) := by decide +kernel
theorem dX8_bear_33 : decode cX8_bear 33 = .ok (.iconst (-1), 1) := by decide +kernel
theorem dX8_bear_34 : decode cX8_bear 34 = .ok (.ireturn, 1) := by decide +kernel
theorem dX8_isOf_0 : decode cX8_isOf 0 = .ok (.iload_n 0, 1) := by decide +kernel
theorem dX8_isOf_1 : decode cX8_isOf 1 = .ok (.iload_n 1, 1) := by decide +kernel
theorem dX8_isOf_2 : decode cX8_isOf 2 = .ok (.if_icmp .eq 23, 3) := by decide +kernel
theorem dX8_isOf_5 : decode cX8_isOf 5 = .ok (.iload_n 1, 1) := by decide +kernel
theorem dX8_isOf_6 : decode cX8_isOf 6 = .ok (.iconst 1, 1) := by decide +kernel
theorem dX8_isOf_7 : decode cX8_isOf 7 = .ok (.if_icmp .ne 8, 3) := by decide +kernel
theorem dX8_isOf_10 : decode cX8_isOf 10 = .ok (.iload_n 0, 1) := by decide +kernel
theorem dX8_isOf_11 : decode cX8_isOf 11 = .ok (.iconst 4, 1) := by decide +kernel
theorem dX8_isOf_12 : decode cX8_isOf 12 = .ok (.if_icmp .eq 13, 3) := by decide +kernel
theorem dX8_isOf_15 : decode cX8_isOf 15 = .ok (.iload_n 1, 1) := by decide +kernel
theorem dX8_isOf_16 : decode cX8_isOf 16 = .ok (.iconst 3, 1) := by decide +kernel
theorem dX8_isOf_17 : decode cX8_isOf 17 = .ok (.if_icmp .ne 12, 3) := by decide +kernel
theorem dX8_isOf_20 : decode cX8_isOf 20 = .ok (.iload_n 0, 1) := by decide +kernel
theorem dX8_isOf_21 : decode cX8_isOf 21 = .ok (.iconst 5, 1) := by decide +kernel
theorem dX8_isOf_22 : decode cX8_isOf 22 = .ok (.if_icmp .ne 7, 3) := by decide +kernel
theorem dX8_isOf_25 : decode cX8_isOf 25 = .ok (.iconst 1, 1) := by decide +kernel
theorem dX8_isOf_26 : decode cX8_isOf 26 = .ok (.goto 4, 3) := by decide +kernel
theorem dX8_isOf_29 : decode cX8_isOf 29 = .ok (.iconst 0, 1) := by decide +kernel
theorem dX8_isOf_30 : decode cX8_isOf 30 = .ok (.ireturn, 1) := by decide +kernel
theorem dX8_seesBeyond_0 : decode cX8_seesBeyond 0 = .ok (.iconst 0, 1) := by decide +kernel
theorem dX8_seesBeyond_1 : decode cX8_seesBeyond 1 = .ok (.istore_n 3, 1) := by decide +kernel
theorem dX8_seesBeyond_2 : decode cX8_seesBeyond 2 = .ok (.iconst 0, 1) := by decide +kernel
theorem dX8_seesBeyond_3 : decode cX8_seesBeyond 3 = .ok (.istore 4, 2) := by decide +kernel
theorem dX8_seesBeyond_5 : decode cX8_seesBeyond 5 = .ok (.iload 4, 2) := by decide +kernel
theorem dX8_seesBeyond_7 : decode cX8_seesBeyond 7 = .ok (.bipush 6, 2) := by decide +kernel
theorem dX8_seesBeyond_9 : decode cX8_seesBeyond 9 = .ok (.if_icmp .ge 43, 3) := by decide +kernel
theorem dX8_seesBeyond_12 : decode cX8_seesBeyond 12 = .ok (.iload_n 3, 1) := by decide +kernel
theorem dX8_seesBeyond_13 : decode cX8_seesBeyond 13 = .ok (.aload_n 0, 1) := by decide +kernel
theorem dX8_seesBeyond_14 : decode cX8_seesBeyond 14 = .ok (.aload_n 0, 1) := by decide +kernel
theorem dX8_seesBeyond_15 : decode cX8_seesBeyond 15 = .ok (.getfield 7, 3) := by decide +kernel
theorem dX8_seesBeyond_18 : decode cX8_seesBeyond 18 = .ok (.iload_n 1, 1) := by decide +kernel
theorem dX8_seesBeyond_19 : decode cX8_seesBeyond 19 = .ok (.iload 4, 2) := by decide +kernel
theorem dX8_seesBeyond_21 : decode cX8_seesBeyond 21 = .ok (.iconst 0, 1) := by decide +kernel
theorem dX8_seesBeyond_22 : decode cX8_seesBeyond 22 = .ok (.invokevirtual 140, 3) := by decide +kernel
theorem dX8_seesBeyond_25 : decode cX8_seesBeyond 25 = .ok (.bipush (-9), 2) := by decide +kernel
theorem dX8_seesBeyond_27 : decode cX8_seesBeyond 27 = .ok (.if_icmp .eq 16, 3) := by decide +kernel
theorem dX8_seesBeyond_30 : decode cX8_seesBeyond 30 = .ok (.iload_n 2, 1) := by decide +kernel
theorem dX8_seesBeyond_31 : decode cX8_seesBeyond 31 = .ok (.iload 4, 2) := by decide +kernel
theorem dX8_seesBeyond_33 : decode cX8_seesBeyond 33 = .ok (.invokestatic 129, 3) := by decide +kernel
theorem dX8_seesBeyond_36 : decode cX8_seesBeyond 36 = .ok (.ifCond .ne 7, 3) := by decide +kernel
theorem dX8_seesBeyond_39 : decode cX8_seesBeyond 39 = .ok (.iconst 1, 1) := by decide +kernel
theorem dX8_seesBeyond_40 : decode cX8_seesBeyond 40 = .ok (.goto 4, 3) := by decide +kernel
theorem dX8_seesBeyond_43 : decode cX8_seesBeyond 43 = .ok (.iconst 0, 1) := by decide +kernel
theorem dX8_seesBeyond_44 : decode cX8_seesBeyond 44 = .ok (.iadd, 1) := by decide +kernel
theorem dX8_seesBeyond_45 : decode cX8_seesBeyond 45 = .ok (.istore_n 3, 1) := by decide +kernel
theorem dX8_seesBeyond_46 : decode cX8_seesBeyond 46 = .ok (.iinc 4 1, 3) := by decide +kernel
theorem dX8_seesBeyond_49 : decode cX8_seesBeyond 49 = .ok (.goto (-44), 3) := by decide +kernel
theorem dX8_seesBeyond_52 : decode cX8_seesBeyond 52 = .ok (.iload_n 3, 1) := by decide +kernel
theorem dX8_seesBeyond_53 : decode cX8_seesBeyond 53 = .ok (.ireturn, 1) := by decide +kernel
theorem dX8_mark_0 : decode cX8_mark 0 = .ok (.aload_n 0, 1) := by decide +kernel
theorem dX8_mark_1 : decode cX8_mark 1 = .ok (.iload_n 1, 1) := by decide +kernel
theorem dX8_mark_2 : decode cX8_mark 2 = .ok (.invokevirtual 157, 3) := by decide +kernel
theorem dX8_mark_5 : decode cX8_mark 5 = .ok (.ifCond .eq 15, 3) := by decide +kernel
theorem dX8_mark_8 : decode cX8_mark 8 = .ok (.iload_n 2, 1) := by decide +kernel
theorem dX8_mark_9 : decode cX8_mark 9 = .ok (.i2l, 1) := by decide +kernel
theorem dX8_mark_10 : decode cX8_mark 10 = .ok (.lconst 1, 1) := by decide +kernel
theorem dX8_mark_11 : decode cX8_mark 11 = .ok (.ldc2_w 67, 3) := by decide +kernel
theorem dX8_mark_14 : decode cX8_mark 14 = .ok (.invokestatic 69, 3) := by decide +kernel
theorem dX8_mark_17 : decode cX8_mark 17 = .ok (.ifCond .ne 5, 3) := by decide +kernel
theorem dX8_mark_20 : decode cX8_mark 20 = .ok (.iconst (-1), 1) := by decide +kernel
theorem dX8_mark_21 : decode cX8_mark 21 = .ok (.ireturn, 1) := by decide +kernel
theorem dX8_mark_22 : decode cX8_mark 22 = .ok (.aload_n 0, 1) := by decide +kernel
theorem dX8_mark_23 : decode cX8_mark 23 = .ok (.getfield 7, 3) := by decide +kernel
theorem dX8_mark_26 : decode cX8_mark 26 = .ok (.iconst 2, 1) := by decide +kernel
theorem dX8_mark_27 : decode cX8_mark 27 = .ok (.iload_n 1, 1) := by decide +kernel
theorem dX8_mark_28 : decode cX8_mark 28 = .ok (.iadd, 1) := by decide +kernel
theorem dX8_mark_29 : decode cX8_mark 29 = .ok (.iaload, 1) := by decide +kernel
theorem dX8_mark_30 : decode cX8_mark 30 = .ok (.iload_n 2, 1) := by decide +kernel
theorem dX8_mark_31 : decode cX8_mark 31 = .ok (.invokestatic 163, 3) := by decide +kernel
theorem dX8_mark_34 : decode cX8_mark 34 = .ok (.ifCond .ne 9, 3) := by decide +kernel
theorem dX8_mark_37 : decode cX8_mark 37 = .ok (.aload_n 0, 1) := by decide +kernel
theorem dX8_mark_38 : decode cX8_mark 38 = .ok (.iconst 3, 1) := by decide +kernel
theorem dX8_mark_39 : decode cX8_mark 39 = .ok (.invokevirtual 79, 3) := by decide +kernel
theorem dX8_mark_42 : decode cX8_mark 42 = .ok (.ireturn, 1) := by decide +kernel
theorem dX8_mark_43 : decode cX8_mark 43 = .ok (.aload_n 0, 1) := by decide +kernel
theorem dX8_mark_44 : decode cX8_mark 44 = .ok (.getfield 7, 3) := by decide +kernel
theorem dX8_mark_47 : decode cX8_mark 47 = .ok (.bipush 73, 2) := by decide +kernel
theorem dX8_mark_49 : decode cX8_mark 49 = .ok (.iload_n 1, 1) := by decide +kernel
theorem dX8_mark_50 : decode cX8_mark 50 = .ok (.iadd, 1) := by decide +kernel
theorem dX8_mark_51 : decode cX8_mark 51 = .ok (.iaload, 1) := by decide +kernel
theorem dX8_mark_52 : decode cX8_mark 52 = .ok (.istore_n 3, 1) := by decide +kernel
theorem dX8_mark_53 : decode cX8_mark 53 = .ok (.iload_n 2, 1) := by decide +kernel
theorem dX8_mark_54 : decode cX8_mark 54 = .ok (.tableswitch 83 1 4 #[30, 43, 58, 71], 30) := by decide +kernel
theorem dX8_mark_84 : decode cX8_mark 84 = .ok (.aload_n 0, 1) := by decide +kernel
theorem dX8_mark_85 : decode cX8_mark 85 = .ok (.getfield 7, 3) := by decide +kernel
theorem dX8_mark_88 : decode cX8_mark 88 = .ok (.bipush 20, 2) := by decide +kernel
theorem dX8_mark_90 : decode cX8_mark 90 = .ok (.iload_n 1, 1) := by decide +kernel
theorem dX8_mark_91 : decode cX8_mark 91 = .ok (.iadd, 1) := by decide +kernel
theorem dX8_mark_92 : decode cX8_mark 92 = .ok (.iaload, 1) := by decide +kernel
theorem dX8_mark_93 : decode cX8_mark 93 = .ok (.invokestatic 166, 3) := by decide +kernel
theorem dX8_mark_96 : decode cX8_mark 96 = .ok (.ireturn, 1) := by decide +kernel
theorem dX8_mark_97 : decode cX8_mark 97 = .ok (.aload_n 0, 1) := by decide +kernel
theorem dX8_mark_98 : decode cX8_mark 98 = .ok (.iload_n 1, 1) := by decide +kernel
theorem dX8_mark_99 : decode cX8_mark 99 = .ok (.aload_n 0, 1) := by decide +kernel
theorem dX8_mark_100 : decode cX8_mark 100 = .ok (.getfield 7, 3) := by decide +kernel
theorem dX8_mark_103 : decode cX8_mark 103 = .ok (.bipush 20, 2) := by decide +kernel
theorem dX8_mark_105 : decode cX8_mark 105 = .ok (.iload_n 1, 1) := by decide +kernel
theorem dX8_mark_106 : decode cX8_mark 106 = .ok (.iadd, 1) := by decide +kernel
theorem dX8_mark_107 : decode cX8_mark 107 = .ok (.iaload, 1) := by decide +kernel
theorem dX8_mark_108 : decode cX8_mark 108 = .ok (.invokevirtual 169, 3) := by decide +kernel
theorem dX8_mark_111 : decode cX8_mark 111 = .ok (.ireturn, 1) := by decide +kernel
theorem dX8_mark_112 : decode cX8_mark 112 = .ok (.iload_n 3, 1) := by decide +kernel
theorem dX8_mark_113 : decode cX8_mark 113 = .ok (.iconst 5, 1) := by decide +kernel
theorem dX8_mark_114 : decode cX8_mark 114 = .ok (.if_icmp .ge 9, 3) := by decide +kernel
theorem dX8_mark_117 : decode cX8_mark 117 = .ok (.iconst 5, 1) := by decide +kernel
theorem dX8_mark_118 : decode cX8_mark 118 = .ok (.iload_n 3, 1) := by decide +kernel
theorem dX8_mark_119 : decode cX8_mark 119 = .ok (.isub, 1) := by decide +kernel
theorem dX8_mark_120 : decode cX8_mark 120 = .ok (.goto 4, 3) := by decide +kernel
theorem dX8_mark_123 : decode cX8_mark 123 = .ok (.iconst 0, 1) := by decide +kernel
theorem dX8_mark_124 : decode cX8_mark 124 = .ok (.ireturn, 1) := by decide +kernel
theorem dX8_mark_125 : decode cX8_mark 125 = .ok (.aload_n 0, 1) := by decide +kernel
theorem dX8_mark_126 : decode cX8_mark 126 = .ok (.iload_n 1, 1) := by decide +kernel
theorem dX8_mark_127 : decode cX8_mark 127 = .ok (.aload_n 0, 1) := by decide +kernel
theorem dX8_mark_128 : decode cX8_mark 128 = .ok (.getfield 7, 3) := by decide +kernel
theorem dX8_mark_131 : decode cX8_mark 131 = .ok (.iconst 1, 1) := by decide +kernel
theorem dX8_mark_132 : decode cX8_mark 132 = .ok (.iaload, 1) := by decide +kernel
theorem dX8_mark_133 : decode cX8_mark 133 = .ok (.invokevirtual 169, 3) := by decide +kernel
theorem dX8_mark_136 : decode cX8_mark 136 = .ok (.ireturn, 1) := by decide +kernel
theorem dX8_mark_137 : decode cX8_mark 137 = .ok (.iload_n 3, 1) := by decide +kernel
theorem dX8_mark_138 : decode cX8_mark 138 = .ok (.iconst 3, 1) := by decide +kernel
theorem dX8_mark_139 : decode cX8_mark 139 = .ok (.if_icmp .ge 9, 3) := by decide +kernel
theorem dX8_mark_142 : decode cX8_mark 142 = .ok (.iconst 3, 1) := by decide +kernel
theorem dX8_mark_143 : decode cX8_mark 143 = .ok (.iload_n 3, 1) := by decide +kernel
theorem dX8_mark_144 : decode cX8_mark 144 = .ok (.isub, 1) := by decide +kernel
theorem dX8_mark_145 : decode cX8_mark 145 = .ok (.goto 4, 3) := by decide +kernel
theorem dX8_mark_148 : decode cX8_mark 148 = .ok (.iconst 0, 1) := by decide +kernel
theorem dX8_mark_149 : decode cX8_mark 149 = .ok (.ireturn, 1) := by decide +kernel
theorem dX8_goDeed_0 : decode cX8_goDeed 0 = .ok (.iload_n 1, 1) := by decide +kernel
theorem dX8_goDeed_1 : decode cX8_goDeed 1 = .ok (.bipush 10, 2) := by decide +kernel
theorem dX8_goDeed_3 : decode cX8_goDeed 3 = .ok (.irem, 1) := by decide +kernel
theorem dX8_goDeed_4 : decode cX8_goDeed 4 = .ok (.istore_n 2, 1) := by decide +kernel
theorem dX8_goDeed_5 : decode cX8_goDeed 5 = .ok (.iload_n 1, 1) := by decide +kernel
theorem dX8_goDeed_6 : decode cX8_goDeed 6 = .ok (.bipush 40, 2) := by decide +kernel
theorem dX8_goDeed_8 : decode cX8_goDeed 8 = .ok (.if_icmp .lt 16, 3) := by decide +kernel
theorem dX8_goDeed_11 : decode cX8_goDeed 11 = .ok (.aload_n 0, 1) := by decide +kernel
theorem dX8_goDeed_12 : decode cX8_goDeed 12 = .ok (.bipush 79, 2) := by decide +kernel
theorem dX8_goDeed_14 : decode cX8_goDeed 14 = .ok (.dup2, 1) := by decide +kernel
theorem dX8_goDeed_15 : decode cX8_goDeed 15 = .ok (.iaload, 1) := by decide +kernel
theorem dX8_goDeed_16 : decode cX8_goDeed 16 = .ok (.iconst 1, 1) := by decide +kernel
theorem dX8_goDeed_17 : decode cX8_goDeed 17 = .ok (.iload_n 2, 1) := by decide +kernel
theorem dX8_goDeed_18 : decode cX8_goDeed 18 = .ok (.ishl, 1) := by decide +kernel
theorem dX8_goDeed_19 : decode cX8_goDeed 19 = .ok (.ixor, 1) := by decide +kernel
theorem dX8_goDeed_20 : decode cX8_goDeed 20 = .ok (.iastore, 1) := by decide +kernel
theorem dX8_goDeed_21 : decode cX8_goDeed 21 = .ok (.goto 57, 3) := by decide +kernel
theorem dX8_goDeed_24 : decode cX8_goDeed 24 = .ok (.iload_n 1, 1) := by decide +kernel
theorem dX8_goDeed_25 : decode cX8_goDeed 25 = .ok (.bipush 30, 2) := by decide +kernel
theorem dX8_goDeed_27 : decode cX8_goDeed 27 = .ok (.if_icmp .lt 16, 3) := by decide +kernel
theorem dX8_goDeed_30 : decode cX8_goDeed 30 = .ok (.aload_n 0, 1) := by decide +kernel
theorem dX8_goDeed_31 : decode cX8_goDeed 31 = .ok (.bipush 67, 2) := by decide +kernel
theorem dX8_goDeed_33 : decode cX8_goDeed 33 = .ok (.iload_n 2, 1) := by decide +kernel
theorem dX8_goDeed_34 : decode cX8_goDeed 34 = .ok (.iadd, 1) := by decide +kernel
theorem dX8_goDeed_35 : decode cX8_goDeed 35 = .ok (.dup2, 1) := by decide +kernel
theorem dX8_goDeed_36 : decode cX8_goDeed 36 = .ok (.iaload, 1) := by decide +kernel
theorem dX8_goDeed_37 : decode cX8_goDeed 37 = .ok (.iconst 1, 1) := by decide +kernel
theorem dX8_goDeed_38 : decode cX8_goDeed 38 = .ok (.isub, 1) := by decide +kernel
theorem dX8_goDeed_39 : decode cX8_goDeed 39 = .ok (.iastore, 1) := by decide +kernel
theorem dX8_goDeed_40 : decode cX8_goDeed 40 = .ok (.goto 38, 3) := by decide +kernel
theorem dX8_goDeed_43 : decode cX8_goDeed 43 = .ok (.iload_n 1, 1) := by decide +kernel
theorem dX8_goDeed_44 : decode cX8_goDeed 44 = .ok (.bipush 20, 2) := by decide +kernel
theorem dX8_goDeed_46 : decode cX8_goDeed 46 = .ok (.if_icmp .lt 16, 3) := by decide +kernel
theorem dX8_goDeed_49 : decode cX8_goDeed 49 = .ok (.aload_n 0, 1) := by decide +kernel
theorem dX8_goDeed_50 : decode cX8_goDeed 50 = .ok (.bipush 73, 2) := by decide +kernel
theorem dX8_goDeed_52 : decode cX8_goDeed 52 = .ok (.iload_n 2, 1) := by decide +kernel
theorem dX8_goDeed_53 : decode cX8_goDeed 53 = .ok (.iadd, 1) := by decide +kernel
theorem dX8_goDeed_54 : decode cX8_goDeed 54 = .ok (.dup2, 1) := by decide +kernel
theorem dX8_goDeed_55 : decode cX8_goDeed 55 = .ok (.iaload, 1) := by decide +kernel
theorem dX8_goDeed_56 : decode cX8_goDeed 56 = .ok (.iconst 1, 1) := by decide +kernel
theorem dX8_goDeed_57 : decode cX8_goDeed 57 = .ok (.isub, 1) := by decide +kernel
theorem dX8_goDeed_58 : decode cX8_goDeed 58 = .ok (.iastore, 1) := by decide +kernel
theorem dX8_goDeed_59 : decode cX8_goDeed 59 = .ok (.goto 19, 3) := by decide +kernel
theorem dX8_goDeed_62 : decode cX8_goDeed 62 = .ok (.iload_n 1, 1) := by decide +kernel
theorem dX8_goDeed_63 : decode cX8_goDeed 63 = .ok (.bipush 10, 2) := by decide +kernel
theorem dX8_goDeed_65 : decode cX8_goDeed 65 = .ok (.if_icmp .lt 13, 3) := by decide +kernel
theorem dX8_goDeed_68 : decode cX8_goDeed 68 = .ok (.aload_n 0, 1) := by decide +kernel
theorem dX8_goDeed_69 : decode cX8_goDeed 69 = .ok (.bipush 73, 2) := by decide +kernel
theorem dX8_goDeed_71 : decode cX8_goDeed 71 = .ok (.iload_n 2, 1) := by decide +kernel
theorem dX8_goDeed_72 : decode cX8_goDeed 72 = .ok (.iadd, 1) := by decide +kernel
theorem dX8_goDeed_73 : decode cX8_goDeed 73 = .ok (.dup2, 1) := by decide +kernel
theorem dX8_goDeed_74 : decode cX8_goDeed 74 = .ok (.iaload, 1) := by decide +kernel
theorem dX8_goDeed_75 : decode cX8_goDeed 75 = .ok (.iconst 1, 1) := by decide +kernel
theorem dX8_goDeed_76 : decode cX8_goDeed 76 = .ok (.iadd, 1) := by decide +kernel
theorem dX8_goDeed_77 : decode cX8_goDeed 77 = .ok (.iastore, 1) := by decide +kernel
theorem dX8_goDeed_78 : decode cX8_goDeed 78 = .ok (.return_, 1) := by decide +kernel
theorem dX8_does_0 : decode cX8_does 0 = .ok (.aload_n 0, 1) := by decide +kernel
theorem dX8_does_1 : decode cX8_does 1 = .ok (.getfield 7, 3) := by decide +kernel
theorem dX8_does_4 : decode cX8_does 4 = .ok (.bipush 27, 2) := by decide +kernel
theorem dX8_does_6 : decode cX8_does 6 = .ok (.aload_n 0, 1) := by decide +kernel
theorem dX8_does_7 : decode cX8_does 7 = .ok (.getfield 7, 3) := by decide +kernel
theorem dX8_does_10 : decode cX8_does 10 = .ok (.bipush 26, 2) := by decide +kernel
theorem dX8_does_12 : decode cX8_does 12 = .ok (.iaload, 1) := by decide +kernel
theorem dX8_does_13 : decode cX8_does 13 = .ok (.iadd, 1) := by decide +kernel
theorem dX8_does_14 : decode cX8_does 14 = .ok (.iload_n 1, 1) := by decide +kernel
theorem dX8_does_15 : decode cX8_does 15 = .ok (.iastore, 1) := by decide +kernel
theorem dX8_does_16 : decode cX8_does 16 = .ok (.aload_n 0, 1) := by decide +kernel
theorem dX8_does_17 : decode cX8_does 17 = .ok (.getfield 7, 3) := by decide +kernel
theorem dX8_does_20 : decode cX8_does 20 = .ok (.bipush 26, 2) := by decide +kernel
theorem dX8_does_22 : decode cX8_does 22 = .ok (.dup2, 1) := by decide +kernel
theorem dX8_does_23 : decode cX8_does 23 = .ok (.iaload, 1) := by decide +kernel
theorem dX8_does_24 : decode cX8_does 24 = .ok (.iconst 1, 1) := by decide +kernel
theorem dX8_does_25 : decode cX8_does 25 = .ok (.iadd, 1) := by decide +kernel
theorem dX8_does_26 : decode cX8_does 26 = .ok (.iastore, 1) := by decide +kernel
theorem dX8_does_27 : decode cX8_does 27 = .ok (.aload_n 0, 1) := by decide +kernel
theorem dX8_does_28 : decode cX8_does 28 = .ok (.getfield 7, 3) := by decide +kernel
theorem dX8_does_31 : decode cX8_does 31 = .ok (.iload_n 1, 1) := by decide +kernel
theorem dX8_does_32 : decode cX8_does 32 = .ok (.invokestatic 172, 3) := by decide +kernel
theorem dX8_does_35 : decode cX8_does 35 = .ok (.return_, 1) := by decide +kernel
theorem dX8_may_0 : decode cX8_may 0 = .ok (.iload_n 1, 1) := by decide +kernel
theorem dX8_may_1 : decode cX8_may 1 = .ok (.bipush 10, 2) := by decide +kernel
theorem dX8_may_3 : decode cX8_may 3 = .ok (.irem, 1) := by decide +kernel
theorem dX8_may_4 : decode cX8_may 4 = .ok (.istore_n 2, 1) := by decide +kernel
theorem dX8_may_5 : decode cX8_may 5 = .ok (.iload_n 1, 1) := by decide +kernel
theorem dX8_may_6 : decode cX8_may 6 = .ok (.bipush 40, 2) := by decide +kernel
theorem dX8_may_8 : decode cX8_may 8 = .ok (.if_icmp .ge 50, 3) := by decide +kernel
theorem dX8_may_11 : decode cX8_may 11 = .ok (.iload_n 1, 1) := by decide +kernel
theorem dX8_may_12 : decode cX8_may 12 = .ok (.bipush 30, 2) := by decide +kernel
theorem dX8_may_14 : decode cX8_may 14 = .ok (.if_icmp .lt 15, 3) := by decide +kernel
theorem dX8_may_17 : decode cX8_may 17 = .ok (.aload_n 0, 1) := by decide +kernel
theorem dX8_may_18 : decode cX8_may 18 = .ok (.bipush 67, 2) := by decide +kernel
theorem dX8_may_20 : decode cX8_may 20 = .ok (.iload_n 2, 1) := by decide +kernel
theorem dX8_may_21 : decode cX8_may 21 = .ok (.iadd, 1) := by decide +kernel
theorem dX8_may_22 : decode cX8_may 22 = .ok (.iaload, 1) := by decide +kernel
theorem dX8_may_23 : decode cX8_may 23 = .ok (.ifCond .le 39, 3) := by decide +kernel
theorem dX8_may_26 : decode cX8_may 26 = .ok (.goto 32, 3) := by decide +kernel
theorem dX8_may_29 : decode cX8_may 29 = .ok (.iload_n 1, 1) := by decide +kernel
theorem dX8_may_30 : decode cX8_may 30 = .ok (.bipush 20, 2) := by decide +kernel
theorem dX8_may_32 : decode cX8_may 32 = .ok (.if_icmp .lt 15, 3) := by decide +kernel
theorem dX8_may_35 : decode cX8_may 35 = .ok (.aload_n 0, 1) := by decide +kernel
theorem dX8_may_36 : decode cX8_may 36 = .ok (.bipush 73, 2) := by decide +kernel
theorem dX8_may_38 : decode cX8_may 38 = .ok (.iload_n 2, 1) := by decide +kernel
theorem dX8_may_39 : decode cX8_may 39 = .ok (.iadd, 1) := by decide +kernel
theorem dX8_may_40 : decode cX8_may 40 = .ok (.iaload, 1) := by decide +kernel
theorem dX8_may_41 : decode cX8_may 41 = .ok (.ifCond .le 21, 3) := by decide +kernel
theorem dX8_may_44 : decode cX8_may 44 = .ok (.goto 14, 3) := by decide +kernel
theorem dX8_may_47 : decode cX8_may 47 = .ok (.aload_n 0, 1) := by decide +kernel
theorem dX8_may_48 : decode cX8_may 48 = .ok (.bipush 73, 2) := by decide +kernel
theorem dX8_may_50 : decode cX8_may 50 = .ok (.iload_n 2, 1) := by decide +kernel
theorem dX8_may_51 : decode cX8_may 51 = .ok (.iadd, 1) := by decide +kernel
theorem dX8_may_52 : decode cX8_may 52 = .ok (.iaload, 1) := by decide +kernel
theorem dX8_may_53 : decode cX8_may 53 = .ok (.bipush 9, 2) := by decide +kernel
theorem dX8_may_55 : decode cX8_may 55 = .ok (.if_icmp .ge 7, 3) := by decide +kernel
theorem dX8_may_58 : decode cX8_may 58 = .ok (.iconst 1, 1) := by decide +kernel
theorem dX8_may_59 : decode cX8_may 59 = .ok (.goto 4, 3) := by decide +kernel
theorem dX8_may_62 : decode cX8_may 62 = .ok (.iconst 0, 1) := by decide +kernel
theorem dX8_may_63 : decode cX8_may 63 = .ok (.ireturn, 1) := by decide +kernel
theorem dX8_doesTo_0 : decode cX8_doesTo 0 = .ok (.aload_n 0, 1) := by decide +kernel
theorem dX8_doesTo_1 : decode cX8_doesTo 1 = .ok (.iload_n 1, 1) := by decide +kernel
theorem dX8_doesTo_2 : decode cX8_doesTo 2 = .ok (.invokevirtual 157, 3) := by decide +kernel
theorem dX8_doesTo_5 : decode cX8_doesTo 5 = .ok (.ifCond .ne 5, 3) := by decide +kernel
theorem dX8_doesTo_8 : decode cX8_doesTo 8 = .ok (.iconst (-1), 1) := by decide +kernel
theorem dX8_doesTo_9 : decode cX8_doesTo 9 = .ok (.ireturn, 1) := by decide +kernel
theorem dX8_doesTo_10 : decode cX8_doesTo 10 = .ok (.aload_n 0, 1) := by decide +kernel
theorem dX8_doesTo_11 : decode cX8_doesTo 11 = .ok (.getfield 7, 3) := by decide +kernel
theorem dX8_doesTo_14 : decode cX8_doesTo 14 = .ok (.iload_n 2, 1) := by decide +kernel
theorem dX8_doesTo_15 : decode cX8_doesTo 15 = .ok (.iload_n 1, 1) := by decide +kernel
theorem dX8_doesTo_16 : decode cX8_doesTo 16 = .ok (.iadd, 1) := by decide +kernel
theorem dX8_doesTo_17 : decode cX8_doesTo 17 = .ok (.invokestatic 176, 3) := by decide +kernel
theorem dX8_doesTo_20 : decode cX8_doesTo 20 = .ok (.ifCond .ne 6, 3) := by decide +kernel
theorem dX8_doesTo_23 : decode cX8_doesTo 23 = .ok (.bipush (-4), 2) := by decide +kernel
theorem dX8_doesTo_25 : decode cX8_doesTo 25 = .ok (.ireturn, 1) := by decide +kernel
theorem dX8_doesTo_26 : decode cX8_doesTo 26 = .ok (.aload_n 0, 1) := by decide +kernel
theorem dX8_doesTo_27 : decode cX8_doesTo 27 = .ok (.getfield 7, 3) := by decide +kernel
theorem dX8_doesTo_30 : decode cX8_doesTo 30 = .ok (.bipush 26, 2) := by decide +kernel
theorem dX8_doesTo_32 : decode cX8_doesTo 32 = .ok (.iaload, 1) := by decide +kernel
theorem dX8_doesTo_33 : decode cX8_doesTo 33 = .ok (.bipush 40, 2) := by decide +kernel
theorem dX8_doesTo_35 : decode cX8_doesTo 35 = .ok (.if_icmp .ne 6, 3) := by decide +kernel
theorem dX8_doesTo_38 : decode cX8_doesTo 38 = .ok (.bipush (-2), 2) := by decide +kernel
theorem dX8_doesTo_40 : decode cX8_doesTo 40 = .ok (.ireturn, 1) := by decide +kernel
theorem dX8_doesTo_41 : decode cX8_doesTo 41 = .ok (.aload_n 0, 1) := by decide +kernel
theorem dX8_doesTo_42 : decode cX8_doesTo 42 = .ok (.iload_n 2, 1) := by decide +kernel
theorem dX8_doesTo_43 : decode cX8_doesTo 43 = .ok (.iload_n 1, 1) := by decide +kernel
theorem dX8_doesTo_44 : decode cX8_doesTo 44 = .ok (.iadd, 1) := by decide +kernel
theorem dX8_doesTo_45 : decode cX8_doesTo 45 = .ok (.invokevirtual 180, 3) := by decide +kernel
theorem dX8_doesTo_48 : decode cX8_doesTo 48 = .ok (.iconst 0, 1) := by decide +kernel
theorem dX8_doesTo_49 : decode cX8_doesTo 49 = .ok (.ireturn, 1) := by decide +kernel
theorem dX8_press_0 : decode cX8_press 0 = .ok (.aload_n 0, 1) := by decide +kernel
theorem dX8_press_1 : decode cX8_press 1 = .ok (.iload_n 1, 1) := by decide +kernel
theorem dX8_press_2 : decode cX8_press 2 = .ok (.bipush 10, 2) := by decide +kernel
theorem dX8_press_4 : decode cX8_press 4 = .ok (.invokevirtual 183, 3) := by decide +kernel
theorem dX8_press_7 : decode cX8_press 7 = .ok (.istore_n 2, 1) := by decide +kernel
theorem dX8_press_8 : decode cX8_press 8 = .ok (.iload_n 2, 1) := by decide +kernel
theorem dX8_press_9 : decode cX8_press 9 = .ok (.ifCond .eq 7, 3) := by decide +kernel
theorem dX8_press_12 : decode cX8_press 12 = .ok (.iload_n 2, 1) := by decide +kernel
theorem dX8_press_13 : decode cX8_press 13 = .ok (.goto 12, 3) := by decide +kernel
theorem dX8_press_16 : decode cX8_press 16 = .ok (.aload_n 0, 1) := by decide +kernel
theorem dX8_press_17 : decode cX8_press 17 = .ok (.getfield 7, 3) := by decide +kernel
theorem dX8_press_20 : decode cX8_press 20 = .ok (.bipush 73, 2) := by decide +kernel
theorem dX8_press_22 : decode cX8_press 22 = .ok (.iload_n 1, 1) := by decide +kernel
theorem dX8_press_23 : decode cX8_press 23 = .ok (.iadd, 1) := by decide +kernel
theorem dX8_press_24 : decode cX8_press 24 = .ok (.iaload, 1) := by decide +kernel
theorem dX8_press_25 : decode cX8_press 25 = .ok (.ireturn, 1) := by decide +kernel
theorem dX8_mend_0 : decode cX8_mend 0 = .ok (.aload_n 0, 1) := by decide +kernel
theorem dX8_mend_1 : decode cX8_mend 1 = .ok (.iload_n 1, 1) := by decide +kernel
theorem dX8_mend_2 : decode cX8_mend 2 = .ok (.bipush 20, 2) := by decide +kernel
theorem dX8_mend_4 : decode cX8_mend 4 = .ok (.invokevirtual 183, 3) := by decide +kernel
theorem dX8_mend_7 : decode cX8_mend 7 = .ok (.istore_n 2, 1) := by decide +kernel
theorem dX8_mend_8 : decode cX8_mend 8 = .ok (.iload_n 2, 1) := by decide +kernel
theorem dX8_mend_9 : decode cX8_mend 9 = .ok (.ifCond .eq 7, 3) := by decide +kernel
theorem dX8_mend_12 : decode cX8_mend 12 = .ok (.iload_n 2, 1) := by decide +kernel
theorem dX8_mend_13 : decode cX8_mend 13 = .ok (.goto 12, 3) := by decide +kernel
theorem dX8_mend_16 : decode cX8_mend 16 = .ok (.aload_n 0, 1) := by decide +kernel
theorem dX8_mend_17 : decode cX8_mend 17 = .ok (.getfield 7, 3) := by decide +kernel
theorem dX8_mend_20 : decode cX8_mend 20 = .ok (.bipush 73, 2) := by decide +kernel
theorem dX8_mend_22 : decode cX8_mend 22 = .ok (.iload_n 1, 1) := by decide +kernel
theorem dX8_mend_23 : decode cX8_mend 23 = .ok (.iadd, 1) := by decide +kernel
theorem dX8_mend_24 : decode cX8_mend 24 = .ok (.iaload, 1) := by decide +kernel
theorem dX8_mend_25 : decode cX8_mend 25 = .ok (.ireturn, 1) := by decide +kernel
theorem dX8_eye_0 : decode cX8_eye 0 = .ok (.aload_n 0, 1) := by decide +kernel
theorem dX8_eye_1 : decode cX8_eye 1 = .ok (.iload_n 1, 1) := by decide +kernel
theorem dX8_eye_2 : decode cX8_eye 2 = .ok (.bipush 30, 2) := by decide +kernel
theorem dX8_eye_4 : decode cX8_eye 4 = .ok (.invokevirtual 183, 3) := by decide +kernel
theorem dX8_eye_7 : decode cX8_eye 7 = .ok (.istore_n 2, 1) := by decide +kernel
theorem dX8_eye_8 : decode cX8_eye 8 = .ok (.iload_n 2, 1) := by decide +kernel
theorem dX8_eye_9 : decode cX8_eye 9 = .ok (.ifCond .eq 7, 3) := by decide +kernel
theorem dX8_eye_12 : decode cX8_eye 12 = .ok (.iload_n 2, 1) := by decide +kernel
theorem dX8_eye_13 : decode cX8_eye 13 = .ok (.goto 12, 3) := by decide +kernel
theorem dX8_eye_16 : decode cX8_eye 16 = .ok (.aload_n 0, 1) := by decide +kernel
theorem dX8_eye_17 : decode cX8_eye 17 = .ok (.getfield 7, 3) := by decide +kernel
theorem dX8_eye_20 : decode cX8_eye 20 = .ok (.bipush 67, 2) := by decide +kernel
theorem dX8_eye_22 : decode cX8_eye 22 = .ok (.iload_n 1, 1) := by decide +kernel
theorem dX8_eye_23 : decode cX8_eye 23 = .ok (.iadd, 1) := by decide +kernel
theorem dX8_eye_24 : decode cX8_eye 24 = .ok (.iaload, 1) := by decide +kernel
theorem dX8_eye_25 : decode cX8_eye 25 = .ok (.ireturn, 1) := by decide +kernel
theorem dX8_turn_0 : decode cX8_turn 0 = .ok (.aload_n 0, 1) := by decide +kernel
theorem dX8_turn_1 : decode cX8_turn 1 = .ok (.iload_n 1, 1) := by decide +kernel
theorem dX8_turn_2 : decode cX8_turn 2 = .ok (.bipush 40, 2) := by decide +kernel
theorem dX8_turn_4 : decode cX8_turn 4 = .ok (.invokevirtual 183, 3) := by decide +kernel
theorem dX8_turn_7 : decode cX8_turn 7 = .ok (.istore_n 2, 1) := by decide +kernel
theorem dX8_turn_8 : decode cX8_turn 8 = .ok (.iload_n 2, 1) := by decide +kernel
theorem dX8_turn_9 : decode cX8_turn 9 = .ok (.ifCond .eq 7, 3) := by decide +kernel
theorem dX8_turn_12 : decode cX8_turn 12 = .ok (.iload_n 2, 1) := by decide +kernel
theorem dX8_turn_13 : decode cX8_turn 13 = .ok (.goto 14, 3) := by decide +kernel
theorem dX8_turn_16 : decode cX8_turn 16 = .ok (.aload_n 0, 1) := by decide +kernel
theorem dX8_turn_17 : decode cX8_turn 17 = .ok (.getfield 7, 3) := by decide +kernel
theorem dX8_turn_20 : decode cX8_turn 20 = .ok (.bipush 79, 2) := by decide +kernel
theorem dX8_turn_22 : decode cX8_turn 22 = .ok (.iaload, 1) := by decide +kernel
theorem dX8_turn_23 : decode cX8_turn 23 = .ok (.iload_n 1, 1) := by decide +kernel
theorem dX8_turn_24 : decode cX8_turn 24 = .ok (.ishr, 1) := by decide +kernel
theorem dX8_turn_25 : decode cX8_turn 25 = .ok (.iconst 1, 1) := by decide +kernel
theorem dX8_turn_26 : decode cX8_turn 26 = .ok (.iand, 1) := by decide +kernel
theorem dX8_turn_27 : decode cX8_turn 27 = .ok (.ireturn, 1) := by decide +kernel
theorem dX8_undo_0 : decode cX8_undo 0 = .ok (.iload_n 1, 1) := by decide +kernel
theorem dX8_undo_1 : decode cX8_undo 1 = .ok (.i2l, 1) := by decide +kernel
theorem dX8_undo_2 : decode cX8_undo 2 = .ok (.lconst 0, 1) := by decide +kernel
theorem dX8_undo_3 : decode cX8_undo 3 = .ok (.aload_n 0, 1) := by decide +kernel
theorem dX8_undo_4 : decode cX8_undo 4 = .ok (.getfield 7, 3) := by decide +kernel
theorem dX8_undo_7 : decode cX8_undo 7 = .ok (.bipush 26, 2) := by decide +kernel
theorem dX8_undo_9 : decode cX8_undo 9 = .ok (.iaload, 1) := by decide +kernel
theorem dX8_undo_10 : decode cX8_undo 10 = .ok (.i2l, 1) := by decide +kernel
theorem dX8_undo_11 : decode cX8_undo 11 = .ok (.invokestatic 69, 3) := by decide +kernel
theorem dX8_undo_14 : decode cX8_undo 14 = .ok (.ifCond .ne 5, 3) := by decide +kernel
theorem dX8_undo_17 : decode cX8_undo 17 = .ok (.iconst (-1), 1) := by decide +kernel
theorem dX8_undo_18 : decode cX8_undo 18 = .ok (.ireturn, 1) := by decide +kernel
theorem dX8_undo_19 : decode cX8_undo 19 = .ok (.aload_n 0, 1) := by decide +kernel
theorem dX8_undo_20 : decode cX8_undo 20 = .ok (.getfield 7, 3) := by decide +kernel
theorem dX8_undo_23 : decode cX8_undo 23 = .ok (.bipush 26, 2) := by decide +kernel
theorem dX8_undo_25 : decode cX8_undo 25 = .ok (.iaload, 1) := by decide +kernel
theorem dX8_undo_26 : decode cX8_undo 26 = .ok (.iload_n 1, 1) := by decide +kernel
theorem dX8_undo_27 : decode cX8_undo 27 = .ok (.isub, 1) := by decide +kernel
theorem dX8_undo_28 : decode cX8_undo 28 = .ok (.istore_n 2, 1) := by decide +kernel
theorem dX8_undo_29 : decode cX8_undo 29 = .ok (.aload_n 0, 1) := by decide +kernel
theorem dX8_undo_30 : decode cX8_undo 30 = .ok (.getfield 7, 3) := by decide +kernel
theorem dX8_undo_33 : decode cX8_undo 33 = .ok (.invokestatic 125, 3) := by decide +kernel
theorem dX8_undo_36 : decode cX8_undo 36 = .ok (.iconst 0, 1) := by decide +kernel
theorem dX8_undo_37 : decode cX8_undo 37 = .ok (.istore_n 3, 1) := by decide +kernel
theorem dX8_undo_38 : decode cX8_undo 38 = .ok (.iload_n 3, 1) := by decide +kernel
theorem dX8_undo_39 : decode cX8_undo 39 = .ok (.iload_n 1, 1) := by decide +kernel
theorem dX8_undo_40 : decode cX8_undo 40 = .ok (.if_icmp .ge 25, 3) := by decide +kernel
theorem dX8_undo_43 : decode cX8_undo 43 = .ok (.aload_n 0, 1) := by decide +kernel
theorem dX8_undo_44 : decode cX8_undo 44 = .ok (.getfield 7, 3) := by decide +kernel
theorem dX8_undo_47 : decode cX8_undo 47 = .ok (.aload_n 0, 1) := by decide +kernel
theorem dX8_undo_48 : decode cX8_undo 48 = .ok (.getfield 7, 3) := by decide +kernel
theorem dX8_undo_51 : decode cX8_undo 51 = .ok (.bipush 27, 2) := by decide +kernel
theorem dX8_undo_53 : decode cX8_undo 53 = .ok (.iload_n 3, 1) := by decide +kernel
theorem dX8_undo_54 : decode cX8_undo 54 = .ok (.iadd, 1) := by decide +kernel
theorem dX8_undo_55 : decode cX8_undo 55 = .ok (.iaload, 1) := by decide +kernel
theorem dX8_undo_56 : decode cX8_undo 56 = .ok (.invokestatic 172, 3) := by decide +kernel
theorem dX8_undo_59 : decode cX8_undo 59 = .ok (.iinc 3 1, 3) := by decide +kernel
theorem dX8_undo_62 : decode cX8_undo 62 = .ok (.goto (-24), 3) := by decide +kernel
theorem dX8_undo_65 : decode cX8_undo 65 = .ok (.aload_n 0, 1) := by decide +kernel
theorem dX8_undo_66 : decode cX8_undo 66 = .ok (.getfield 7, 3) := by decide +kernel
theorem dX8_undo_69 : decode cX8_undo 69 = .ok (.bipush 26, 2) := by decide +kernel
theorem dX8_undo_71 : decode cX8_undo 71 = .ok (.iload_n 1, 1) := by decide +kernel
theorem dX8_undo_72 : decode cX8_undo 72 = .ok (.iastore, 1) := by decide +kernel
theorem dX8_undo_73 : decode cX8_undo 73 = .ok (.iload_n 2, 1) := by decide +kernel
theorem dX8_undo_74 : decode cX8_undo 74 = .ok (.ireturn, 1) := by decide +kernel
theorem dX8_isShelf_0 : decode cX8_isShelf 0 = .ok (.iload_n 0, 1) := by decide +kernel
theorem dX8_isShelf_1 : decode cX8_isShelf 1 = .ok (.i2l, 1) := by decide +kernel
theorem dX8_isShelf_2 : decode cX8_isShelf 2 = .ok (.lconst 0, 1) := by decide +kernel
theorem dX8_isShelf_3 : decode cX8_isShelf 3 = .ok (.ldc2_w 186, 3) := by decide +kernel
theorem dX8_isShelf_6 : decode cX8_isShelf 6 = .ok (.invokestatic 69, 3) := by decide +kernel
theorem dX8_isShelf_9 : decode cX8_isShelf 9 = .ok (.ireturn, 1) := by decide +kernel
theorem dX8_keep_0 : decode cX8_keep 0 = .ok (.iload_n 1, 1) := by decide +kernel
theorem dX8_keep_1 : decode cX8_keep 1 = .ok (.invokestatic 188, 3) := by decide +kernel
theorem dX8_keep_4 : decode cX8_keep 4 = .ok (.ifCond .ne 5, 3) := by decide +kernel
theorem dX8_keep_7 : decode cX8_keep 7 = .ok (.iconst (-1), 1) := by decide +kernel
theorem dX8_keep_8 : decode cX8_keep 8 = .ok (.ireturn, 1) := by decide +kernel
theorem dX8_keep_9 : decode cX8_keep 9 = .ok (.aload_n 0, 1) := by decide +kernel
theorem dX8_keep_10 : decode cX8_keep 10 = .ok (.getfield 7, 3) := by decide +kernel
theorem dX8_keep_13 : decode cX8_keep 13 = .ok (.iconst 0, 1) := by decide +kernel
theorem dX8_keep_14 : decode cX8_keep 14 = .ok (.iaload, 1) := by decide +kernel
theorem dX8_keep_15 : decode cX8_keep 15 = .ok (.ifCond .ne 6, 3) := by decide +kernel
theorem dX8_keep_18 : decode cX8_keep 18 = .ok (.bipush (-4), 2) := by decide +kernel
theorem dX8_keep_20 : decode cX8_keep 20 = .ok (.ireturn, 1) := by decide +kernel
theorem dX8_keep_21 : decode cX8_keep 21 = .ok (.iconst 0, 1) := by decide +kernel
theorem dX8_keep_22 : decode cX8_keep 22 = .ok (.istore_n 2, 1) := by decide +kernel
theorem dX8_keep_23 : decode cX8_keep 23 = .ok (.iload_n 2, 1) := by decide +kernel
theorem dX8_keep_24 : decode cX8_keep 24 = .ok (.bipush 80, 2) := by decide +kernel
theorem dX8_keep_26 : decode cX8_keep 26 = .ok (.if_icmp .ge 26, 3) := by decide +kernel
theorem dX8_keep_29 : decode cX8_keep 29 = .ok (.aload_n 0, 1) := by decide +kernel
theorem dX8_keep_30 : decode cX8_keep 30 = .ok (.getfield 13, 3) := by decide +kernel
theorem dX8_keep_33 : decode cX8_keep 33 = .ok (.bipush 80, 2) := by decide +kernel
theorem dX8_keep_35 : decode cX8_keep 35 = .ok (.iload_n 1, 1) := by decide +kernel
theorem dX8_keep_36 : decode cX8_keep 36 = .ok (.imul, 1) := by decide +kernel
theorem dX8_keep_37 : decode cX8_keep 37 = .ok (.iload_n 2, 1) := by decide +kernel
theorem dX8_keep_38 : decode cX8_keep 38 = .ok (.iadd, 1) := by decide +kernel
theorem dX8_keep_39 : decode cX8_keep 39 = .ok (.aload_n 0, 1) := by decide +kernel
theorem dX8_keep_40 : decode cX8_keep 40 = .ok (.getfield 7, 3) := by decide +kernel
theorem dX8_keep_43 : decode cX8_keep 43 = .ok (.iload_n 2, 1) := by decide +kernel
theorem dX8_keep_44 : decode cX8_keep 44 = .ok (.iaload, 1) := by decide +kernel
theorem dX8_keep_45 : decode cX8_keep 45 = .ok (.iastore, 1) := by decide +kernel
theorem dX8_keep_46 : decode cX8_keep 46 = .ok (.iinc 2 1, 3) := by decide +kernel
theorem dX8_keep_49 : decode cX8_keep 49 = .ok (.goto (-26), 3) := by decide +kernel
theorem dX8_keep_52 : decode cX8_keep 52 = .ok (.aload_n 0, 1) := by decide +kernel
theorem dX8_keep_53 : decode cX8_keep 53 = .ok (.getfield 16, 3) := by decide +kernel
theorem dX8_keep_56 : decode cX8_keep 56 = .ok (.iload_n 1, 1) := by decide +kernel
theorem dX8_keep_57 : decode cX8_keep 57 = .ok (.iconst 1, 1) := by decide +kernel
theorem dX8_keep_58 : decode cX8_keep 58 = .ok (.bastore, 1) := by decide +kernel
theorem dX8_keep_59 : decode cX8_keep 59 = .ok (.aload_n 0, 1) := by decide +kernel
theorem dX8_keep_60 : decode cX8_keep 60 = .ok (.getfield 7, 3) := by decide +kernel
theorem dX8_keep_63 : decode cX8_keep 63 = .ok (.bipush 26, 2) := by decide +kernel
theorem dX8_keep_65 : decode cX8_keep 65 = .ok (.iaload, 1) := by decide +kernel
theorem dX8_keep_66 : decode cX8_keep 66 = .ok (.ireturn, 1) := by decide +kernel
theorem dX8_on_0 : decode cX8_on 0 = .ok (.iload_n 1, 1) := by decide +kernel
theorem dX8_on_1 : decode cX8_on 1 = .ok (.invokestatic 188, 3) := by decide +kernel
theorem dX8_on_4 : decode cX8_on 4 = .ok (.ifCond .ne 5, 3) := by decide +kernel
theorem dX8_on_7 : decode cX8_on 7 = .ok (.iconst (-1), 1) := by decide +kernel
theorem dX8_on_8 : decode cX8_on 8 = .ok (.ireturn, 1) := by decide +kernel
theorem dX8_on_9 : decode cX8_on 9 = .ok (.aload_n 0, 1) := by decide +kernel
theorem dX8_on_10 : decode cX8_on 10 = .ok (.getfield 16, 3) := by decide +kernel
theorem dX8_on_13 : decode cX8_on 13 = .ok (.iload_n 1, 1) := by decide +kernel
theorem dX8_on_14 : decode cX8_on 14 = .ok (.baload, 1) := by decide +kernel
theorem dX8_on_15 : decode cX8_on 15 = .ok (.ifCond .ne 9, 3) := by decide +kernel
theorem dX8_on_18 : decode cX8_on 18 = .ok (.aload_n 0, 1) := by decide +kernel
theorem dX8_on_19 : decode cX8_on 19 = .ok (.iconst 1, 1) := by decide +kernel
theorem dX8_on_20 : decode cX8_on 20 = .ok (.invokevirtual 79, 3) := by decide +kernel
theorem dX8_on_23 : decode cX8_on 23 = .ok (.ireturn, 1) := by decide +kernel
theorem dX8_on_24 : decode cX8_on 24 = .ok (.iconst 0, 1) := by decide +kernel
theorem dX8_on_25 : decode cX8_on 25 = .ok (.istore_n 2, 1) := by decide +kernel
theorem dX8_on_26 : decode cX8_on 26 = .ok (.iload_n 2, 1) := by decide +kernel
theorem dX8_on_27 : decode cX8_on 27 = .ok (.bipush 80, 2) := by decide +kernel
theorem dX8_on_29 : decode cX8_on 29 = .ok (.if_icmp .ge 26, 3) := by decide +kernel
theorem dX8_on_32 : decode cX8_on 32 = .ok (.aload_n 0, 1) := by decide +kernel
theorem dX8_on_33 : decode cX8_on 33 = .ok (.getfield 7, 3) := by decide +kernel
theorem dX8_on_36 : decode cX8_on 36 = .ok (.iload_n 2, 1) := by decide +kernel
theorem dX8_on_37 : decode cX8_on 37 = .ok (.aload_n 0, 1) := by decide +kernel
theorem dX8_on_38 : decode cX8_on 38 = .ok (.getfield 13, 3) := by decide +kernel
theorem dX8_on_41 : decode cX8_on 41 = .ok (.bipush 80, 2) := by decide +kernel
theorem dX8_on_43 : decode cX8_on 43 = .ok (.iload_n 1, 1) := by decide +kernel
theorem dX8_on_44 : decode cX8_on 44 = .ok (.imul, 1) := by decide +kernel
theorem dX8_on_45 : decode cX8_on 45 = .ok (.iload_n 2, 1) := by decide +kernel
theorem dX8_on_46 : decode cX8_on 46 = .ok (.iadd, 1) := by decide +kernel
theorem dX8_on_47 : decode cX8_on 47 = .ok (.iaload, 1) := by decide +kernel
theorem dX8_on_48 : decode cX8_on 48 = .ok (.iastore, 1) := by decide +kernel
theorem dX8_on_49 : decode cX8_on 49 = .ok (.iinc 2 1, 3) := by decide +kernel
theorem dX8_on_52 : decode cX8_on 52 = .ok (.goto (-26), 3) := by decide +kernel
theorem dX8_on_55 : decode cX8_on 55 = .ok (.aload_n 0, 1) := by decide +kernel
theorem dX8_on_56 : decode cX8_on 56 = .ok (.getfield 7, 3) := by decide +kernel
theorem dX8_on_59 : decode cX8_on 59 = .ok (.bipush 26, 2) := by decide +kernel
theorem dX8_on_61 : decode cX8_on 61 = .ok (.iaload, 1) := by decide +kernel
theorem dX8_on_62 : decode cX8_on 62 = .ok (.ireturn, 1) := by decide +kernel
theorem dX8_tells_0 : decode cX8_tells 0 = .ok (.aload_n 0, 1) := by decide +kernel
theorem dX8_tells_1 : decode cX8_tells 1 = .ok (.iload_n 1, 1) := by decide +kernel
theorem dX8_tells_2 : decode cX8_tells 2 = .ok (.invokevirtual 157, 3) := by decide +kernel
theorem dX8_tells_5 : decode cX8_tells 5 = .ok (.ifCond .eq 19, 3) := by decide +kernel
theorem dX8_tells_8 : decode cX8_tells 8 = .ok (.iload_n 2, 1) := by decide +kernel
theorem dX8_tells_9 : decode cX8_tells 9 = .ok (.invokestatic 191, 3) := by decide +kernel
theorem dX8_tells_12 : decode cX8_tells 12 = .ok (.ifCond .eq 12, 3) := by decide +kernel
theorem dX8_tells_15 : decode cX8_tells 15 = .ok (.aload_n 0, 1) := by decide +kernel
theorem dX8_tells_16 : decode cX8_tells 16 = .ok (.iload_n 1, 1) := by decide +kernel
theorem dX8_tells_17 : decode cX8_tells 17 = .ok (.iload_n 2, 1) := by decide +kernel
theorem dX8_tells_18 : decode cX8_tells 18 = .ok (.invokevirtual 147, 3) := by decide +kernel
theorem dX8_tells_21 : decode cX8_tells 21 = .ok (.goto 4, 3) := by decide +kernel
theorem dX8_tells_24 : decode cX8_tells 24 = .ok (.iconst (-1), 1) := by decide +kernel
theorem dX8_tells_25 : decode cX8_tells 25 = .ok (.ireturn, 1) := by decide +kernel
theorem dX8_shown_0 : decode cX8_shown 0 = .ok (.iload_n 1, 1) := by decide +kernel
theorem dX8_shown_1 : decode cX8_shown 1 = .ok (.i2l, 1) := by decide +kernel
theorem dX8_shown_2 : decode cX8_shown 2 = .ok (.lconst 0, 1) := by decide +kernel
theorem dX8_shown_3 : decode cX8_shown 3 = .ok (.aload_n 0, 1) := by decide +kernel
theorem dX8_shown_4 : decode cX8_shown 4 = .ok (.invokevirtual 194, 3) := by decide +kernel
theorem dX8_shown_7 : decode cX8_shown 7 = .ok (.i2l, 1) := by decide +kernel
theorem dX8_shown_8 : decode cX8_shown 8 = .ok (.invokestatic 69, 3) := by decide +kernel
theorem dX8_shown_11 : decode cX8_shown 11 = .ok (.ifCond .ne 5, 3) := by decide +kernel
theorem dX8_shown_14 : decode cX8_shown 14 = .ok (.iconst (-1), 1) := by decide +kernel
theorem dX8_shown_15 : decode cX8_shown 15 = .ok (.ireturn, 1) := by decide +kernel
theorem dX8_shown_16 : decode cX8_shown 16 = .ok (.aload_n 0, 1) := by decide +kernel
theorem dX8_shown_17 : decode cX8_shown 17 = .ok (.getfield 7, 3) := by decide +kernel
theorem dX8_shown_20 : decode cX8_shown 20 = .ok (.iconst 0, 1) := by decide +kernel
theorem dX8_shown_21 : decode cX8_shown 21 = .ok (.iaload, 1) := by decide +kernel
theorem dX8_shown_22 : decode cX8_shown 22 = .ok (.ifCond .ne 6, 3) := by decide +kernel
theorem dX8_shown_25 : decode cX8_shown 25 = .ok (.bipush (-4), 2) := by decide +kernel
theorem dX8_shown_27 : decode cX8_shown 27 = .ok (.ireturn, 1) := by decide +kernel
theorem dX8_shown_28 : decode cX8_shown 28 = .ok (.iconst 0, 1) := by decide +kernel
theorem dX8_shown_29 : decode cX8_shown 29 = .ok (.istore_n 2, 1) := by decide +kernel
theorem dX8_shown_30 : decode cX8_shown 30 = .ok (.iconst 0, 1) := by decide +kernel
theorem dX8_shown_31 : decode cX8_shown 31 = .ok (.istore_n 3, 1) := by decide +kernel
theorem dX8_shown_32 : decode cX8_shown 32 = .ok (.iload_n 3, 1) := by decide +kernel
theorem dX8_shown_33 : decode cX8_shown 33 = .ok (.bipush 6, 2) := by decide +kernel
theorem dX8_shown_35 : decode cX8_shown 35 = .ok (.if_icmp .ge 93, 3) := by decide +kernel
theorem dX8_shown_38 : decode cX8_shown 38 = .ok (.iconst 0, 1) := by decide +kernel
theorem dX8_shown_39 : decode cX8_shown 39 = .ok (.istore 4, 2) := by decide +kernel
theorem dX8_shown_41 : decode cX8_shown 41 = .ok (.iconst 0, 1) := by decide +kernel
theorem dX8_shown_42 : decode cX8_shown 42 = .ok (.istore 5, 2) := by decide +kernel
theorem dX8_shown_44 : decode cX8_shown 44 = .ok (.iload 5, 2) := by decide +kernel
theorem dX8_shown_46 : decode cX8_shown 46 = .ok (.aload_n 0, 1) := by decide +kernel
theorem dX8_shown_47 : decode cX8_shown 47 = .ok (.getfield 7, 3) := by decide +kernel
theorem dX8_shown_50 : decode cX8_shown 50 = .ok (.iconst 0, 1) := by decide +kernel
theorem dX8_shown_51 : decode cX8_shown 51 = .ok (.iaload, 1) := by decide +kernel
theorem dX8_shown_52 : decode cX8_shown 52 = .ok (.if_icmp .ge 42, 3) := by decide +kernel
theorem dX8_shown_55 : decode cX8_shown 55 = .ok (.iload 4, 2) := by decide +kernel
theorem dX8_shown_57 : decode cX8_shown 57 = .ok (.ifCond .ne 24, 3) := by decide +kernel
theorem dX8_shown_60 : decode cX8_shown 60 = .ok (.iload_n 1, 1) := by decide +kernel
theorem dX8_shown_61 : decode cX8_shown 61 = .ok (.iload 5, 2) := by decide +kernel
theorem dX8_shown_63 : decode cX8_shown 63 = .ok (.invokestatic 129, 3) := by decide +kernel
theorem dX8_shown_66 : decode cX8_shown 66 = .ok (.ifCond .eq 19, 3) := by decide +kernel
theorem dX8_shown_69 : decode cX8_shown 69 = .ok (.aload_n 0, 1) := by decide +kernel
theorem dX8_shown_70 : decode cX8_shown 70 = .ok (.iload 5, 2) := by decide +kernel
theorem dX8_shown_72 : decode cX8_shown 72 = .ok (.iload_n 3, 1) := by decide +kernel
theorem dX8_shown_73 : decode cX8_shown 73 = .ok (.invokevirtual 147, 3) := by decide +kernel
theorem dX8_shown_76 : decode cX8_shown 76 = .ok (.bipush (-9), 2) := by decide +kernel
theorem dX8_shown_78 : decode cX8_shown 78 = .ok (.if_icmp .eq 7, 3) := by decide +kernel
theorem dX8_shown_81 : decode cX8_shown 81 = .ok (.iconst 1, 1) := by decide +kernel
theorem dX8_shown_82 : decode cX8_shown 82 = .ok (.goto 4, 3) := by decide +kernel
theorem dX8_shown_85 : decode cX8_shown 85 = .ok (.iconst 0, 1) := by decide +kernel
theorem dX8_shown_86 : decode cX8_shown 86 = .ok (.istore 4, 2) := by decide +kernel
theorem dX8_shown_88 : decode cX8_shown 88 = .ok (.iinc 5 1, 3) := by decide +kernel
theorem dX8_shown_91 : decode cX8_shown 91 = .ok (.goto (-47), 3) := by decide +kernel
theorem dX8_shown_94 : decode cX8_shown 94 = .ok (.iload_n 2, 1) := by decide +kernel
theorem dX8_shown_95 : decode cX8_shown 95 = .ok (.iload 4, 2) := by decide +kernel
theorem dX8_shown_97 : decode cX8_shown 97 = .ok (.ifCond .eq 22, 3) := by decide +kernel
theorem dX8_shown_100 : decode cX8_shown 100 = .ok (.aload_n 0, 1) := by decide +kernel
theorem dX8_shown_101 : decode cX8_shown 101 = .ok (.aload_n 0, 1) := by decide +kernel
theorem dX8_shown_102 : decode cX8_shown 102 = .ok (.getfield 7, 3) := by decide +kernel
theorem dX8_shown_105 : decode cX8_shown 105 = .ok (.iload_n 1, 1) := by decide +kernel
theorem dX8_shown_106 : decode cX8_shown 106 = .ok (.iload_n 3, 1) := by decide +kernel
theorem dX8_shown_107 : decode cX8_shown 107 = .ok (.invokevirtual 150, 3) := by decide +kernel
theorem dX8_shown_110 : decode cX8_shown 110 = .ok (.ifCond .ne 9, 3) := by decide +kernel
theorem dX8_shown_113 : decode cX8_shown 113 = .ok (.iconst 1, 1) := by decide +kernel
theorem dX8_shown_114 : decode cX8_shown 114 = .ok (.iload_n 3, 1) := by decide +kernel
theorem dX8_shown_115 : decode cX8_shown 115 = .ok (.ishl, 1) := by decide +kernel
theorem dX8_shown_116 : decode cX8_shown 116 = .ok (.goto 4, 3) := by decide +kernel
theorem dX8_shown_119 : decode cX8_shown 119 = .ok (.iconst 0, 1) := by decide +kernel
theorem dX8_shown_120 : decode cX8_shown 120 = .ok (.ior, 1) := by decide +kernel
theorem dX8_shown_121 : decode cX8_shown 121 = .ok (.istore_n 2, 1) := by decide +kernel
theorem dX8_shown_122 : decode cX8_shown 122 = .ok (.iinc 3 1, 3) := by decide +kernel
theorem dX8_shown_125 : decode cX8_shown 125 = .ok (.goto (-93), 3) := by decide +kernel
theorem dX8_shown_128 : decode cX8_shown 128 = .ok (.aload_n 0, 1) := by decide +kernel
theorem dX8_shown_129 : decode cX8_shown 129 = .ok (.iload_n 2, 1) := by decide +kernel
theorem dX8_shown_130 : decode cX8_shown 130 = .ok (.invokevirtual 87, 3) := by decide +kernel
theorem dX8_shown_133 : decode cX8_shown 133 = .ok (.istore_n 3, 1) := by decide +kernel
theorem dX8_shown_134 : decode cX8_shown 134 = .ok (.aload_n 0, 1) := by decide +kernel
theorem dX8_shown_135 : decode cX8_shown 135 = .ok (.iload_n 1, 1) := by decide +kernel
theorem dX8_shown_136 : decode cX8_shown 136 = .ok (.invokevirtual 198, 3) := by decide +kernel
theorem dX8_shown_139 : decode cX8_shown 139 = .ok (.ireturn, 1) := by decide +kernel
theorem dX8_call_0 : decode cX8_call 0 = .ok (.iload_n 1, 1) := by decide +kernel
theorem dX8_call_1 : decode cX8_call 1 = .ok (.invokestatic 191, 3) := by decide +kernel
theorem dX8_call_4 : decode cX8_call 4 = .ok (.ifCond .ne 5, 3) := by decide +kernel
theorem dX8_call_7 : decode cX8_call 7 = .ok (.iconst (-1), 1) := by decide +kernel
theorem dX8_call_8 : decode cX8_call 8 = .ok (.ireturn, 1) := by decide +kernel
theorem dX8_call_9 : decode cX8_call 9 = .ok (.aload_n 0, 1) := by decide +kernel
theorem dX8_call_10 : decode cX8_call 10 = .ok (.getfield 7, 3) := by decide +kernel
theorem dX8_call_13 : decode cX8_call 13 = .ok (.iconst 0, 1) := by decide +kernel
theorem dX8_call_14 : decode cX8_call 14 = .ok (.iaload, 1) := by decide +kernel
theorem dX8_call_15 : decode cX8_call 15 = .ok (.ifCond .ne 6, 3) := by decide +kernel
theorem dX8_call_18 : decode cX8_call 18 = .ok (.bipush (-4), 2) := by decide +kernel
theorem dX8_call_20 : decode cX8_call 20 = .ok (.ireturn, 1) := by decide +kernel
theorem dX8_call_21 : decode cX8_call 21 = .ok (.bipush (-9), 2) := by decide +kernel
theorem dX8_call_23 : decode cX8_call 23 = .ok (.istore_n 2, 1) := by decide +kernel
theorem dX8_call_24 : decode cX8_call 24 = .ok (.ldc 201, 2) := by decide +kernel
theorem dX8_call_26 : decode cX8_call 26 = .ok (.istore_n 3, 1) := by decide +kernel
theorem dX8_call_27 : decode cX8_call 27 = .ok (.iconst 0, 1) := by decide +kernel
theorem dX8_call_28 : decode cX8_call 28 = .ok (.istore 4, 2) := by decide +kernel
theorem dX8_call_30 : decode cX8_call 30 = .ok (.iload 4, 2) := by decide +kernel
theorem dX8_call_32 : decode cX8_call 32 = .ok (.aload_n 0, 1) := by decide +kernel
theorem dX8_call_33 : decode cX8_call 33 = .ok (.invokevirtual 194, 3) := by decide +kernel
theorem dX8_call_36 : decode cX8_call 36 = .ok (.if_icmp .gt 69, 3) := by decide +kernel
theorem dX8_call_39 : decode cX8_call 39 = .ok (.aload_n 0, 1) := by decide +kernel
theorem dX8_call_40 : decode cX8_call 40 = .ok (.aload_n 0, 1) := by decide +kernel
theorem dX8_call_41 : decode cX8_call 41 = .ok (.getfield 7, 3) := by decide +kernel
theorem dX8_call_44 : decode cX8_call 44 = .ok (.iload 4, 2) := by decide +kernel
theorem dX8_call_46 : decode cX8_call 46 = .ok (.iload_n 1, 1) := by decide +kernel
theorem dX8_call_47 : decode cX8_call 47 = .ok (.invokevirtual 150, 3) := by decide +kernel
theorem dX8_call_50 : decode cX8_call 50 = .ok (.ifCond .le 49, 3) := by decide +kernel
theorem dX8_call_53 : decode cX8_call 53 = .ok (.bipush 10, 2) := by decide +kernel
theorem dX8_call_55 : decode cX8_call 55 = .ok (.iload 4, 2) := by decide +kernel
theorem dX8_call_57 : decode cX8_call 57 = .ok (.invokestatic 166, 3) := by decide +kernel
theorem dX8_call_60 : decode cX8_call 60 = .ok (.imul, 1) := by decide +kernel
theorem dX8_call_61 : decode cX8_call 61 = .ok (.aload_n 0, 1) := by decide +kernel
theorem dX8_call_62 : decode cX8_call 62 = .ok (.iload 4, 2) := by decide +kernel
theorem dX8_call_64 : decode cX8_call 64 = .ok (.invokevirtual 198, 3) := by decide +kernel
theorem dX8_call_67 : decode cX8_call 67 = .ok (.invokestatic 166, 3) := by decide +kernel
theorem dX8_call_70 : decode cX8_call 70 = .ok (.iadd, 1) := by decide +kernel
theorem dX8_call_71 : decode cX8_call 71 = .ok (.istore 5, 2) := by decide +kernel
theorem dX8_call_73 : decode cX8_call 73 = .ok (.iload 5, 2) := by decide +kernel
theorem dX8_call_75 : decode cX8_call 75 = .ok (.iload_n 3, 1) := by decide +kernel
theorem dX8_call_76 : decode cX8_call 76 = .ok (.if_icmp .ge 8, 3) := by decide +kernel
theorem dX8_call_79 : decode cX8_call 79 = .ok (.iload 4, 2) := by decide +kernel
theorem dX8_call_81 : decode cX8_call 81 = .ok (.goto 4, 3) := by decide +kernel
theorem dX8_call_84 : decode cX8_call 84 = .ok (.iload_n 2, 1) := by decide +kernel
theorem dX8_call_85 : decode cX8_call 85 = .ok (.istore_n 2, 1) := by decide +kernel
theorem dX8_call_86 : decode cX8_call 86 = .ok (.iload 5, 2) := by decide +kernel
theorem dX8_call_88 : decode cX8_call 88 = .ok (.iload_n 3, 1) := by decide +kernel
theorem dX8_call_89 : decode cX8_call 89 = .ok (.if_icmp .ge 8, 3) := by decide +kernel
theorem dX8_call_92 : decode cX8_call 92 = .ok (.iload 5, 2) := by decide +kernel
theorem dX8_call_94 : decode cX8_call 94 = .ok (.goto 4, 3) := by decide +kernel
theorem dX8_call_97 : decode cX8_call 97 = .ok (.iload_n 3, 1) := by decide +kernel
theorem dX8_call_98 : decode cX8_call 98 = .ok (.istore_n 3, 1) := by decide +kernel
theorem dX8_call_99 : decode cX8_call 99 = .ok (.iinc 4 1, 3) := by decide +kernel
theorem dX8_call_102 : decode cX8_call 102 = .ok (.goto (-72), 3) := by decide +kernel
theorem dX8_call_105 : decode cX8_call 105 = .ok (.iload_n 2, 1) := by decide +kernel
theorem dX8_call_106 : decode cX8_call 106 = .ok (.bipush (-9), 2) := by decide +kernel
theorem dX8_call_108 : decode cX8_call 108 = .ok (.if_icmp .ne 7, 3) := by decide +kernel
theorem dX8_call_111 : decode cX8_call 111 = .ok (.iconst 0, 1) := by decide +kernel
theorem dX8_call_112 : decode cX8_call 112 = .ok (.goto 8, 3) := by decide +kernel
theorem dX8_call_115 : decode cX8_call 115 = .ok (.aload_n 0, 1) := by decide +kernel
theorem dX8_call_116 : decode cX8_call 116 = .ok (.iload_n 2, 1) := by decide +kernel
theorem dX8_call_117 : decode cX8_call 117 = .ok (.invokevirtual 87, 3) := by decide +kernel
theorem dX8_call_120 : decode cX8_call 120 = .ok (.istore 4, 2) := by decide +kernel
theorem dX8_call_122 : decode cX8_call 122 = .ok (.iload_n 2, 1) := by decide +kernel
theorem dX8_call_123 : decode cX8_call 123 = .ok (.bipush (-9), 2) := by decide +kernel
theorem dX8_call_125 : decode cX8_call 125 = .ok (.if_icmp .ne 8, 3) := by decide +kernel
theorem dX8_call_128 : decode cX8_call 128 = .ok (.bipush (-9), 2) := by decide +kernel
theorem dX8_call_130 : decode cX8_call 130 = .ok (.goto 7, 3) := by decide +kernel
theorem dX8_call_133 : decode cX8_call 133 = .ok (.iload_n 2, 1) := by decide +kernel
theorem dX8_call_134 : decode cX8_call 134 = .ok (.invokestatic 166, 3) := by decide +kernel
theorem dX8_call_137 : decode cX8_call 137 = .ok (.ireturn, 1) := by decide +kernel
theorem dX8_layHand_0 : decode cX8_layHand 0 = .ok (.iconst 0, 1) := by decide +kernel
theorem dX8_layHand_1 : decode cX8_layHand 1 = .ok (.istore_n 1, 1) := by decide +kernel
theorem dX8_layHand_2 : decode cX8_layHand 2 = .ok (.iload_n 1, 1) := by decide +kernel
theorem dX8_layHand_3 : decode cX8_layHand 3 = .ok (.bipush 80, 2) := by decide +kernel
theorem dX8_layHand_5 : decode cX8_layHand 5 = .ok (.if_icmp .ge 21, 3) := by decide +kernel
theorem dX8_layHand_8 : decode cX8_layHand 8 = .ok (.aload_n 0, 1) := by decide +kernel
theorem dX8_layHand_9 : decode cX8_layHand 9 = .ok (.getfield 45, 3) := by decide +kernel
theorem dX8_layHand_12 : decode cX8_layHand 12 = .ok (.iload_n 1, 1) := by decide +kernel
theorem dX8_layHand_13 : decode cX8_layHand 13 = .ok (.aload_n 0, 1) := by decide +kernel
theorem dX8_layHand_14 : decode cX8_layHand 14 = .ok (.getfield 7, 3) := by decide +kernel
theorem dX8_layHand_17 : decode cX8_layHand 17 = .ok (.iload_n 1, 1) := by decide +kernel
theorem dX8_layHand_18 : decode cX8_layHand 18 = .ok (.iaload, 1) := by decide +kernel
theorem dX8_layHand_19 : decode cX8_layHand 19 = .ok (.iastore, 1) := by decide +kernel
theorem dX8_layHand_20 : decode cX8_layHand 20 = .ok (.iinc 1 1, 3) := by decide +kernel
theorem dX8_layHand_23 : decode cX8_layHand 23 = .ok (.goto (-21), 3) := by decide +kernel
theorem dX8_layHand_26 : decode cX8_layHand 26 = .ok (.return_, 1) := by decide +kernel
theorem dX8_goes_0 : decode cX8_goes 0 = .ok (.iload_n 1, 1) := by decide +kernel
theorem dX8_goes_1 : decode cX8_goes 1 = .ok (.istore 5, 2) := by decide +kernel
theorem dX8_goes_3 : decode cX8_goes 3 = .ok (.iconst 1, 1) := by decide +kernel
theorem dX8_goes_4 : decode cX8_goes 4 = .ok (.istore 6, 2) := by decide +kernel
theorem dX8_goes_6 : decode cX8_goes 6 = .ok (.iload_n 2, 1) := by decide +kernel
theorem dX8_goes_7 : decode cX8_goes 7 = .ok (.iconst 1, 1) := by decide +kernel
theorem dX8_goes_8 : decode cX8_goes 8 = .ok (.isub, 1) := by decide +kernel
theorem dX8_goes_9 : decode cX8_goes 9 = .ok (.istore 7, 2) := by decide +kernel
theorem dX8_goes_11 : decode cX8_goes 11 = .ok (.iload 7, 2) := by decide +kernel
theorem dX8_goes_13 : decode cX8_goes 13 = .ok (.ifCond .lt 28, 3) := by decide +kernel
theorem dX8_goes_16 : decode cX8_goes 16 = .ok (.aload_n 0, 1) := by decide +kernel
theorem dX8_goes_17 : decode cX8_goes 17 = .ok (.getfield 48, 3) := by decide +kernel
theorem dX8_goes_20 : decode cX8_goes 20 = .ok (.iload 7, 2) := by decide +kernel
theorem dX8_goes_22 : decode cX8_goes 22 = .ok (.iload 5, 2) := by decide +kernel
theorem dX8_goes_24 : decode cX8_goes 24 = .ok (.bipush 6, 2) := by decide +kernel
theorem dX8_goes_26 : decode cX8_goes 26 = .ok (.irem, 1) := by decide +kernel
theorem dX8_goes_27 : decode cX8_goes 27 = .ok (.iastore, 1) := by decide +kernel
theorem dX8_goes_28 : decode cX8_goes 28 = .ok (.iload 5, 2) := by decide +kernel
theorem dX8_goes_30 : decode cX8_goes 30 = .ok (.bipush 6, 2) := by decide +kernel
theorem dX8_goes_32 : decode cX8_goes 32 = .ok (.idiv, 1) := by decide +kernel
theorem dX8_goes_33 : decode cX8_goes 33 = .ok (.istore 5, 2) := by decide +kernel
theorem dX8_goes_35 : decode cX8_goes 35 = .ok (.iinc 7 (-1), 3) := by decide +kernel
theorem dX8_goes_38 : decode cX8_goes 38 = .ok (.goto (-27), 3) := by decide +kernel
theorem dX8_goes_41 : decode cX8_goes 41 = .ok (.aload_n 0, 1) := by decide +kernel
theorem dX8_goes_42 : decode cX8_goes 42 = .ok (.invokevirtual 202, 3) := by decide +kernel
theorem dX8_goes_45 : decode cX8_goes 45 = .ok (.iconst 0, 1) := by decide +kernel
theorem dX8_goes_46 : decode cX8_goes 46 = .ok (.istore 7, 2) := by decide +kernel
theorem dX8_goes_48 : decode cX8_goes 48 = .ok (.iload 7, 2) := by decide +kernel
theorem dX8_goes_50 : decode cX8_goes 50 = .ok (.iload_n 2, 1) := by decide +kernel
theorem dX8_goes_51 : decode cX8_goes 51 = .ok (.if_icmp .ge 104, 3) := by decide +kernel
theorem dX8_goes_54 : decode cX8_goes 54 = .ok (.iload 6, 2) := by decide +kernel
theorem dX8_goes_56 : decode cX8_goes 56 = .ok (.ifCond .eq 99, 3) := by decide +kernel
theorem dX8_goes_59 : decode cX8_goes 59 = .ok (.iload 4, 2) := by decide +kernel
theorem dX8_goes_61 : decode cX8_goes 61 = .ok (.aload_n 0, 1) := by decide +kernel
theorem dX8_goes_62 : decode cX8_goes 62 = .ok (.getfield 48, 3) := by decide +kernel
theorem dX8_goes_65 : decode cX8_goes 65 = .ok (.iload 7, 2) := by decide +kernel
theorem dX8_goes_67 : decode cX8_goes 67 = .ok (.iaload, 1) := by decide +kernel
theorem dX8_goes_68 : decode cX8_goes 68 = .ok (.invokestatic 129, 3) := by decide +kernel
theorem dX8_goes_71 : decode cX8_goes 71 = .ok (.ifCond .eq 51, 3) := by decide +kernel
theorem dX8_goes_74 : decode cX8_goes 74 = .ok (.iload 7, 2) := by decide +kernel
theorem dX8_goes_76 : decode cX8_goes 76 = .ok (.ifCond .eq 22, 3) := by decide +kernel
theorem dX8_goes_79 : decode cX8_goes 79 = .ok (.aload_n 0, 1) := by decide +kernel
theorem dX8_goes_80 : decode cX8_goes 80 = .ok (.getfield 48, 3) := by decide +kernel
theorem dX8_goes_83 : decode cX8_goes 83 = .ok (.iload 7, 2) := by decide +kernel
theorem dX8_goes_85 : decode cX8_goes 85 = .ok (.iaload, 1) := by decide +kernel
theorem dX8_goes_86 : decode cX8_goes 86 = .ok (.aload_n 0, 1) := by decide +kernel
theorem dX8_goes_87 : decode cX8_goes 87 = .ok (.getfield 48, 3) := by decide +kernel
theorem dX8_goes_90 : decode cX8_goes 90 = .ok (.iload 7, 2) := by decide +kernel
theorem dX8_goes_92 : decode cX8_goes 92 = .ok (.iconst 1, 1) := by decide +kernel
theorem dX8_goes_93 : decode cX8_goes 93 = .ok (.isub, 1) := by decide +kernel
theorem dX8_goes_94 : decode cX8_goes 94 = .ok (.iaload, 1) := by decide +kernel
theorem dX8_goes_95 : decode cX8_goes 95 = .ok (.if_icmp .lt 27, 3) := by decide +kernel
theorem dX8_goes_98 : decode cX8_goes 98 = .ok (.aload_n 0, 1) := by decide +kernel
theorem dX8_goes_99 : decode cX8_goes 99 = .ok (.getfield 45, 3) := by decide +kernel
theorem dX8_goes_102 : decode cX8_goes 102 = .ok (.bipush 73, 2) := by decide +kernel
theorem dX8_goes_104 : decode cX8_goes 104 = .ok (.aload_n 0, 1) := by decide +kernel
theorem dX8_goes_105 : decode cX8_goes 105 = .ok (.getfield 48, 3) := by decide +kernel
theorem dX8_goes_108 : decode cX8_goes 108 = .ok (.iload 7, 2) := by decide +kernel
theorem dX8_goes_110 : decode cX8_goes 110 = .ok (.iaload, 1) := by decide +kernel
theorem dX8_goes_111 : decode cX8_goes 111 = .ok (.iadd, 1) := by decide +kernel
theorem dX8_goes_112 : decode cX8_goes 112 = .ok (.iaload, 1) := by decide +kernel
theorem dX8_goes_113 : decode cX8_goes 113 = .ok (.bipush 9, 2) := by decide +kernel
theorem dX8_goes_115 : decode cX8_goes 115 = .ok (.if_icmp .ge 7, 3) := by decide +kernel
theorem dX8_goes_118 : decode cX8_goes 118 = .ok (.iconst 1, 1) := by decide +kernel
theorem dX8_goes_119 : decode cX8_goes 119 = .ok (.goto 4, 3) := by decide +kernel
theorem dX8_goes_122 : decode cX8_goes 122 = .ok (.iconst 0, 1) := by decide +kernel
theorem dX8_goes_123 : decode cX8_goes 123 = .ok (.istore 6, 2) := by decide +kernel
theorem dX8_goes_125 : decode cX8_goes 125 = .ok (.iload 6, 2) := by decide +kernel
theorem dX8_goes_127 : decode cX8_goes 127 = .ok (.ifCond .eq 22, 3) := by decide +kernel
theorem dX8_goes_130 : decode cX8_goes 130 = .ok (.aload_n 0, 1) := by decide +kernel
theorem dX8_goes_131 : decode cX8_goes 131 = .ok (.getfield 45, 3) := by decide +kernel
theorem dX8_goes_134 : decode cX8_goes 134 = .ok (.bipush 73, 2) := by decide +kernel
theorem dX8_goes_136 : decode cX8_goes 136 = .ok (.aload_n 0, 1) := by decide +kernel
theorem dX8_goes_137 : decode cX8_goes 137 = .ok (.getfield 48, 3) := by decide +kernel
theorem dX8_goes_140 : decode cX8_goes 140 = .ok (.iload 7, 2) := by decide +kernel
theorem dX8_goes_142 : decode cX8_goes 142 = .ok (.iaload, 1) := by decide +kernel
theorem dX8_goes_143 : decode cX8_goes 143 = .ok (.iadd, 1) := by decide +kernel
theorem dX8_goes_144 : decode cX8_goes 144 = .ok (.dup2, 1) := by decide +kernel
theorem dX8_goes_145 : decode cX8_goes 145 = .ok (.iaload, 1) := by decide +kernel
theorem dX8_goes_146 : decode cX8_goes 146 = .ok (.iconst 1, 1) := by decide +kernel
theorem dX8_goes_147 : decode cX8_goes 147 = .ok (.iadd, 1) := by decide +kernel
theorem dX8_goes_148 : decode cX8_goes 148 = .ok (.iastore, 1) := by decide +kernel
theorem dX8_goes_149 : decode cX8_goes 149 = .ok (.iinc 7 1, 3) := by decide +kernel
theorem dX8_goes_152 : decode cX8_goes 152 = .ok (.goto (-104), 3) := by decide +kernel
theorem dX8_goes_155 : decode cX8_goes 155 = .ok (.iload 6, 2) := by decide +kernel
theorem dX8_goes_157 : decode cX8_goes 157 = .ok (.ifCond .eq 21, 3) := by decide +kernel
theorem dX8_goes_160 : decode cX8_goes 160 = .ok (.aload_n 0, 1) := by decide +kernel
theorem dX8_goes_161 : decode cX8_goes 161 = .ok (.aload_n 0, 1) := by decide +kernel
theorem dX8_goes_162 : decode cX8_goes 162 = .ok (.getfield 45, 3) := by decide +kernel
theorem dX8_goes_165 : decode cX8_goes 165 = .ok (.iload 4, 2) := by decide +kernel
theorem dX8_goes_167 : decode cX8_goes 167 = .ok (.iload_n 3, 1) := by decide +kernel
theorem dX8_goes_168 : decode cX8_goes 168 = .ok (.invokevirtual 150, 3) := by decide +kernel
theorem dX8_goes_171 : decode cX8_goes 171 = .ok (.ifCond .gt 7, 3) := by decide +kernel
theorem dX8_goes_174 : decode cX8_goes 174 = .ok (.iconst 1, 1) := by decide +kernel
theorem dX8_goes_175 : decode cX8_goes 175 = .ok (.goto 4, 3) := by decide +kernel
theorem dX8_goes_178 : decode cX8_goes 178 = .ok (.iconst 0, 1) := by decide +kernel
theorem dX8_goes_179 : decode cX8_goes 179 = .ok (.ireturn, 1) := by decide +kernel
theorem dX8_shake_0 : decode cX8_shake 0 = .ok (.iload_n 1, 1) := by decide +kernel
theorem dX8_shake_1 : decode cX8_shake 1 = .ok (.invokestatic 191, 3) := by decide +kernel
theorem dX8_shake_4 : decode cX8_shake 4 = .ok (.ifCond .eq 24, 3) := by decide +kernel
theorem dX8_shake_7 : decode cX8_shake 7 = .ok (.iload_n 2, 1) := by decide +kernel
theorem dX8_shake_8 : decode cX8_shake 8 = .ok (.i2l, 1) := by decide +kernel
theorem dX8_shake_9 : decode cX8_shake 9 = .ok (.lconst 0, 1) := by decide +kernel
theorem dX8_shake_10 : decode cX8_shake 10 = .ok (.aload_n 0, 1) := by decide +kernel
theorem dX8_shake_11 : decode cX8_shake 11 = .ok (.invokevirtual 194, 3) := by decide +kernel
theorem dX8_shake_14 : decode cX8_shake 14 = .ok (.i2l, 1) := by decide +kernel
theorem dX8_shake_15 : decode cX8_shake 15 = .ok (.invokestatic 69, 3) := by decide +kernel
theorem dX8_shake_18 : decode cX8_shake 18 = .ok (.ifCond .eq 10, 3) := by decide +kernel
theorem dX8_shake_21 : decode cX8_shake 21 = .ok (.iload_n 3, 1) := by decide +kernel
theorem dX8_shake_22 : decode cX8_shake 22 = .ok (.invokestatic 75, 3) := by decide +kernel
theorem dX8_shake_25 : decode cX8_shake 25 = .ok (.ifCond .ne 5, 3) := by decide +kernel
theorem dX8_shake_28 : decode cX8_shake 28 = .ok (.iconst (-1), 1) := by decide +kernel
theorem dX8_shake_29 : decode cX8_shake 29 = .ok (.ireturn, 1) := by decide +kernel
theorem dX8_shake_30 : decode cX8_shake 30 = .ok (.aload_n 0, 1) := by decide +kernel
theorem dX8_shake_31 : decode cX8_shake 31 = .ok (.getfield 7, 3) := by decide +kernel
theorem dX8_shake_34 : decode cX8_shake 34 = .ok (.iconst 0, 1) := by decide +kernel
theorem dX8_shake_35 : decode cX8_shake 35 = .ok (.iaload, 1) := by decide +kernel
theorem dX8_shake_36 : decode cX8_shake 36 = .ok (.ifCond .ne 6, 3) := by decide +kernel
theorem dX8_shake_39 : decode cX8_shake 39 = .ok (.bipush (-4), 2) := by decide +kernel
theorem dX8_shake_41 : decode cX8_shake 41 = .ok (.ireturn, 1) := by decide +kernel
theorem dX8_shake_42 : decode cX8_shake 42 = .ok (.iconst 1, 1) := by decide +kernel
theorem dX8_shake_43 : decode cX8_shake 43 = .ok (.istore 4, 2) := by decide +kernel
theorem dX8_shake_45 : decode cX8_shake 45 = .ok (.iconst 0, 1) := by decide +kernel
theorem dX8_shake_46 : decode cX8_shake 46 = .ok (.istore 5, 2) := by decide +kernel
theorem dX8_shake_48 : decode cX8_shake 48 = .ok (.iload 5, 2) := by decide +kernel
theorem dX8_shake_50 : decode cX8_shake 50 = .ok (.iconst 4, 1) := by decide +kernel
theorem dX8_shake_51 : decode cX8_shake 51 = .ok (.if_icmp .gt 91, 3) := by decide +kernel
theorem dX8_shake_54 : decode cX8_shake 54 = .ok (.iconst 0, 1) := by decide +kernel
theorem dX8_shake_55 : decode cX8_shake 55 = .ok (.istore 6, 2) := by decide +kernel
theorem dX8_shake_57 : decode cX8_shake 57 = .ok (.iload 6, 2) := by decide +kernel
theorem dX8_shake_59 : decode cX8_shake 59 = .ok (.iload 4, 2) := by decide +kernel
theorem dX8_shake_61 : decode cX8_shake 61 = .ok (.if_icmp .ge 68, 3) := by decide +kernel
theorem dX8_shake_64 : decode cX8_shake 64 = .ok (.aload_n 0, 1) := by decide +kernel
theorem dX8_shake_65 : decode cX8_shake 65 = .ok (.iload 6, 2) := by decide +kernel
theorem dX8_shake_67 : decode cX8_shake 67 = .ok (.iload 5, 2) := by decide +kernel
theorem dX8_shake_69 : decode cX8_shake 69 = .ok (.iload_n 1, 1) := by decide +kernel
theorem dX8_shake_70 : decode cX8_shake 70 = .ok (.iload_n 2, 1) := by decide +kernel
theorem dX8_shake_71 : decode cX8_shake 71 = .ok (.invokevirtual 205, 3) := by decide +kernel
theorem dX8_shake_74 : decode cX8_shake 74 = .ok (.ifCond .eq 49, 3) := by decide +kernel
theorem dX8_shake_77 : decode cX8_shake 77 = .ok (.aload_n 0, 1) := by decide +kernel
theorem dX8_shake_78 : decode cX8_shake 78 = .ok (.getfield 23, 3) := by decide +kernel
theorem dX8_shake_81 : decode cX8_shake 81 = .ok (.iload_n 3, 1) := by decide +kernel
theorem dX8_shake_82 : decode cX8_shake 82 = .ok (.iload 5, 2) := by decide +kernel
theorem dX8_shake_84 : decode cX8_shake 84 = .ok (.iastore, 1) := by decide +kernel
theorem dX8_shake_85 : decode cX8_shake 85 = .ok (.iconst 0, 1) := by decide +kernel
theorem dX8_shake_86 : decode cX8_shake 86 = .ok (.istore 7, 2) := by decide +kernel
theorem dX8_shake_88 : decode cX8_shake 88 = .ok (.iload 7, 2) := by decide +kernel
theorem dX8_shake_90 : decode cX8_shake 90 = .ok (.iload 5, 2) := by decide +kernel
theorem dX8_shake_92 : decode cX8_shake 92 = .ok (.if_icmp .ge 28, 3) := by decide +kernel
theorem dX8_shake_95 : decode cX8_shake 95 = .ok (.aload_n 0, 1) := by decide +kernel
theorem dX8_shake_96 : decode cX8_shake 96 = .ok (.getfield 20, 3) := by decide +kernel
theorem dX8_shake_99 : decode cX8_shake 99 = .ok (.bipush 40, 2) := by decide +kernel
theorem dX8_shake_101 : decode cX8_shake 101 = .ok (.iload_n 3, 1) := by decide +kernel
theorem dX8_shake_102 : decode cX8_shake 102 = .ok (.imul, 1) := by decide +kernel
theorem dX8_shake_103 : decode cX8_shake 103 = .ok (.iload 7, 2) := by decide +kernel
theorem dX8_shake_105 : decode cX8_shake 105 = .ok (.iadd, 1) := by decide +kernel
theorem dX8_shake_106 : decode cX8_shake 106 = .ok (.aload_n 0, 1) := by decide +kernel
theorem dX8_shake_107 : decode cX8_shake 107 = .ok (.getfield 48, 3) := by decide +kernel
theorem dX8_shake_110 : decode cX8_shake 110 = .ok (.iload 7, 2) := by decide +kernel
theorem dX8_shake_112 : decode cX8_shake 112 = .ok (.iaload, 1) := by decide +kernel
theorem dX8_shake_113 : decode cX8_shake 113 = .ok (.iastore, 1) := by decide +kernel
theorem dX8_shake_114 : decode cX8_shake 114 = .ok (.iinc 7 1, 3) := by decide +kernel
theorem dX8_shake_117 : decode cX8_shake 117 = .ok (.goto (-29), 3) := by decide +kernel
theorem dX8_shake_120 : decode cX8_shake 120 = .ok (.iload 5, 2) := by decide +kernel
theorem dX8_shake_122 : decode cX8_shake 122 = .ok (.ireturn, 1) := by decide +kernel
theorem dX8_shake_123 : decode cX8_shake 123 = .ok (.iinc 6 1, 3) := by decide +kernel
theorem dX8_shake_126 : decode cX8_shake 126 = .ok (.goto (-69), 3) := by decide +kernel
theorem dX8_shake_129 : decode cX8_shake 129 = .ok (.iload 4, 2) := by decide +kernel
theorem dX8_shake_131 : decode cX8_shake 131 = .ok (.bipush 6, 2) := by decide +kernel
theorem dX8_shake_133 : decode cX8_shake 133 = .ok (.imul, 1) := by decide +kernel
theorem dX8_shake_134 : decode cX8_shake 134 = .ok (.istore 4, 2) := by decide +kernel
theorem dX8_shake_136 : decode cX8_shake 136 = .ok (.iinc 5 1, 3) := by decide +kernel
theorem dX8_shake_139 : decode cX8_shake 139 = .ok (.goto (-91), 3) := by decide +kernel
theorem dX8_shake_142 : decode cX8_shake 142 = .ok (.bipush (-9), 2) := by decide +kernel
theorem dX8_shake_144 : decode cX8_shake 144 = .ok (.ireturn, 1) := by decide +kernel
theorem dX8_cover_0 : decode cX8_cover 0 = .ok (.iload_n 1, 1) := by decide +kernel
theorem dX8_cover_1 : decode cX8_cover 1 = .ok (.i2l, 1) := by decide +kernel
theorem dX8_cover_2 : decode cX8_cover 2 = .ok (.lconst 0, 1) := by decide +kernel
theorem dX8_cover_3 : decode cX8_cover 3 = .ok (.ldc2_w 209, 3) := by decide +kernel
theorem dX8_cover_6 : decode cX8_cover 6 = .ok (.invokestatic 69, 3) := by decide +kernel
theorem dX8_cover_9 : decode cX8_cover 9 = .ok (.ifCond .ne 5, 3) := by decide +kernel
theorem dX8_cover_12 : decode cX8_cover 12 = .ok (.iconst (-1), 1) := by decide +kernel
theorem dX8_cover_13 : decode cX8_cover 13 = .ok (.ireturn, 1) := by decide +kernel
theorem dX8_cover_14 : decode cX8_cover 14 = .ok (.aload_n 0, 1) := by decide +kernel
theorem dX8_cover_15 : decode cX8_cover 15 = .ok (.getfield 7, 3) := by decide +kernel
theorem dX8_cover_18 : decode cX8_cover 18 = .ok (.iconst 0, 1) := by decide +kernel
theorem dX8_cover_19 : decode cX8_cover 19 = .ok (.iaload, 1) := by decide +kernel
theorem dX8_cover_20 : decode cX8_cover 20 = .ok (.ifCond .ne 6, 3) := by decide +kernel
theorem dX8_cover_23 : decode cX8_cover 23 = .ok (.bipush (-4), 2) := by decide +kernel
theorem dX8_cover_25 : decode cX8_cover 25 = .ok (.ireturn, 1) := by decide +kernel
theorem dX8_cover_26 : decode cX8_cover 26 = .ok (.bipush (-9), 2) := by decide +kernel
theorem dX8_cover_28 : decode cX8_cover 28 = .ok (.istore_n 2, 1) := by decide +kernel
theorem dX8_cover_29 : decode cX8_cover 29 = .ok (.iconst 0, 1) := by decide +kernel
theorem dX8_cover_30 : decode cX8_cover 30 = .ok (.istore_n 3, 1) := by decide +kernel
theorem dX8_cover_31 : decode cX8_cover 31 = .ok (.iload_n 3, 1) := by decide +kernel
theorem dX8_cover_32 : decode cX8_cover 32 = .ok (.aload_n 0, 1) := by decide +kernel
theorem dX8_cover_33 : decode cX8_cover 33 = .ok (.invokevirtual 194, 3) := by decide +kernel
theorem dX8_cover_36 : decode cX8_cover 36 = .ok (.if_icmp .gt 88, 3) := by decide +kernel
theorem dX8_cover_39 : decode cX8_cover 39 = .ok (.iconst 0, 1) := by decide +kernel
theorem dX8_cover_40 : decode cX8_cover 40 = .ok (.istore 4, 2) := by decide +kernel
theorem dX8_cover_42 : decode cX8_cover 42 = .ok (.iconst 0, 1) := by decide +kernel
theorem dX8_cover_43 : decode cX8_cover 43 = .ok (.istore 5, 2) := by decide +kernel
theorem dX8_cover_45 : decode cX8_cover 45 = .ok (.iload 5, 2) := by decide +kernel
theorem dX8_cover_47 : decode cX8_cover 47 = .ok (.aload_n 0, 1) := by decide +kernel
theorem dX8_cover_48 : decode cX8_cover 48 = .ok (.getfield 7, 3) := by decide +kernel
theorem dX8_cover_51 : decode cX8_cover 51 = .ok (.iconst 0, 1) := by decide +kernel
theorem dX8_cover_52 : decode cX8_cover 52 = .ok (.iaload, 1) := by decide +kernel
theorem dX8_cover_53 : decode cX8_cover 53 = .ok (.if_icmp .ge 33, 3) := by decide +kernel
theorem dX8_cover_56 : decode cX8_cover 56 = .ok (.iload 4, 2) := by decide +kernel
theorem dX8_cover_58 : decode cX8_cover 58 = .ok (.iload_n 3, 1) := by decide +kernel
theorem dX8_cover_59 : decode cX8_cover 59 = .ok (.iload 5, 2) := by decide +kernel
theorem dX8_cover_61 : decode cX8_cover 61 = .ok (.invokestatic 129, 3) := by decide +kernel
theorem dX8_cover_64 : decode cX8_cover 64 = .ok (.ifCond .eq 12, 3) := by decide +kernel
theorem dX8_cover_67 : decode cX8_cover 67 = .ok (.aload_n 0, 1) := by decide +kernel
theorem dX8_cover_68 : decode cX8_cover 68 = .ok (.iload 5, 2) := by decide +kernel
theorem dX8_cover_70 : decode cX8_cover 70 = .ok (.invokevirtual 154, 3) := by decide +kernel
theorem dX8_cover_73 : decode cX8_cover 73 = .ok (.goto 4, 3) := by decide +kernel
theorem dX8_cover_76 : decode cX8_cover 76 = .ok (.iconst 0, 1) := by decide +kernel
theorem dX8_cover_77 : decode cX8_cover 77 = .ok (.ior, 1) := by decide +kernel
theorem dX8_cover_78 : decode cX8_cover 78 = .ok (.istore 4, 2) := by decide +kernel
theorem dX8_cover_80 : decode cX8_cover 80 = .ok (.iinc 5 1, 3) := by decide +kernel
theorem dX8_cover_83 : decode cX8_cover 83 = .ok (.goto (-38), 3) := by decide +kernel
theorem dX8_cover_86 : decode cX8_cover 86 = .ok (.iload_n 1, 1) := by decide +kernel
theorem dX8_cover_87 : decode cX8_cover 87 = .ok (.iload 4, 2) := by decide +kernel
theorem dX8_cover_89 : decode cX8_cover 89 = .ok (.iconst (-1), 1) := by decide +kernel
theorem dX8_cover_90 : decode cX8_cover 90 = .ok (.ixor, 1) := by decide +kernel
theorem dX8_cover_91 : decode cX8_cover 91 = .ok (.iand, 1) := by decide +kernel
theorem dX8_cover_92 : decode cX8_cover 92 = .ok (.ifCond .ne 24, 3) := by decide +kernel
theorem dX8_cover_95 : decode cX8_cover 95 = .ok (.iload_n 2, 1) := by decide +kernel
theorem dX8_cover_96 : decode cX8_cover 96 = .ok (.bipush (-9), 2) := by decide +kernel
theorem dX8_cover_98 : decode cX8_cover 98 = .ok (.if_icmp .eq 14, 3) := by decide +kernel
theorem dX8_cover_101 : decode cX8_cover 101 = .ok (.iload_n 3, 1) := by decide +kernel
theorem dX8_cover_102 : decode cX8_cover 102 = .ok (.invokestatic 166, 3) := by decide +kernel
theorem dX8_cover_105 : decode cX8_cover 105 = .ok (.iload_n 2, 1) := by decide +kernel
theorem dX8_cover_106 : decode cX8_cover 106 = .ok (.invokestatic 166, 3) := by decide +kernel
theorem dX8_cover_109 : decode cX8_cover 109 = .ok (.if_icmp .ge 7, 3) := by decide +kernel
theorem dX8_cover_112 : decode cX8_cover 112 = .ok (.iload_n 3, 1) := by decide +kernel
theorem dX8_cover_113 : decode cX8_cover 113 = .ok (.goto 4, 3) := by decide +kernel
theorem dX8_cover_116 : decode cX8_cover 116 = .ok (.iload_n 2, 1) := by decide +kernel
theorem dX8_cover_117 : decode cX8_cover 117 = .ok (.istore_n 2, 1) := by decide +kernel
theorem dX8_cover_118 : decode cX8_cover 118 = .ok (.iinc 3 1, 3) := by decide +kernel
theorem dX8_cover_121 : decode cX8_cover 121 = .ok (.goto (-90), 3) := by decide +kernel
theorem dX8_cover_124 : decode cX8_cover 124 = .ok (.iload_n 2, 1) := by decide +kernel
theorem dX8_cover_125 : decode cX8_cover 125 = .ok (.bipush (-9), 2) := by decide +kernel
theorem dX8_cover_127 : decode cX8_cover 127 = .ok (.if_icmp .ne 7, 3) := by decide +kernel
theorem dX8_cover_130 : decode cX8_cover 130 = .ok (.iconst 0, 1) := by decide +kernel
theorem dX8_cover_131 : decode cX8_cover 131 = .ok (.goto 8, 3) := by decide +kernel
theorem dX8_cover_134 : decode cX8_cover 134 = .ok (.aload_n 0, 1) := by decide +kernel
theorem dX8_cover_135 : decode cX8_cover 135 = .ok (.iload_n 2, 1) := by decide +kernel
theorem dX8_cover_136 : decode cX8_cover 136 = .ok (.invokevirtual 87, 3) := by decide +kernel
theorem dX8_cover_139 : decode cX8_cover 139 = .ok (.istore_n 3, 1) := by decide +kernel
theorem dX8_cover_140 : decode cX8_cover 140 = .ok (.iload_n 2, 1) := by decide +kernel
theorem dX8_cover_141 : decode cX8_cover 141 = .ok (.bipush (-9), 2) := by decide +kernel
theorem dX8_cover_143 : decode cX8_cover 143 = .ok (.if_icmp .ne 8, 3) := by decide +kernel
theorem dX8_cover_146 : decode cX8_cover 146 = .ok (.bipush (-9), 2) := by decide +kernel
theorem dX8_cover_148 : decode cX8_cover 148 = .ok (.goto 7, 3) := by decide +kernel
theorem dX8_cover_151 : decode cX8_cover 151 = .ok (.iload_n 2, 1) := by decide +kernel
theorem dX8_cover_152 : decode cX8_cover 152 = .ok (.invokestatic 166, 3) := by decide +kernel
theorem dX8_cover_155 : decode cX8_cover 155 = .ok (.ireturn, 1) := by decide +kernel
theorem dX8_rivalThings_0 : decode cX8_rivalThings 0 = .ok (.iconst 0, 1) := by decide +kernel
theorem dX8_rivalThings_1 : decode cX8_rivalThings 1 = .ok (.istore_n 3, 1) := by decide +kernel
theorem dX8_rivalThings_2 : decode cX8_rivalThings 2 = .ok (.iconst 0, 1) := by decide +kernel
theorem dX8_rivalThings_3 : decode cX8_rivalThings 3 = .ok (.istore 4, 2) := by decide +kernel
theorem dX8_rivalThings_5 : decode cX8_rivalThings 5 = .ok (.iload 4, 2) := by decide +kernel
theorem dX8_rivalThings_7 : decode cX8_rivalThings 7 = .ok (.bipush 6, 2) := by decide +kernel
theorem dX8_rivalThings_9 : decode cX8_rivalThings 9 = .ok (.if_icmp .ge 59, 3) := by decide +kernel
theorem dX8_rivalThings_12 : decode cX8_rivalThings 12 = .ok (.aload_n 0, 1) := by decide +kernel
theorem dX8_rivalThings_13 : decode cX8_rivalThings 13 = .ok (.iload_n 1, 1) := by decide +kernel
theorem dX8_rivalThings_14 : decode cX8_rivalThings 14 = .ok (.iload 4, 2) := by decide +kernel
theorem dX8_rivalThings_16 : decode cX8_rivalThings 16 = .ok (.invokevirtual 147, 3) := by decide +kernel
theorem dX8_rivalThings_19 : decode cX8_rivalThings 19 = .ok (.istore 5, 2) := by decide +kernel
theorem dX8_rivalThings_21 : decode cX8_rivalThings 21 = .ok (.aload_n 0, 1) := by decide +kernel
theorem dX8_rivalThings_22 : decode cX8_rivalThings 22 = .ok (.iload_n 2, 1) := by decide +kernel
theorem dX8_rivalThings_23 : decode cX8_rivalThings 23 = .ok (.iload 4, 2) := by decide +kernel
theorem dX8_rivalThings_25 : decode cX8_rivalThings 25 = .ok (.invokevirtual 147, 3) := by decide +kernel
theorem dX8_rivalThings_28 : decode cX8_rivalThings 28 = .ok (.istore 6, 2) := by decide +kernel
theorem dX8_rivalThings_30 : decode cX8_rivalThings 30 = .ok (.iload_n 3, 1) := by decide +kernel
theorem dX8_rivalThings_31 : decode cX8_rivalThings 31 = .ok (.iload 5, 2) := by decide +kernel
theorem dX8_rivalThings_33 : decode cX8_rivalThings 33 = .ok (.bipush (-9), 2) := by decide +kernel
theorem dX8_rivalThings_35 : decode cX8_rivalThings 35 = .ok (.if_icmp .eq 24, 3) := by decide +kernel
theorem dX8_rivalThings_38 : decode cX8_rivalThings 38 = .ok (.iload 6, 2) := by decide +kernel
theorem dX8_rivalThings_40 : decode cX8_rivalThings 40 = .ok (.bipush (-9), 2) := by decide +kernel
theorem dX8_rivalThings_42 : decode cX8_rivalThings 42 = .ok (.if_icmp .eq 17, 3) := by decide +kernel
theorem dX8_rivalThings_45 : decode cX8_rivalThings 45 = .ok (.iload 5, 2) := by decide +kernel
theorem dX8_rivalThings_47 : decode cX8_rivalThings 47 = .ok (.iload 6, 2) := by decide +kernel
theorem dX8_rivalThings_49 : decode cX8_rivalThings 49 = .ok (.if_icmp .eq 10, 3) := by decide +kernel
theorem dX8_rivalThings_52 : decode cX8_rivalThings 52 = .ok (.iconst 1, 1) := by decide +kernel
theorem dX8_rivalThings_53 : decode cX8_rivalThings 53 = .ok (.iload 4, 2) := by decide +kernel
theorem dX8_rivalThings_55 : decode cX8_rivalThings 55 = .ok (.ishl, 1) := by decide +kernel
theorem dX8_rivalThings_56 : decode cX8_rivalThings 56 = .ok (.goto 4, 3) := by decide +kernel
theorem dX8_rivalThings_59 : decode cX8_rivalThings 59 = .ok (.iconst 0, 1) := by decide +kernel
theorem dX8_rivalThings_60 : decode cX8_rivalThings 60 = .ok (.ior, 1) := by decide +kernel
theorem dX8_rivalThings_61 : decode cX8_rivalThings 61 = .ok (.istore_n 3, 1) := by decide +kernel
theorem dX8_rivalThings_62 : decode cX8_rivalThings 62 = .ok (.iinc 4 1, 3) := by decide +kernel
theorem dX8_rivalThings_65 : decode cX8_rivalThings 65 = .ok (.goto (-60), 3) := by decide +kernel
theorem dX8_rivalThings_68 : decode cX8_rivalThings 68 = .ok (.iload_n 3, 1) := by decide +kernel
theorem dX8_rivalThings_69 : decode cX8_rivalThings 69 = .ok (.ireturn, 1) := by decide +kernel
theorem dX8_rivals_0 : decode cX8_rivals 0 = .ok (.aload_n 0, 1) := by decide +kernel
theorem dX8_rivals_1 : decode cX8_rivals 1 = .ok (.iload_n 1, 1) := by decide +kernel
theorem dX8_rivals_2 : decode cX8_rivals 2 = .ok (.invokevirtual 157, 3) := by decide +kernel
theorem dX8_rivals_5 : decode cX8_rivals 5 = .ok (.ifCond .eq 25, 3) := by decide +kernel
theorem dX8_rivals_8 : decode cX8_rivals 8 = .ok (.aload_n 0, 1) := by decide +kernel
theorem dX8_rivals_9 : decode cX8_rivals 9 = .ok (.iload_n 2, 1) := by decide +kernel
theorem dX8_rivals_10 : decode cX8_rivals 10 = .ok (.invokevirtual 157, 3) := by decide +kernel
theorem dX8_rivals_13 : decode cX8_rivals 13 = .ok (.ifCond .eq 17, 3) := by decide +kernel
theorem dX8_rivals_16 : decode cX8_rivals 16 = .ok (.iload_n 1, 1) := by decide +kernel
theorem dX8_rivals_17 : decode cX8_rivals 17 = .ok (.iload_n 2, 1) := by decide +kernel
theorem dX8_rivals_18 : decode cX8_rivals 18 = .ok (.if_icmp .eq 12, 3) := by decide +kernel
theorem dX8_rivals_21 : decode cX8_rivals 21 = .ok (.aload_n 0, 1) := by decide +kernel
theorem dX8_rivals_22 : decode cX8_rivals 22 = .ok (.iload_n 1, 1) := by decide +kernel
theorem dX8_rivals_23 : decode cX8_rivals 23 = .ok (.iload_n 2, 1) := by decide +kernel
theorem dX8_rivals_24 : decode cX8_rivals 24 = .ok (.invokevirtual 211, 3) := by decide +kernel
theorem dX8_rivals_27 : decode cX8_rivals 27 = .ok (.goto 4, 3) := by decide +kernel
theorem dX8_rivals_30 : decode cX8_rivals 30 = .ok (.iconst (-1), 1) := by decide +kernel
theorem dX8_rivals_31 : decode cX8_rivals 31 = .ok (.ireturn, 1) := by decide +kernel
theorem dX8_apart_0 : decode cX8_apart 0 = .ok (.aload_n 0, 1) := by decide +kernel
theorem dX8_apart_1 : decode cX8_apart 1 = .ok (.getfield 7, 3) := by decide +kernel
theorem dX8_apart_4 : decode cX8_apart 4 = .ok (.iconst 0, 1) := by decide +kernel
theorem dX8_apart_5 : decode cX8_apart 5 = .ok (.iaload, 1) := by decide +kernel
theorem dX8_apart_6 : decode cX8_apart 6 = .ok (.ifCond .ne 6, 3) := by decide +kernel
theorem dX8_apart_9 : decode cX8_apart 9 = .ok (.bipush (-4), 2) := by decide +kernel
theorem dX8_apart_11 : decode cX8_apart 11 = .ok (.ireturn, 1) := by decide +kernel
theorem dX8_apart_12 : decode cX8_apart 12 = .ok (.bipush (-9), 2) := by decide +kernel
theorem dX8_apart_14 : decode cX8_apart 14 = .ok (.istore_n 1, 1) := by decide +kernel
theorem dX8_apart_15 : decode cX8_apart 15 = .ok (.iconst 0, 1) := by decide +kernel
theorem dX8_apart_16 : decode cX8_apart 16 = .ok (.istore_n 2, 1) := by decide +kernel
theorem dX8_apart_17 : decode cX8_apart 17 = .ok (.iload_n 2, 1) := by decide +kernel
theorem dX8_apart_18 : decode cX8_apart 18 = .ok (.aload_n 0, 1) := by decide +kernel
theorem dX8_apart_19 : decode cX8_apart 19 = .ok (.invokevirtual 194, 3) := by decide +kernel
theorem dX8_apart_22 : decode cX8_apart 22 = .ok (.if_icmp .gt 113, 3) := by decide +kernel
theorem dX8_apart_25 : decode cX8_apart 25 = .ok (.iconst 1, 1) := by decide +kernel
theorem dX8_apart_26 : decode cX8_apart 26 = .ok (.istore_n 3, 1) := by decide +kernel
theorem dX8_apart_27 : decode cX8_apart 27 = .ok (.iconst 0, 1) := by decide +kernel
theorem dX8_apart_28 : decode cX8_apart 28 = .ok (.istore 4, 2) := by decide +kernel
theorem dX8_apart_30 : decode cX8_apart 30 = .ok (.iload 4, 2) := by decide +kernel
theorem dX8_apart_32 : decode cX8_apart 32 = .ok (.aload_n 0, 1) := by decide +kernel
theorem dX8_apart_33 : decode cX8_apart 33 = .ok (.getfield 7, 3) := by decide +kernel
theorem dX8_apart_36 : decode cX8_apart 36 = .ok (.iconst 0, 1) := by decide +kernel
theorem dX8_apart_37 : decode cX8_apart 37 = .ok (.iaload, 1) := by decide +kernel
theorem dX8_apart_38 : decode cX8_apart 38 = .ok (.if_icmp .ge 64, 3) := by decide +kernel
theorem dX8_apart_41 : decode cX8_apart 41 = .ok (.iconst 0, 1) := by decide +kernel
theorem dX8_apart_42 : decode cX8_apart 42 = .ok (.istore 5, 2) := by decide +kernel
theorem dX8_apart_44 : decode cX8_apart 44 = .ok (.iload 5, 2) := by decide +kernel
theorem dX8_apart_46 : decode cX8_apart 46 = .ok (.iload 4, 2) := by decide +kernel
theorem dX8_apart_48 : decode cX8_apart 48 = .ok (.if_icmp .ge 48, 3) := by decide +kernel
theorem dX8_apart_51 : decode cX8_apart 51 = .ok (.iload_n 3, 1) := by decide +kernel
theorem dX8_apart_52 : decode cX8_apart 52 = .ok (.ifCond .eq 36, 3) := by decide +kernel
theorem dX8_apart_55 : decode cX8_apart 55 = .ok (.iload_n 2, 1) := by decide +kernel
theorem dX8_apart_56 : decode cX8_apart 56 = .ok (.iload 4, 2) := by decide +kernel
theorem dX8_apart_58 : decode cX8_apart 58 = .ok (.invokestatic 129, 3) := by decide +kernel
theorem dX8_apart_61 : decode cX8_apart 61 = .ok (.ifCond .ne 23, 3) := by decide +kernel
theorem dX8_apart_64 : decode cX8_apart 64 = .ok (.iload_n 2, 1) := by decide +kernel
theorem dX8_apart_65 : decode cX8_apart 65 = .ok (.iload 5, 2) := by decide +kernel
theorem dX8_apart_67 : decode cX8_apart 67 = .ok (.invokestatic 129, 3) := by decide +kernel
theorem dX8_apart_70 : decode cX8_apart 70 = .ok (.ifCond .ne 14, 3) := by decide +kernel
theorem dX8_apart_73 : decode cX8_apart 73 = .ok (.aload_n 0, 1) := by decide +kernel
theorem dX8_apart_74 : decode cX8_apart 74 = .ok (.iload 4, 2) := by decide +kernel
theorem dX8_apart_76 : decode cX8_apart 76 = .ok (.iload 5, 2) := by decide +kernel
theorem dX8_apart_78 : decode cX8_apart 78 = .ok (.invokevirtual 211, 3) := by decide +kernel
theorem dX8_apart_81 : decode cX8_apart 81 = .ok (.ifCond .ne 7, 3) := by decide +kernel
theorem dX8_apart_84 : decode cX8_apart 84 = .ok (.iconst 1, 1) := by decide +kernel
theorem dX8_apart_85 : decode cX8_apart 85 = .ok (.goto 4, 3) := by decide +kernel
theorem dX8_apart_88 : decode cX8_apart 88 = .ok (.iconst 0, 1) := by decide +kernel
theorem dX8_apart_89 : decode cX8_apart 89 = .ok (.istore_n 3, 1) := by decide +kernel
theorem dX8_apart_90 : decode cX8_apart 90 = .ok (.iinc 5 1, 3) := by decide +kernel
theorem dX8_apart_93 : decode cX8_apart 93 = .ok (.goto (-49), 3) := by decide +kernel
theorem dX8_apart_96 : decode cX8_apart 96 = .ok (.iinc 4 1, 3) := by decide +kernel
theorem dX8_apart_99 : decode cX8_apart 99 = .ok (.goto (-69), 3) := by decide +kernel
theorem dX8_apart_102 : decode cX8_apart 102 = .ok (.iload_n 3, 1) := by decide +kernel
theorem dX8_apart_103 : decode cX8_apart 103 = .ok (.ifCond .eq 24, 3) := by decide +kernel
theorem dX8_apart_106 : decode cX8_apart 106 = .ok (.iload_n 1, 1) := by decide +kernel
theorem dX8_apart_107 : decode cX8_apart 107 = .ok (.bipush (-9), 2) := by decide +kernel
theorem dX8_apart_109 : decode cX8_apart 109 = .ok (.if_icmp .eq 14, 3) := by decide +kernel
theorem dX8_apart_112 : decode cX8_apart 112 = .ok (.iload_n 2, 1) := by decide +kernel
theorem dX8_apart_113 : decode cX8_apart 113 = .ok (.invokestatic 166, 3) := by decide +kernel
theorem dX8_apart_116 : decode cX8_apart 116 = .ok (.iload_n 1, 1) := by decide +kernel
theorem dX8_apart_117 : decode cX8_apart 117 = .ok (.invokestatic 166, 3) := by decide +kernel
theorem dX8_apart_120 : decode cX8_apart 120 = .ok (.if_icmp .ge 7, 3) := by decide +kernel
theorem dX8_apart_123 : decode cX8_apart 123 = .ok (.iload_n 2, 1) := by decide +kernel
theorem dX8_apart_124 : decode cX8_apart 124 = .ok (.goto 4, 3) := by decide +kernel
theorem dX8_apart_127 : decode cX8_apart 127 = .ok (.iload_n 1, 1) := by decide +kernel
theorem dX8_apart_128 : decode cX8_apart 128 = .ok (.istore_n 1, 1) := by decide +kernel
theorem dX8_apart_129 : decode cX8_apart 129 = .ok (.iinc 2 1, 3) := by decide +kernel
theorem dX8_apart_132 : decode cX8_apart 132 = .ok (.goto (-115), 3) := by decide +kernel
theorem dX8_apart_135 : decode cX8_apart 135 = .ok (.aload_n 0, 1) := by decide +kernel
theorem dX8_apart_136 : decode cX8_apart 136 = .ok (.iload_n 1, 1) := by decide +kernel
theorem dX8_apart_137 : decode cX8_apart 137 = .ok (.invokevirtual 87, 3) := by decide +kernel
theorem dX8_apart_140 : decode cX8_apart 140 = .ok (.istore_n 2, 1) := by decide +kernel
theorem dX8_apart_141 : decode cX8_apart 141 = .ok (.iload_n 1, 1) := by decide +kernel
theorem dX8_apart_142 : decode cX8_apart 142 = .ok (.invokestatic 166, 3) := by decide +kernel
theorem dX8_apart_145 : decode cX8_apart 145 = .ok (.ireturn, 1) := by decide +kernel
theorem dX8_refusesPairs_0 : decode cX8_refusesPairs 0 = .ok (.aload_n 0, 1) := by decide +kernel
theorem dX8_refusesPairs_1 : decode cX8_refusesPairs 1 = .ok (.getfield 23, 3) := by decide +kernel
theorem dX8_refusesPairs_4 : decode cX8_refusesPairs 4 = .ok (.iload_n 1, 1) := by decide +kernel
theorem dX8_refusesPairs_5 : decode cX8_refusesPairs 5 = .ok (.iaload, 1) := by decide +kernel
theorem dX8_refusesPairs_6 : decode cX8_refusesPairs 6 = .ok (.ifCond .ge 9, 3) := by decide +kernel
theorem dX8_refusesPairs_9 : decode cX8_refusesPairs 9 = .ok (.aload_n 0, 1) := by decide +kernel
theorem dX8_refusesPairs_10 : decode cX8_refusesPairs 10 = .ok (.iconst 1, 1) := by decide +kernel
theorem dX8_refusesPairs_11 : decode cX8_refusesPairs 11 = .ok (.invokevirtual 79, 3) := by decide +kernel
theorem dX8_refusesPairs_14 : decode cX8_refusesPairs 14 = .ok (.ireturn, 1) := by decide +kernel
theorem dX8_refusesPairs_15 : decode cX8_refusesPairs 15 = .ok (.aload_n 0, 1) := by decide +kernel
theorem dX8_refusesPairs_16 : decode cX8_refusesPairs 16 = .ok (.getfield 23, 3) := by decide +kernel
theorem dX8_refusesPairs_19 : decode cX8_refusesPairs 19 = .ok (.iload_n 1, 1) := by decide +kernel
theorem dX8_refusesPairs_20 : decode cX8_refusesPairs 20 = .ok (.iaload, 1) := by decide +kernel
theorem dX8_refusesPairs_21 : decode cX8_refusesPairs 21 = .ok (.iconst 2, 1) := by decide +kernel
theorem dX8_refusesPairs_22 : decode cX8_refusesPairs 22 = .ok (.irem, 1) := by decide +kernel
theorem dX8_refusesPairs_23 : decode cX8_refusesPairs 23 = .ok (.ifCond .ne 14, 3) := by decide +kernel
theorem dX8_refusesPairs_26 : decode cX8_refusesPairs 26 = .ok (.aload_n 0, 1) := by decide +kernel
theorem dX8_refusesPairs_27 : decode cX8_refusesPairs 27 = .ok (.getfield 23, 3) := by decide +kernel
theorem dX8_refusesPairs_30 : decode cX8_refusesPairs 30 = .ok (.iload_n 1, 1) := by decide +kernel
theorem dX8_refusesPairs_31 : decode cX8_refusesPairs 31 = .ok (.iaload, 1) := by decide +kernel
theorem dX8_refusesPairs_32 : decode cX8_refusesPairs 32 = .ok (.bipush 16, 2) := by decide +kernel
theorem dX8_refusesPairs_34 : decode cX8_refusesPairs 34 = .ok (.if_icmp .le 9, 3) := by decide +kernel
theorem dX8_refusesPairs_37 : decode cX8_refusesPairs 37 = .ok (.aload_n 0, 1) := by decide +kernel
theorem dX8_refusesPairs_38 : decode cX8_refusesPairs 38 = .ok (.iconst 5, 1) := by decide +kernel
theorem dX8_refusesPairs_39 : decode cX8_refusesPairs 39 = .ok (.invokevirtual 79, 3) := by decide +kernel
theorem dX8_refusesPairs_42 : decode cX8_refusesPairs 42 = .ok (.ireturn, 1) := by decide +kernel
theorem dX8_refusesPairs_43 : decode cX8_refusesPairs 43 = .ok (.iconst 0, 1) := by decide +kernel
theorem dX8_refusesPairs_44 : decode cX8_refusesPairs 44 = .ok (.istore_n 2, 1) := by decide +kernel
theorem dX8_refusesPairs_45 : decode cX8_refusesPairs 45 = .ok (.iload_n 2, 1) := by decide +kernel
theorem dX8_refusesPairs_46 : decode cX8_refusesPairs 46 = .ok (.aload_n 0, 1) := by decide +kernel
theorem dX8_refusesPairs_47 : decode cX8_refusesPairs 47 = .ok (.getfield 23, 3) := by decide +kernel
theorem dX8_refusesPairs_50 : decode cX8_refusesPairs 50 = .ok (.iload_n 1, 1) := by decide +kernel
theorem dX8_refusesPairs_51 : decode cX8_refusesPairs 51 = .ok (.iaload, 1) := by decide +kernel
theorem dX8_refusesPairs_52 : decode cX8_refusesPairs 52 = .ok (.if_icmp .ge 84, 3) := by decide +kernel
theorem dX8_refusesPairs_55 : decode cX8_refusesPairs 55 = .ok (.aload_n 0, 1) := by decide +kernel
theorem dX8_refusesPairs_56 : decode cX8_refusesPairs 56 = .ok (.getfield 20, 3) := by decide +kernel
theorem dX8_refusesPairs_59 : decode cX8_refusesPairs 59 = .ok (.bipush 40, 2) := by decide +kernel
theorem dX8_refusesPairs_61 : decode cX8_refusesPairs 61 = .ok (.iload_n 1, 1) := by decide +kernel
theorem dX8_refusesPairs_62 : decode cX8_refusesPairs 62 = .ok (.imul, 1) := by decide +kernel
theorem dX8_refusesPairs_63 : decode cX8_refusesPairs 63 = .ok (.iload_n 2, 1) := by decide +kernel
theorem dX8_refusesPairs_64 : decode cX8_refusesPairs 64 = .ok (.iadd, 1) := by decide +kernel
theorem dX8_refusesPairs_65 : decode cX8_refusesPairs 65 = .ok (.iaload, 1) := by decide +kernel
theorem dX8_refusesPairs_66 : decode cX8_refusesPairs 66 = .ok (.istore_n 3, 1) := by decide +kernel
theorem dX8_refusesPairs_67 : decode cX8_refusesPairs 67 = .ok (.iload_n 3, 1) := by decide +kernel
theorem dX8_refusesPairs_68 : decode cX8_refusesPairs 68 = .ok (.i2l, 1) := by decide +kernel
theorem dX8_refusesPairs_69 : decode cX8_refusesPairs 69 = .ok (.lconst 0, 1) := by decide +kernel
theorem dX8_refusesPairs_70 : decode cX8_refusesPairs 70 = .ok (.ldc2_w 214, 3) := by decide +kernel
theorem dX8_refusesPairs_73 : decode cX8_refusesPairs 73 = .ok (.invokestatic 69, 3) := by decide +kernel
theorem dX8_refusesPairs_76 : decode cX8_refusesPairs 76 = .ok (.ifCond .eq 48, 3) := by decide +kernel
theorem dX8_refusesPairs_79 : decode cX8_refusesPairs 79 = .ok (.aload_n 0, 1) := by decide +kernel
theorem dX8_refusesPairs_80 : decode cX8_refusesPairs 80 = .ok (.iload_n 3, 1) := by decide +kernel
theorem dX8_refusesPairs_81 : decode cX8_refusesPairs 81 = .ok (.bipush 8, 2) := by decide +kernel
theorem dX8_refusesPairs_83 : decode cX8_refusesPairs 83 = .ok (.idiv, 1) := by decide +kernel
theorem dX8_refusesPairs_84 : decode cX8_refusesPairs 84 = .ok (.invokevirtual 157, 3) := by decide +kernel
theorem dX8_refusesPairs_87 : decode cX8_refusesPairs 87 = .ok (.ifCond .eq 37, 3) := by decide +kernel
theorem dX8_refusesPairs_90 : decode cX8_refusesPairs 90 = .ok (.iload_n 3, 1) := by decide +kernel
theorem dX8_refusesPairs_91 : decode cX8_refusesPairs 91 = .ok (.bipush 8, 2) := by decide +kernel
theorem dX8_refusesPairs_93 : decode cX8_refusesPairs 93 = .ok (.irem, 1) := by decide +kernel
theorem dX8_refusesPairs_94 : decode cX8_refusesPairs 94 = .ok (.invokestatic 191, 3) := by decide +kernel
theorem dX8_refusesPairs_97 : decode cX8_refusesPairs 97 = .ok (.ifCond .eq 27, 3) := by decide +kernel
theorem dX8_refusesPairs_100 : decode cX8_refusesPairs 100 = .ok (.aload_n 0, 1) := by decide +kernel
theorem dX8_refusesPairs_101 : decode cX8_refusesPairs 101 = .ok (.getfield 20, 3) := by decide +kernel
theorem dX8_refusesPairs_104 : decode cX8_refusesPairs 104 = .ok (.bipush 40, 2) := by decide +kernel
theorem dX8_refusesPairs_106 : decode cX8_refusesPairs 106 = .ok (.iload_n 1, 1) := by decide +kernel
theorem dX8_refusesPairs_107 : decode cX8_refusesPairs 107 = .ok (.imul, 1) := by decide +kernel
theorem dX8_refusesPairs_108 : decode cX8_refusesPairs 108 = .ok (.iload_n 2, 1) := by decide +kernel
theorem dX8_refusesPairs_109 : decode cX8_refusesPairs 109 = .ok (.iadd, 1) := by decide +kernel
theorem dX8_refusesPairs_110 : decode cX8_refusesPairs 110 = .ok (.iconst 1, 1) := by decide +kernel
theorem dX8_refusesPairs_111 : decode cX8_refusesPairs 111 = .ok (.iadd, 1) := by decide +kernel
theorem dX8_refusesPairs_112 : decode cX8_refusesPairs 112 = .ok (.iaload, 1) := by decide +kernel
theorem dX8_refusesPairs_113 : decode cX8_refusesPairs 113 = .ok (.i2l, 1) := by decide +kernel
theorem dX8_refusesPairs_114 : decode cX8_refusesPairs 114 = .ok (.lconst 0, 1) := by decide +kernel
theorem dX8_refusesPairs_115 : decode cX8_refusesPairs 115 = .ok (.ldc2_w 186, 3) := by decide +kernel
theorem dX8_refusesPairs_118 : decode cX8_refusesPairs 118 = .ok (.invokestatic 69, 3) := by decide +kernel
theorem dX8_refusesPairs_121 : decode cX8_refusesPairs 121 = .ok (.ifCond .ne 9, 3) := by decide +kernel
theorem dX8_refusesPairs_124 : decode cX8_refusesPairs 124 = .ok (.aload_n 0, 1) := by decide +kernel
theorem dX8_refusesPairs_125 : decode cX8_refusesPairs 125 = .ok (.iconst 3, 1) := by decide +kernel
theorem dX8_refusesPairs_126 : decode cX8_refusesPairs 126 = .ok (.invokevirtual 79, 3) := by decide +kernel
theorem dX8_refusesPairs_129 : decode cX8_refusesPairs 129 = .ok (.ireturn, 1) := by decide +kernel
theorem dX8_refusesPairs_130 : decode cX8_refusesPairs 130 = .ok (.iinc 2 2, 3) := by decide +kernel
theorem dX8_refusesPairs_133 : decode cX8_refusesPairs 133 = .ok (.goto (-88), 3) := by decide +kernel
theorem dX8_refusesPairs_136 : decode cX8_refusesPairs 136 = .ok (.iconst 0, 1) := by decide +kernel
theorem dX8_refusesPairs_137 : decode cX8_refusesPairs 137 = .ok (.ireturn, 1) := by decide +kernel
theorem dX8_pairOf_0 : decode cX8_pairOf 0 = .ok (.iload_n 0, 1) := by decide +kernel
theorem dX8_pairOf_1 : decode cX8_pairOf 1 = .ok (.bipush (-9), 2) := by decide +kernel
theorem dX8_pairOf_3 : decode cX8_pairOf 3 = .ok (.if_icmp .ne 7, 3) := by decide +kernel
theorem dX8_pairOf_6 : decode cX8_pairOf 6 = .ok (.iconst 2, 1) := by decide +kernel
theorem dX8_pairOf_7 : decode cX8_pairOf 7 = .ok (.goto 4, 3) := by decide +kernel
theorem dX8_pairOf_10 : decode cX8_pairOf 10 = .ok (.iload_n 0, 1) := by decide +kernel
theorem dX8_pairOf_11 : decode cX8_pairOf 11 = .ok (.ireturn, 1) := by decide +kernel
theorem dX8_isTruth_0 : decode cX8_isTruth 0 = .ok (.iconst 1, 1) := by decide +kernel
theorem dX8_isTruth_1 : decode cX8_isTruth 1 = .ok (.istore_n 3, 1) := by decide +kernel
theorem dX8_isTruth_2 : decode cX8_isTruth 2 = .ok (.iconst 0, 1) := by decide +kernel
theorem dX8_isTruth_3 : decode cX8_isTruth 3 = .ok (.istore 4, 2) := by decide +kernel
theorem dX8_isTruth_5 : decode cX8_isTruth 5 = .ok (.iload 4, 2) := by decide +kernel
theorem dX8_isTruth_7 : decode cX8_isTruth 7 = .ok (.iconst 1, 1) := by decide +kernel
theorem dX8_isTruth_8 : decode cX8_isTruth 8 = .ok (.iadd, 1) := by decide +kernel
theorem dX8_isTruth_9 : decode cX8_isTruth 9 = .ok (.aload_n 0, 1) := by decide +kernel
theorem dX8_isTruth_10 : decode cX8_isTruth 10 = .ok (.getfield 23, 3) := by decide +kernel
theorem dX8_isTruth_13 : decode cX8_isTruth 13 = .ok (.iload_n 2, 1) := by decide +kernel
theorem dX8_isTruth_14 : decode cX8_isTruth 14 = .ok (.iaload, 1) := by decide +kernel
theorem dX8_isTruth_15 : decode cX8_isTruth 15 = .ok (.if_icmp .ge 72, 3) := by decide +kernel
theorem dX8_isTruth_18 : decode cX8_isTruth 18 = .ok (.aload_n 0, 1) := by decide +kernel
theorem dX8_isTruth_19 : decode cX8_isTruth 19 = .ok (.getfield 20, 3) := by decide +kernel
theorem dX8_isTruth_22 : decode cX8_isTruth 22 = .ok (.bipush 40, 2) := by decide +kernel
theorem dX8_isTruth_24 : decode cX8_isTruth 24 = .ok (.iload_n 2, 1) := by decide +kernel
theorem dX8_isTruth_25 : decode cX8_isTruth 25 = .ok (.imul, 1) := by decide +kernel
theorem dX8_isTruth_26 : decode cX8_isTruth 26 = .ok (.iload 4, 2) := by decide +kernel
theorem dX8_isTruth_28 : decode cX8_isTruth 28 = .ok (.iadd, 1) := by decide +kernel
theorem dX8_isTruth_29 : decode cX8_isTruth 29 = .ok (.iaload, 1) := by decide +kernel
theorem dX8_isTruth_30 : decode cX8_isTruth 30 = .ok (.istore 5, 2) := by decide +kernel
theorem dX8_isTruth_32 : decode cX8_isTruth 32 = .ok (.iload_n 3, 1) := by decide +kernel
theorem dX8_isTruth_33 : decode cX8_isTruth 33 = .ok (.ifCond .eq 46, 3) := by decide +kernel
theorem dX8_isTruth_36 : decode cX8_isTruth 36 = .ok (.aload_n 0, 1) := by decide +kernel
theorem dX8_isTruth_37 : decode cX8_isTruth 37 = .ok (.aload_n 0, 1) := by decide +kernel
theorem dX8_isTruth_38 : decode cX8_isTruth 38 = .ok (.getfield 7, 3) := by decide +kernel
theorem dX8_isTruth_41 : decode cX8_isTruth 41 = .ok (.iload 5, 2) := by decide +kernel
theorem dX8_isTruth_43 : decode cX8_isTruth 43 = .ok (.bipush 8, 2) := by decide +kernel
theorem dX8_isTruth_45 : decode cX8_isTruth 45 = .ok (.idiv, 1) := by decide +kernel
theorem dX8_isTruth_46 : decode cX8_isTruth 46 = .ok (.iload 5, 2) := by decide +kernel
theorem dX8_isTruth_48 : decode cX8_isTruth 48 = .ok (.bipush 8, 2) := by decide +kernel
theorem dX8_isTruth_50 : decode cX8_isTruth 50 = .ok (.irem, 1) := by decide +kernel
theorem dX8_isTruth_51 : decode cX8_isTruth 51 = .ok (.iload_n 1, 1) := by decide +kernel
theorem dX8_isTruth_52 : decode cX8_isTruth 52 = .ok (.invokevirtual 144, 3) := by decide +kernel
theorem dX8_isTruth_55 : decode cX8_isTruth 55 = .ok (.invokestatic 216, 3) := by decide +kernel
theorem dX8_isTruth_58 : decode cX8_isTruth 58 = .ok (.aload_n 0, 1) := by decide +kernel
theorem dX8_isTruth_59 : decode cX8_isTruth 59 = .ok (.getfield 20, 3) := by decide +kernel
theorem dX8_isTruth_62 : decode cX8_isTruth 62 = .ok (.bipush 40, 2) := by decide +kernel
theorem dX8_isTruth_64 : decode cX8_isTruth 64 = .ok (.iload_n 2, 1) := by decide +kernel
theorem dX8_isTruth_65 : decode cX8_isTruth 65 = .ok (.imul, 1) := by decide +kernel
theorem dX8_isTruth_66 : decode cX8_isTruth 66 = .ok (.iload 4, 2) := by decide +kernel
theorem dX8_isTruth_68 : decode cX8_isTruth 68 = .ok (.iadd, 1) := by decide +kernel
theorem dX8_isTruth_69 : decode cX8_isTruth 69 = .ok (.iconst 1, 1) := by decide +kernel
theorem dX8_isTruth_70 : decode cX8_isTruth 70 = .ok (.iadd, 1) := by decide +kernel
theorem dX8_isTruth_71 : decode cX8_isTruth 71 = .ok (.iaload, 1) := by decide +kernel
theorem dX8_isTruth_72 : decode cX8_isTruth 72 = .ok (.if_icmp .ne 7, 3) := by decide +kernel
theorem dX8_isTruth_75 : decode cX8_isTruth 75 = .ok (.iconst 1, 1) := by decide +kernel
theorem dX8_isTruth_76 : decode cX8_isTruth 76 = .ok (.goto 4, 3) := by decide +kernel
theorem dX8_isTruth_79 : decode cX8_isTruth 79 = .ok (.iconst 0, 1) := by decide +kernel
theorem dX8_isTruth_80 : decode cX8_isTruth 80 = .ok (.istore_n 3, 1) := by decide +kernel
theorem dX8_isTruth_81 : decode cX8_isTruth 81 = .ok (.iinc 4 2, 3) := by decide +kernel
theorem dX8_isTruth_84 : decode cX8_isTruth 84 = .ok (.goto (-79), 3) := by decide +kernel
theorem dX8_isTruth_87 : decode cX8_isTruth 87 = .ok (.iload_n 3, 1) := by decide +kernel
theorem dX8_isTruth_88 : decode cX8_isTruth 88 = .ok (.ireturn, 1) := by decide +kernel
theorem dX8_refusesLooks_0 : decode cX8_refusesLooks 0 = .ok (.iload_n 1, 1) := by decide +kernel
theorem dX8_refusesLooks_1 : decode cX8_refusesLooks 1 = .ok (.invokestatic 75, 3) := by decide +kernel
theorem dX8_refusesLooks_4 : decode cX8_refusesLooks 4 = .ok (.ifCond .ne 7, 3) := by decide +kernel
theorem dX8_refusesLooks_7 : decode cX8_refusesLooks 7 = .ok (.iconst (-1), 1) := by decide +kernel
theorem dX8_refusesLooks_8 : decode cX8_refusesLooks 8 = .ok (.goto 22, 3) := by decide +kernel
theorem dX8_refusesLooks_11 : decode cX8_refusesLooks 11 = .ok (.aload_n 0, 1) := by decide +kernel
theorem dX8_refusesLooks_12 : decode cX8_refusesLooks 12 = .ok (.getfield 7, 3) := by decide +kernel
theorem dX8_refusesLooks_15 : decode cX8_refusesLooks 15 = .ok (.iconst 0, 1) := by decide +kernel
theorem dX8_refusesLooks_16 : decode cX8_refusesLooks 16 = .ok (.iaload, 1) := by decide +kernel
theorem dX8_refusesLooks_17 : decode cX8_refusesLooks 17 = .ok (.ifCond .ne 8, 3) := by decide +kernel
theorem dX8_refusesLooks_20 : decode cX8_refusesLooks 20 = .ok (.bipush (-4), 2) := by decide +kernel
theorem dX8_refusesLooks_22 : decode cX8_refusesLooks 22 = .ok (.goto 8, 3) := by decide +kernel
theorem dX8_refusesLooks_25 : decode cX8_refusesLooks 25 = .ok (.aload_n 0, 1) := by decide +kernel
theorem dX8_refusesLooks_26 : decode cX8_refusesLooks 26 = .ok (.iload_n 1, 1) := by decide +kernel
theorem dX8_refusesLooks_27 : decode cX8_refusesLooks 27 = .ok (.invokevirtual 219, 3) := by decide +kernel
theorem dX8_refusesLooks_30 : decode cX8_refusesLooks 30 = .ok (.ireturn, 1) := by decide +kernel
theorem dX8_truths_0 : decode cX8_truths 0 = .ok (.aload_n 0, 1) := by decide +kernel
theorem dX8_truths_1 : decode cX8_truths 1 = .ok (.iload_n 1, 1) := by decide +kernel
theorem dX8_truths_2 : decode cX8_truths 2 = .ok (.invokevirtual 222, 3) := by decide +kernel
theorem dX8_truths_5 : decode cX8_truths 5 = .ok (.istore_n 2, 1) := by decide +kernel
theorem dX8_truths_6 : decode cX8_truths 6 = .ok (.iload_n 2, 1) := by decide +kernel
theorem dX8_truths_7 : decode cX8_truths 7 = .ok (.ifCond .eq 5, 3) := by decide +kernel
theorem dX8_truths_10 : decode cX8_truths 10 = .ok (.iload_n 2, 1) := by decide +kernel
theorem dX8_truths_11 : decode cX8_truths 11 = .ok (.ireturn, 1) := by decide +kernel
theorem dX8_truths_12 : decode cX8_truths 12 = .ok (.iconst 0, 1) := by decide +kernel
theorem dX8_truths_13 : decode cX8_truths 13 = .ok (.istore_n 3, 1) := by decide +kernel
theorem dX8_truths_14 : decode cX8_truths 14 = .ok (.bipush (-9), 2) := by decide +kernel
theorem dX8_truths_16 : decode cX8_truths 16 = .ok (.istore 4, 2) := by decide +kernel
theorem dX8_truths_18 : decode cX8_truths 18 = .ok (.iconst 0, 1) := by decide +kernel
theorem dX8_truths_19 : decode cX8_truths 19 = .ok (.istore 5, 2) := by decide +kernel
theorem dX8_truths_21 : decode cX8_truths 21 = .ok (.iload 5, 2) := by decide +kernel
theorem dX8_truths_23 : decode cX8_truths 23 = .ok (.bipush 64, 2) := by decide +kernel
theorem dX8_truths_25 : decode cX8_truths 25 = .ok (.if_icmp .ge 35, 3) := by decide +kernel
theorem dX8_truths_28 : decode cX8_truths 28 = .ok (.aload_n 0, 1) := by decide +kernel
theorem dX8_truths_29 : decode cX8_truths 29 = .ok (.iload 5, 2) := by decide +kernel
theorem dX8_truths_31 : decode cX8_truths 31 = .ok (.iload_n 1, 1) := by decide +kernel
theorem dX8_truths_32 : decode cX8_truths 32 = .ok (.invokevirtual 225, 3) := by decide +kernel
theorem dX8_truths_35 : decode cX8_truths 35 = .ok (.ifCond .eq 19, 3) := by decide +kernel
theorem dX8_truths_38 : decode cX8_truths 38 = .ok (.iload_n 3, 1) := by decide +kernel
theorem dX8_truths_39 : decode cX8_truths 39 = .ok (.ifCond .ne 8, 3) := by decide +kernel
theorem dX8_truths_42 : decode cX8_truths 42 = .ok (.iload 5, 2) := by decide +kernel
theorem dX8_truths_44 : decode cX8_truths 44 = .ok (.goto 5, 3) := by decide +kernel
theorem dX8_truths_47 : decode cX8_truths 47 = .ok (.iload 4, 2) := by decide +kernel
theorem dX8_truths_49 : decode cX8_truths 49 = .ok (.istore 4, 2) := by decide +kernel
theorem dX8_truths_51 : decode cX8_truths 51 = .ok (.iinc 3 1, 3) := by decide +kernel
theorem dX8_truths_54 : decode cX8_truths 54 = .ok (.iinc 5 1, 3) := by decide +kernel
theorem dX8_truths_57 : decode cX8_truths 57 = .ok (.goto (-36), 3) := by decide +kernel
theorem dX8_truths_60 : decode cX8_truths 60 = .ok (.aload_n 0, 1) := by decide +kernel
theorem dX8_truths_61 : decode cX8_truths 61 = .ok (.iload_n 3, 1) := by decide +kernel
theorem dX8_truths_62 : decode cX8_truths 62 = .ok (.i2l, 1) := by decide +kernel
theorem dX8_truths_63 : decode cX8_truths 63 = .ok (.putfield 228, 3) := by decide +kernel
theorem dX8_truths_66 : decode cX8_truths 66 = .ok (.aload_n 0, 1) := by decide +kernel
theorem dX8_truths_67 : decode cX8_truths 67 = .ok (.lconst 1, 1) := by decide +kernel
theorem dX8_truths_68 : decode cX8_truths 68 = .ok (.putfield 35, 3) := by decide +kernel
theorem dX8_truths_71 : decode cX8_truths 71 = .ok (.aload_n 0, 1) := by decide +kernel
theorem dX8_truths_72 : decode cX8_truths 72 = .ok (.iload 4, 2) := by decide +kernel
theorem dX8_truths_74 : decode cX8_truths 74 = .ok (.invokevirtual 87, 3) := by decide +kernel
theorem dX8_truths_77 : decode cX8_truths 77 = .ok (.ireturn, 1) := by decide +kernel
theorem dX8_sure_0 : decode cX8_sure 0 = .ok (.aload_n 0, 1) := by decide +kernel
theorem dX8_sure_1 : decode cX8_sure 1 = .ok (.iload_n 1, 1) := by decide +kernel
theorem dX8_sure_2 : decode cX8_sure 2 = .ok (.invokevirtual 222, 3) := by decide +kernel
theorem dX8_sure_5 : decode cX8_sure 5 = .ok (.istore_n 2, 1) := by decide +kernel
theorem dX8_sure_6 : decode cX8_sure 6 = .ok (.iload_n 2, 1) := by decide +kernel
theorem dX8_sure_7 : decode cX8_sure 7 = .ok (.ifCond .eq 5, 3) := by decide +kernel
theorem dX8_sure_10 : decode cX8_sure 10 = .ok (.iload_n 2, 1) := by decide +kernel
theorem dX8_sure_11 : decode cX8_sure 11 = .ok (.ireturn, 1) := by decide +kernel
theorem dX8_sure_12 : decode cX8_sure 12 = .ok (.bipush 63, 2) := by decide +kernel
theorem dX8_sure_14 : decode cX8_sure 14 = .ok (.istore_n 3, 1) := by decide +kernel
theorem dX8_sure_15 : decode cX8_sure 15 = .ok (.bipush 63, 2) := by decide +kernel
theorem dX8_sure_17 : decode cX8_sure 17 = .ok (.istore 4, 2) := by decide +kernel
theorem dX8_sure_19 : decode cX8_sure 19 = .ok (.iconst 0, 1) := by decide +kernel
theorem dX8_sure_20 : decode cX8_sure 20 = .ok (.istore 5, 2) := by decide +kernel
theorem dX8_sure_22 : decode cX8_sure 22 = .ok (.iload 5, 2) := by decide +kernel
theorem dX8_sure_24 : decode cX8_sure 24 = .ok (.bipush 64, 2) := by decide +kernel
theorem dX8_sure_26 : decode cX8_sure 26 = .ok (.if_icmp .ge 33, 3) := by decide +kernel
theorem dX8_sure_29 : decode cX8_sure 29 = .ok (.aload_n 0, 1) := by decide +kernel
theorem dX8_sure_30 : decode cX8_sure 30 = .ok (.iload 5, 2) := by decide +kernel
theorem dX8_sure_32 : decode cX8_sure 32 = .ok (.iload_n 1, 1) := by decide +kernel
theorem dX8_sure_33 : decode cX8_sure 33 = .ok (.invokevirtual 225, 3) := by decide +kernel
theorem dX8_sure_36 : decode cX8_sure 36 = .ok (.ifCond .eq 17, 3) := by decide +kernel
theorem dX8_sure_39 : decode cX8_sure 39 = .ok (.iload_n 3, 1) := by decide +kernel
theorem dX8_sure_40 : decode cX8_sure 40 = .ok (.iload 5, 2) := by decide +kernel
theorem dX8_sure_42 : decode cX8_sure 42 = .ok (.iand, 1) := by decide +kernel
theorem dX8_sure_43 : decode cX8_sure 43 = .ok (.istore_n 3, 1) := by decide +kernel
theorem dX8_sure_44 : decode cX8_sure 44 = .ok (.iload 4, 2) := by decide +kernel
theorem dX8_sure_46 : decode cX8_sure 46 = .ok (.iload 5, 2) := by decide +kernel
theorem dX8_sure_48 : decode cX8_sure 48 = .ok (.iconst (-1), 1) := by decide +kernel
theorem dX8_sure_49 : decode cX8_sure 49 = .ok (.ixor, 1) := by decide +kernel
theorem dX8_sure_50 : decode cX8_sure 50 = .ok (.iand, 1) := by decide +kernel
theorem dX8_sure_51 : decode cX8_sure 51 = .ok (.istore 4, 2) := by decide +kernel
theorem dX8_sure_53 : decode cX8_sure 53 = .ok (.iinc 5 1, 3) := by decide +kernel
theorem dX8_sure_56 : decode cX8_sure 56 = .ok (.goto (-34), 3) := by decide +kernel
theorem dX8_sure_59 : decode cX8_sure 59 = .ok (.aload_n 0, 1) := by decide +kernel
theorem dX8_sure_60 : decode cX8_sure 60 = .ok (.iload 4, 2) := by decide +kernel
theorem dX8_sure_62 : decode cX8_sure 62 = .ok (.invokevirtual 87, 3) := by decide +kernel
theorem dX8_sure_65 : decode cX8_sure 65 = .ok (.istore 5, 2) := by decide +kernel
theorem dX8_sure_67 : decode cX8_sure 67 = .ok (.iload_n 3, 1) := by decide +kernel
theorem dX8_sure_68 : decode cX8_sure 68 = .ok (.ireturn, 1) := by decide +kernel
theorem dX8_next_0 : decode cX8_next 0 = .ok (.aload_n 0, 1) := by decide +kernel
theorem dX8_next_1 : decode cX8_next 1 = .ok (.iload_n 1, 1) := by decide +kernel
theorem dX8_next_2 : decode cX8_next 2 = .ok (.invokevirtual 222, 3) := by decide +kernel
theorem dX8_next_5 : decode cX8_next 5 = .ok (.istore_n 2, 1) := by decide +kernel
theorem dX8_next_6 : decode cX8_next 6 = .ok (.iload_n 2, 1) := by decide +kernel
theorem dX8_next_7 : decode cX8_next 7 = .ok (.ifCond .eq 5, 3) := by decide +kernel
theorem dX8_next_10 : decode cX8_next 10 = .ok (.iload_n 2, 1) := by decide +kernel
theorem dX8_next_11 : decode cX8_next 11 = .ok (.ireturn, 1) := by decide +kernel
theorem dX8_next_12 : decode cX8_next 12 = .ok (.bipush (-9), 2) := by decide +kernel
theorem dX8_next_14 : decode cX8_next 14 = .ok (.istore_n 3, 1) := by decide +kernel
theorem dX8_next_15 : decode cX8_next 15 = .ok (.ldc 201, 2) := by decide +kernel
theorem dX8_next_17 : decode cX8_next 17 = .ok (.istore 4, 2) := by decide +kernel
theorem dX8_next_19 : decode cX8_next 19 = .ok (.iconst 0, 1) := by decide +kernel
theorem dX8_next_20 : decode cX8_next 20 = .ok (.istore 5, 2) := by decide +kernel
theorem dX8_next_22 : decode cX8_next 22 = .ok (.iload 5, 2) := by decide +kernel
theorem dX8_next_24 : decode cX8_next 24 = .ok (.bipush 8, 2) := by decide +kernel
theorem dX8_next_26 : decode cX8_next 26 = .ok (.aload_n 0, 1) := by decide +kernel
theorem dX8_next_27 : decode cX8_next 27 = .ok (.getfield 7, 3) := by decide +kernel
theorem dX8_next_30 : decode cX8_next 30 = .ok (.iconst 0, 1) := by decide +kernel
theorem dX8_next_31 : decode cX8_next 31 = .ok (.iaload, 1) := by decide +kernel
theorem dX8_next_32 : decode cX8_next 32 = .ok (.imul, 1) := by decide +kernel
theorem dX8_next_33 : decode cX8_next 33 = .ok (.if_icmp .ge 203, 3) := by decide +kernel
theorem dX8_next_36 : decode cX8_next 36 = .ok (.iconst 0, 1) := by decide +kernel
theorem dX8_next_37 : decode cX8_next 37 = .ok (.istore 6, 2) := by decide +kernel
theorem dX8_next_39 : decode cX8_next 39 = .ok (.iconst 0, 1) := by decide +kernel
theorem dX8_next_40 : decode cX8_next 40 = .ok (.istore 7, 2) := by decide +kernel
theorem dX8_next_42 : decode cX8_next 42 = .ok (.iload 7, 2) := by decide +kernel
theorem dX8_next_44 : decode cX8_next 44 = .ok (.iconst 3, 1) := by decide +kernel
theorem dX8_next_45 : decode cX8_next 45 = .ok (.if_icmp .ge 17, 3) := by decide +kernel
theorem dX8_next_48 : decode cX8_next 48 = .ok (.aload_n 0, 1) := by decide +kernel
theorem dX8_next_49 : decode cX8_next 49 = .ok (.getfield 51, 3) := by decide +kernel
theorem dX8_next_52 : decode cX8_next 52 = .ok (.iload 7, 2) := by decide +kernel
theorem dX8_next_54 : decode cX8_next 54 = .ok (.iconst 0, 1) := by decide +kernel
theorem dX8_next_55 : decode cX8_next 55 = .ok (.iastore, 1) := by decide +kernel
theorem dX8_next_56 : decode cX8_next 56 = .ok (.iinc 7 1, 3) := by decide +kernel
theorem dX8_next_59 : decode cX8_next 59 = .ok (.goto (-17), 3) := by decide +kernel
theorem dX8_next_62 : decode cX8_next 62 = .ok (.iconst 0, 1) := by decide +kernel
theorem dX8_next_63 : decode cX8_next 63 = .ok (.istore 7, 2) := by decide +kernel
theorem dX8_next_65 : decode cX8_next 65 = .ok (.iload 7, 2) := by decide +kernel
theorem dX8_next_67 : decode cX8_next 67 = .ok (.bipush 64, 2) := by decide +kernel
theorem dX8_next_69 : decode cX8_next 69 = .ok (.if_icmp .ge 65, 3) := by decide +kernel
theorem dX8_next_72 : decode cX8_next 72 = .ok (.iload 5, 2) := by decide +kernel
theorem dX8_next_74 : decode cX8_next 74 = .ok (.bipush 8, 2) := by decide +kernel
theorem dX8_next_76 : decode cX8_next 76 = .ok (.irem, 1) := by decide +kernel
theorem dX8_next_77 : decode cX8_next 77 = .ok (.invokestatic 191, 3) := by decide +kernel
theorem dX8_next_80 : decode cX8_next 80 = .ok (.ifCond .eq 54, 3) := by decide +kernel
theorem dX8_next_83 : decode cX8_next 83 = .ok (.aload_n 0, 1) := by decide +kernel
theorem dX8_next_84 : decode cX8_next 84 = .ok (.iload 7, 2) := by decide +kernel
theorem dX8_next_86 : decode cX8_next 86 = .ok (.iload_n 1, 1) := by decide +kernel
theorem dX8_next_87 : decode cX8_next 87 = .ok (.invokevirtual 225, 3) := by decide +kernel
theorem dX8_next_90 : decode cX8_next 90 = .ok (.ifCond .eq 38, 3) := by decide +kernel
theorem dX8_next_93 : decode cX8_next 93 = .ok (.aload_n 0, 1) := by decide +kernel
theorem dX8_next_94 : decode cX8_next 94 = .ok (.getfield 51, 3) := by decide +kernel
theorem dX8_next_97 : decode cX8_next 97 = .ok (.aload_n 0, 1) := by decide +kernel
theorem dX8_next_98 : decode cX8_next 98 = .ok (.aload_n 0, 1) := by decide +kernel
theorem dX8_next_99 : decode cX8_next 99 = .ok (.getfield 7, 3) := by decide +kernel
theorem dX8_next_102 : decode cX8_next 102 = .ok (.iload 5, 2) := by decide +kernel
theorem dX8_next_104 : decode cX8_next 104 = .ok (.bipush 8, 2) := by decide +kernel
theorem dX8_next_106 : decode cX8_next 106 = .ok (.idiv, 1) := by decide +kernel
theorem dX8_next_107 : decode cX8_next 107 = .ok (.iload 5, 2) := by decide +kernel
theorem dX8_next_109 : decode cX8_next 109 = .ok (.bipush 8, 2) := by decide +kernel
theorem dX8_next_111 : decode cX8_next 111 = .ok (.irem, 1) := by decide +kernel
theorem dX8_next_112 : decode cX8_next 112 = .ok (.iload 7, 2) := by decide +kernel
theorem dX8_next_114 : decode cX8_next 114 = .ok (.invokevirtual 144, 3) := by decide +kernel
theorem dX8_next_117 : decode cX8_next 117 = .ok (.invokestatic 216, 3) := by decide +kernel
theorem dX8_next_120 : decode cX8_next 120 = .ok (.dup2, 1) := by decide +kernel
theorem dX8_next_121 : decode cX8_next 121 = .ok (.iaload, 1) := by decide +kernel
theorem dX8_next_122 : decode cX8_next 122 = .ok (.iconst 1, 1) := by decide +kernel
theorem dX8_next_123 : decode cX8_next 123 = .ok (.iadd, 1) := by decide +kernel
theorem dX8_next_124 : decode cX8_next 124 = .ok (.iastore, 1) := by decide +kernel
theorem dX8_next_125 : decode cX8_next 125 = .ok (.iinc 6 1, 3) := by decide +kernel
theorem dX8_next_128 : decode cX8_next 128 = .ok (.iinc 7 1, 3) := by decide +kernel
theorem dX8_next_131 : decode cX8_next 131 = .ok (.goto (-66), 3) := by decide +kernel
theorem dX8_next_134 : decode cX8_next 134 = .ok (.aload_n 0, 1) := by decide +kernel
theorem dX8_next_135 : decode cX8_next 135 = .ok (.getfield 51, 3) := by decide +kernel
theorem dX8_next_138 : decode cX8_next 138 = .ok (.iconst 0, 1) := by decide +kernel
theorem dX8_next_139 : decode cX8_next 139 = .ok (.iaload, 1) := by decide +kernel
theorem dX8_next_140 : decode cX8_next 140 = .ok (.aload_n 0, 1) := by decide +kernel
theorem dX8_next_141 : decode cX8_next 141 = .ok (.getfield 51, 3) := by decide +kernel
theorem dX8_next_144 : decode cX8_next 144 = .ok (.iconst 1, 1) := by decide +kernel
theorem dX8_next_145 : decode cX8_next 145 = .ok (.iaload, 1) := by decide +kernel
theorem dX8_next_146 : decode cX8_next 146 = .ok (.if_icmp .le 12, 3) := by decide +kernel
theorem dX8_next_149 : decode cX8_next 149 = .ok (.aload_n 0, 1) := by decide +kernel
theorem dX8_next_150 : decode cX8_next 150 = .ok (.getfield 51, 3) := by decide +kernel
theorem dX8_next_153 : decode cX8_next 153 = .ok (.iconst 0, 1) := by decide +kernel
theorem dX8_next_154 : decode cX8_next 154 = .ok (.iaload, 1) := by decide +kernel
theorem dX8_next_155 : decode cX8_next 155 = .ok (.goto 9, 3) := by decide +kernel
theorem dX8_next_158 : decode cX8_next 158 = .ok (.aload_n 0, 1) := by decide +kernel
theorem dX8_next_159 : decode cX8_next 159 = .ok (.getfield 51, 3) := by decide +kernel
theorem dX8_next_162 : decode cX8_next 162 = .ok (.iconst 1, 1) := by decide +kernel
theorem dX8_next_163 : decode cX8_next 163 = .ok (.iaload, 1) := by decide +kernel
theorem dX8_next_164 : decode cX8_next 164 = .ok (.istore 7, 2) := by decide +kernel
theorem dX8_next_166 : decode cX8_next 166 = .ok (.aload_n 0, 1) := by decide +kernel
theorem dX8_next_167 : decode cX8_next 167 = .ok (.getfield 51, 3) := by decide +kernel
theorem dX8_next_170 : decode cX8_next 170 = .ok (.iconst 2, 1) := by decide +kernel
theorem dX8_next_171 : decode cX8_next 171 = .ok (.iaload, 1) := by decide +kernel
theorem dX8_next_172 : decode cX8_next 172 = .ok (.iload 7, 2) := by decide +kernel
theorem dX8_next_174 : decode cX8_next 174 = .ok (.if_icmp .le 12, 3) := by decide +kernel
theorem dX8_next_177 : decode cX8_next 177 = .ok (.aload_n 0, 1) := by decide +kernel
theorem dX8_next_178 : decode cX8_next 178 = .ok (.getfield 51, 3) := by decide +kernel
theorem dX8_next_181 : decode cX8_next 181 = .ok (.iconst 2, 1) := by decide +kernel
theorem dX8_next_182 : decode cX8_next 182 = .ok (.iaload, 1) := by decide +kernel
theorem dX8_next_183 : decode cX8_next 183 = .ok (.goto 5, 3) := by decide +kernel
theorem dX8_next_186 : decode cX8_next 186 = .ok (.iload 7, 2) := by decide +kernel
theorem dX8_next_188 : decode cX8_next 188 = .ok (.istore 7, 2) := by decide +kernel
theorem dX8_next_190 : decode cX8_next 190 = .ok (.iload 6, 2) := by decide +kernel
theorem dX8_next_192 : decode cX8_next 192 = .ok (.ifCond .le 15, 3) := by decide +kernel
theorem dX8_next_195 : decode cX8_next 195 = .ok (.iload 7, 2) := by decide +kernel
theorem dX8_next_197 : decode cX8_next 197 = .ok (.iload 4, 2) := by decide +kernel
theorem dX8_next_199 : decode cX8_next 199 = .ok (.if_icmp .ge 8, 3) := by decide +kernel
theorem dX8_next_202 : decode cX8_next 202 = .ok (.iload 5, 2) := by decide +kernel
theorem dX8_next_204 : decode cX8_next 204 = .ok (.goto 4, 3) := by decide +kernel
theorem dX8_next_207 : decode cX8_next 207 = .ok (.iload_n 3, 1) := by decide +kernel
theorem dX8_next_208 : decode cX8_next 208 = .ok (.istore_n 3, 1) := by decide +kernel
theorem dX8_next_209 : decode cX8_next 209 = .ok (.iload 6, 2) := by decide +kernel
theorem dX8_next_211 : decode cX8_next 211 = .ok (.ifCond .le 15, 3) := by decide +kernel
theorem dX8_next_214 : decode cX8_next 214 = .ok (.iload 7, 2) := by decide +kernel
theorem dX8_next_216 : decode cX8_next 216 = .ok (.iload 4, 2) := by decide +kernel
theorem dX8_next_218 : decode cX8_next 218 = .ok (.if_icmp .ge 8, 3) := by decide +kernel
theorem dX8_next_221 : decode cX8_next 221 = .ok (.iload 7, 2) := by decide +kernel
theorem dX8_next_223 : decode cX8_next 223 = .ok (.goto 5, 3) := by decide +kernel
theorem dX8_next_226 : decode cX8_next 226 = .ok (.iload 4, 2) := by decide +kernel
theorem dX8_next_228 : decode cX8_next 228 = .ok (.istore 4, 2) := by decide +kernel
theorem dX8_next_230 : decode cX8_next 230 = .ok (.iinc 5 1, 3) := by decide +kernel
theorem dX8_next_233 : decode cX8_next 233 = .ok (.goto (-211), 3) := by decide +kernel
theorem dX8_next_236 : decode cX8_next 236 = .ok (.iload_n 3, 1) := by decide +kernel
theorem dX8_next_237 : decode cX8_next 237 = .ok (.bipush (-9), 2) := by decide +kernel
theorem dX8_next_239 : decode cX8_next 239 = .ok (.if_icmp .ne 7, 3) := by decide +kernel
theorem dX8_next_242 : decode cX8_next 242 = .ok (.iconst 0, 1) := by decide +kernel
theorem dX8_next_243 : decode cX8_next 243 = .ok (.goto 9, 3) := by decide +kernel
theorem dX8_next_246 : decode cX8_next 246 = .ok (.aload_n 0, 1) := by decide +kernel
theorem dX8_next_247 : decode cX8_next 247 = .ok (.iload 4, 2) := by decide +kernel
theorem dX8_next_249 : decode cX8_next 249 = .ok (.invokevirtual 87, 3) := by decide +kernel
theorem dX8_next_252 : decode cX8_next 252 = .ok (.istore 5, 2) := by decide +kernel
theorem dX8_next_254 : decode cX8_next 254 = .ok (.iload_n 3, 1) := by decide +kernel
theorem dX8_next_255 : decode cX8_next 255 = .ok (.ireturn, 1) := by decide +kernel
theorem dX8_kinds_0 : decode cX8_kinds 0 = .ok (.aload_n 0, 1) := by decide +kernel
theorem dX8_kinds_1 : decode cX8_kinds 1 = .ok (.iload_n 1, 1) := by decide +kernel
theorem dX8_kinds_2 : decode cX8_kinds 2 = .ok (.invokevirtual 157, 3) := by decide +kernel
theorem dX8_kinds_5 : decode cX8_kinds 5 = .ok (.ifCond .eq 10, 3) := by decide +kernel
theorem dX8_kinds_8 : decode cX8_kinds 8 = .ok (.iload_n 2, 1) := by decide +kernel
theorem dX8_kinds_9 : decode cX8_kinds 9 = .ok (.invokestatic 75, 3) := by decide +kernel
theorem dX8_kinds_12 : decode cX8_kinds 12 = .ok (.ifCond .ne 5, 3) := by decide +kernel
theorem dX8_kinds_15 : decode cX8_kinds 15 = .ok (.iconst (-1), 1) := by decide +kernel
theorem dX8_kinds_16 : decode cX8_kinds 16 = .ok (.ireturn, 1) := by decide +kernel
theorem dX8_kinds_17 : decode cX8_kinds 17 = .ok (.aload_n 0, 1) := by decide +kernel
theorem dX8_kinds_18 : decode cX8_kinds 18 = .ok (.iload_n 2, 1) := by decide +kernel
theorem dX8_kinds_19 : decode cX8_kinds 19 = .ok (.invokevirtual 219, 3) := by decide +kernel
theorem dX8_kinds_22 : decode cX8_kinds 22 = .ok (.istore_n 3, 1) := by decide +kernel
theorem dX8_kinds_23 : decode cX8_kinds 23 = .ok (.iload_n 3, 1) := by decide +kernel
theorem dX8_kinds_24 : decode cX8_kinds 24 = .ok (.ifCond .eq 5, 3) := by decide +kernel
theorem dX8_kinds_27 : decode cX8_kinds 27 = .ok (.iload_n 3, 1) := by decide +kernel
theorem dX8_kinds_28 : decode cX8_kinds 28 = .ok (.ireturn, 1) := by decide +kernel
theorem dX8_kinds_29 : decode cX8_kinds 29 = .ok (.iconst 0, 1) := by decide +kernel
theorem dX8_kinds_30 : decode cX8_kinds 30 = .ok (.istore 4, 2) := by decide +kernel
theorem dX8_kinds_32 : decode cX8_kinds 32 = .ok (.iconst 0, 1) := by decide +kernel
theorem dX8_kinds_33 : decode cX8_kinds 33 = .ok (.istore 5, 2) := by decide +kernel
theorem dX8_kinds_35 : decode cX8_kinds 35 = .ok (.iload 5, 2) := by decide +kernel
theorem dX8_kinds_37 : decode cX8_kinds 37 = .ok (.bipush 6, 2) := by decide +kernel
theorem dX8_kinds_39 : decode cX8_kinds 39 = .ok (.if_icmp .ge 183, 3) := by decide +kernel
theorem dX8_kinds_42 : decode cX8_kinds 42 = .ok (.iconst 1, 1) := by decide +kernel
theorem dX8_kinds_43 : decode cX8_kinds 43 = .ok (.istore 6, 2) := by decide +kernel
theorem dX8_kinds_45 : decode cX8_kinds 45 = .ok (.iconst 0, 1) := by decide +kernel
theorem dX8_kinds_46 : decode cX8_kinds 46 = .ok (.istore 7, 2) := by decide +kernel
theorem dX8_kinds_48 : decode cX8_kinds 48 = .ok (.iload 7, 2) := by decide +kernel
theorem dX8_kinds_50 : decode cX8_kinds 50 = .ok (.iconst 1, 1) := by decide +kernel
theorem dX8_kinds_51 : decode cX8_kinds 51 = .ok (.iadd, 1) := by decide +kernel
theorem dX8_kinds_52 : decode cX8_kinds 52 = .ok (.aload_n 0, 1) := by decide +kernel
theorem dX8_kinds_53 : decode cX8_kinds 53 = .ok (.getfield 23, 3) := by decide +kernel
theorem dX8_kinds_56 : decode cX8_kinds 56 = .ok (.iload_n 2, 1) := by decide +kernel
theorem dX8_kinds_57 : decode cX8_kinds 57 = .ok (.iaload, 1) := by decide +kernel
theorem dX8_kinds_58 : decode cX8_kinds 58 = .ok (.if_icmp .ge 140, 3) := by decide +kernel
theorem dX8_kinds_61 : decode cX8_kinds 61 = .ok (.aload_n 0, 1) := by decide +kernel
theorem dX8_kinds_62 : decode cX8_kinds 62 = .ok (.getfield 20, 3) := by decide +kernel
theorem dX8_kinds_65 : decode cX8_kinds 65 = .ok (.bipush 40, 2) := by decide +kernel
theorem dX8_kinds_67 : decode cX8_kinds 67 = .ok (.iload_n 2, 1) := by decide +kernel
theorem dX8_kinds_68 : decode cX8_kinds 68 = .ok (.imul, 1) := by decide +kernel
theorem dX8_kinds_69 : decode cX8_kinds 69 = .ok (.iload 7, 2) := by decide +kernel
theorem dX8_kinds_71 : decode cX8_kinds 71 = .ok (.iadd, 1) := by decide +kernel
theorem dX8_kinds_72 : decode cX8_kinds 72 = .ok (.iaload, 1) := by decide +kernel
theorem dX8_kinds_73 : decode cX8_kinds 73 = .ok (.bipush 8, 2) := by decide +kernel
theorem dX8_kinds_75 : decode cX8_kinds 75 = .ok (.irem, 1) := by decide +kernel
theorem dX8_kinds_76 : decode cX8_kinds 76 = .ok (.istore 8, 2) := by decide +kernel
theorem dX8_kinds_78 : decode cX8_kinds 78 = .ok (.aload_n 0, 1) := by decide +kernel
theorem dX8_kinds_79 : decode cX8_kinds 79 = .ok (.getfield 7, 3) := by decide +kernel
theorem dX8_kinds_82 : decode cX8_kinds 82 = .ok (.bipush 79, 2) := by decide +kernel
theorem dX8_kinds_84 : decode cX8_kinds 84 = .ok (.iaload, 1) := by decide +kernel
theorem dX8_kinds_85 : decode cX8_kinds 85 = .ok (.iload_n 1, 1) := by decide +kernel
theorem dX8_kinds_86 : decode cX8_kinds 86 = .ok (.invokestatic 129, 3) := by decide +kernel
theorem dX8_kinds_89 : decode cX8_kinds 89 = .ok (.ifCond .eq 8, 3) := by decide +kernel
theorem dX8_kinds_92 : decode cX8_kinds 92 = .ok (.bipush (-9), 2) := by decide +kernel
theorem dX8_kinds_94 : decode cX8_kinds 94 = .ok (.goto 43, 3) := by decide +kernel
theorem dX8_kinds_97 : decode cX8_kinds 97 = .ok (.iload 5, 2) := by decide +kernel
theorem dX8_kinds_99 : decode cX8_kinds 99 = .ok (.aload_n 0, 1) := by decide +kernel
theorem dX8_kinds_100 : decode cX8_kinds 100 = .ok (.getfield 7, 3) := by decide +kernel
theorem dX8_kinds_103 : decode cX8_kinds 103 = .ok (.bipush 67, 2) := by decide +kernel
theorem dX8_kinds_105 : decode cX8_kinds 105 = .ok (.iload_n 1, 1) := by decide +kernel
theorem dX8_kinds_106 : decode cX8_kinds 106 = .ok (.iadd, 1) := by decide +kernel
theorem dX8_kinds_107 : decode cX8_kinds 107 = .ok (.iaload, 1) := by decide +kernel
theorem dX8_kinds_108 : decode cX8_kinds 108 = .ok (.aload_n 0, 1) := by decide +kernel
theorem dX8_kinds_109 : decode cX8_kinds 109 = .ok (.getfield 7, 3) := by decide +kernel
theorem dX8_kinds_112 : decode cX8_kinds 112 = .ok (.bipush 73, 2) := by decide +kernel
theorem dX8_kinds_114 : decode cX8_kinds 114 = .ok (.iload_n 1, 1) := by decide +kernel
theorem dX8_kinds_115 : decode cX8_kinds 115 = .ok (.iadd, 1) := by decide +kernel
theorem dX8_kinds_116 : decode cX8_kinds 116 = .ok (.iaload, 1) := by decide +kernel
theorem dX8_kinds_117 : decode cX8_kinds 117 = .ok (.aload_n 0, 1) := by decide +kernel
theorem dX8_kinds_118 : decode cX8_kinds 118 = .ok (.getfield 7, 3) := by decide +kernel
theorem dX8_kinds_121 : decode cX8_kinds 121 = .ok (.bipush 20, 2) := by decide +kernel
theorem dX8_kinds_123 : decode cX8_kinds 123 = .ok (.iload_n 1, 1) := by decide +kernel
theorem dX8_kinds_124 : decode cX8_kinds 124 = .ok (.iadd, 1) := by decide +kernel
theorem dX8_kinds_125 : decode cX8_kinds 125 = .ok (.iaload, 1) := by decide +kernel
theorem dX8_kinds_126 : decode cX8_kinds 126 = .ok (.iload 8, 2) := by decide +kernel
theorem dX8_kinds_128 : decode cX8_kinds 128 = .ok (.aload_n 0, 1) := by decide +kernel
theorem dX8_kinds_129 : decode cX8_kinds 129 = .ok (.getfield 7, 3) := by decide +kernel
theorem dX8_kinds_132 : decode cX8_kinds 132 = .ok (.iconst 1, 1) := by decide +kernel
theorem dX8_kinds_133 : decode cX8_kinds 133 = .ok (.iaload, 1) := by decide +kernel
theorem dX8_kinds_134 : decode cX8_kinds 134 = .ok (.invokestatic 136, 3) := by decide +kernel
theorem dX8_kinds_137 : decode cX8_kinds 137 = .ok (.istore 9, 2) := by decide +kernel
theorem dX8_kinds_139 : decode cX8_kinds 139 = .ok (.iload 6, 2) := by decide +kernel
theorem dX8_kinds_141 : decode cX8_kinds 141 = .ok (.ifCond .eq 48, 3) := by decide +kernel
theorem dX8_kinds_144 : decode cX8_kinds 144 = .ok (.aload_n 0, 1) := by decide +kernel
theorem dX8_kinds_145 : decode cX8_kinds 145 = .ok (.getfield 20, 3) := by decide +kernel
theorem dX8_kinds_148 : decode cX8_kinds 148 = .ok (.bipush 40, 2) := by decide +kernel
theorem dX8_kinds_150 : decode cX8_kinds 150 = .ok (.iload_n 2, 1) := by decide +kernel
theorem dX8_kinds_151 : decode cX8_kinds 151 = .ok (.imul, 1) := by decide +kernel
theorem dX8_kinds_152 : decode cX8_kinds 152 = .ok (.iload 7, 2) := by decide +kernel
theorem dX8_kinds_154 : decode cX8_kinds 154 = .ok (.iadd, 1) := by decide +kernel
theorem dX8_kinds_155 : decode cX8_kinds 155 = .ok (.iaload, 1) := by decide +kernel
theorem dX8_kinds_156 : decode cX8_kinds 156 = .ok (.bipush 8, 2) := by decide +kernel
theorem dX8_kinds_158 : decode cX8_kinds 158 = .ok (.idiv, 1) := by decide +kernel
theorem dX8_kinds_159 : decode cX8_kinds 159 = .ok (.iload_n 1, 1) := by decide +kernel
theorem dX8_kinds_160 : decode cX8_kinds 160 = .ok (.if_icmp .ne 25, 3) := by decide +kernel
theorem dX8_kinds_163 : decode cX8_kinds 163 = .ok (.iload 9, 2) := by decide +kernel
theorem dX8_kinds_165 : decode cX8_kinds 165 = .ok (.invokestatic 216, 3) := by decide +kernel
theorem dX8_kinds_168 : decode cX8_kinds 168 = .ok (.aload_n 0, 1) := by decide +kernel
theorem dX8_kinds_169 : decode cX8_kinds 169 = .ok (.getfield 20, 3) := by decide +kernel
theorem dX8_kinds_172 : decode cX8_kinds 172 = .ok (.bipush 40, 2) := by decide +kernel
theorem dX8_kinds_174 : decode cX8_kinds 174 = .ok (.iload_n 2, 1) := by decide +kernel
theorem dX8_kinds_175 : decode cX8_kinds 175 = .ok (.imul, 1) := by decide +kernel
theorem dX8_kinds_176 : decode cX8_kinds 176 = .ok (.iload 7, 2) := by decide +kernel
theorem dX8_kinds_178 : decode cX8_kinds 178 = .ok (.iadd, 1) := by decide +kernel
theorem dX8_kinds_179 : decode cX8_kinds 179 = .ok (.iconst 1, 1) := by decide +kernel
theorem dX8_kinds_180 : decode cX8_kinds 180 = .ok (.iadd, 1) := by decide +kernel
theorem dX8_kinds_181 : decode cX8_kinds 181 = .ok (.iaload, 1) := by decide +kernel
theorem dX8_kinds_182 : decode cX8_kinds 182 = .ok (.if_icmp .ne 7, 3) := by decide +kernel
theorem dX8_kinds_185 : decode cX8_kinds 185 = .ok (.iconst 1, 1) := by decide +kernel
theorem dX8_kinds_186 : decode cX8_kinds 186 = .ok (.goto 4, 3) := by decide +kernel
theorem dX8_kinds_189 : decode cX8_kinds 189 = .ok (.iconst 0, 1) := by decide +kernel
theorem dX8_kinds_190 : decode cX8_kinds 190 = .ok (.istore 6, 2) := by decide +kernel
theorem dX8_kinds_192 : decode cX8_kinds 192 = .ok (.iinc 7 2, 3) := by decide +kernel
theorem dX8_kinds_195 : decode cX8_kinds 195 = .ok (.goto (-147), 3) := by decide +kernel
theorem dX8_kinds_198 : decode cX8_kinds 198 = .ok (.iload 4, 2) := by decide +kernel
theorem dX8_kinds_200 : decode cX8_kinds 200 = .ok (.iload 6, 2) := by decide +kernel
theorem dX8_kinds_202 : decode cX8_kinds 202 = .ok (.ifCond .eq 10, 3) := by decide +kernel
theorem dX8_kinds_205 : decode cX8_kinds 205 = .ok (.iconst 1, 1) := by decide +kernel
theorem dX8_kinds_206 : decode cX8_kinds 206 = .ok (.iload 5, 2) := by decide +kernel
theorem dX8_kinds_208 : decode cX8_kinds 208 = .ok (.ishl, 1) := by decide +kernel
theorem dX8_kinds_209 : decode cX8_kinds 209 = .ok (.goto 4, 3) := by decide +kernel
theorem dX8_kinds_212 : decode cX8_kinds 212 = .ok (.iconst 0, 1) := by decide +kernel
theorem dX8_kinds_213 : decode cX8_kinds 213 = .ok (.ior, 1) := by decide +kernel
theorem dX8_kinds_214 : decode cX8_kinds 214 = .ok (.istore 4, 2) := by decide +kernel
theorem dX8_kinds_216 : decode cX8_kinds 216 = .ok (.iinc 5 1, 3) := by decide +kernel
theorem dX8_kinds_219 : decode cX8_kinds 219 = .ok (.goto (-184), 3) := by decide +kernel
theorem dX8_kinds_222 : decode cX8_kinds 222 = .ok (.iload 4, 2) := by decide +kernel
theorem dX8_kinds_224 : decode cX8_kinds 224 = .ok (.ireturn, 1) := by decide +kernel
theorem dX8_walls_0 : decode cX8_walls 0 = .ok (.aload_n 0, 1) := by decide +kernel
theorem dX8_walls_1 : decode cX8_walls 1 = .ok (.iload_n 1, 1) := by decide +kernel
theorem dX8_walls_2 : decode cX8_walls 2 = .ok (.invokevirtual 222, 3) := by decide +kernel
theorem dX8_walls_5 : decode cX8_walls 5 = .ok (.istore_n 2, 1) := by decide +kernel
theorem dX8_walls_6 : decode cX8_walls 6 = .ok (.iload_n 2, 1) := by decide +kernel
theorem dX8_walls_7 : decode cX8_walls 7 = .ok (.ifCond .eq 5, 3) := by decide +kernel
theorem dX8_walls_10 : decode cX8_walls 10 = .ok (.iload_n 2, 1) := by decide +kernel
theorem dX8_walls_11 : decode cX8_walls 11 = .ok (.ireturn, 1) := by decide +kernel
theorem dX8_walls_12 : decode cX8_walls 12 = .ok (.iconst 0, 1) := by decide +kernel
theorem dX8_walls_13 : decode cX8_walls 13 = .ok (.istore_n 3, 1) := by decide +kernel
theorem dX8_walls_14 : decode cX8_walls 14 = .ok (.iconst 0, 1) := by decide +kernel
theorem dX8_walls_15 : decode cX8_walls 15 = .ok (.istore 4, 2) := by decide +kernel
theorem dX8_walls_17 : decode cX8_walls 17 = .ok (.iconst 0, 1) := by decide +kernel
theorem dX8_walls_18 : decode cX8_walls 18 = .ok (.istore 5, 2) := by decide +kernel
theorem dX8_walls_20 : decode cX8_walls 20 = .ok (.iload 5, 2) := by decide +kernel
theorem dX8_walls_22 : decode cX8_walls 22 = .ok (.iconst 1, 1) := by decide +kernel
theorem dX8_walls_23 : decode cX8_walls 23 = .ok (.iadd, 1) := by decide +kernel
theorem dX8_walls_24 : decode cX8_walls 24 = .ok (.aload_n 0, 1) := by decide +kernel
theorem dX8_walls_25 : decode cX8_walls 25 = .ok (.getfield 23, 3) := by decide +kernel
theorem dX8_walls_28 : decode cX8_walls 28 = .ok (.iload_n 1, 1) := by decide +kernel
theorem dX8_walls_29 : decode cX8_walls 29 = .ok (.iaload, 1) := by decide +kernel
theorem dX8_walls_30 : decode cX8_walls 30 = .ok (.if_icmp .ge 104, 3) := by decide +kernel
theorem dX8_walls_33 : decode cX8_walls 33 = .ok (.aload_n 0, 1) := by decide +kernel
theorem dX8_walls_34 : decode cX8_walls 34 = .ok (.getfield 20, 3) := by decide +kernel
theorem dX8_walls_37 : decode cX8_walls 37 = .ok (.bipush 40, 2) := by decide +kernel
theorem dX8_walls_39 : decode cX8_walls 39 = .ok (.iload_n 1, 1) := by decide +kernel
theorem dX8_walls_40 : decode cX8_walls 40 = .ok (.imul, 1) := by decide +kernel
theorem dX8_walls_41 : decode cX8_walls 41 = .ok (.iload 5, 2) := by decide +kernel
theorem dX8_walls_43 : decode cX8_walls 43 = .ok (.iadd, 1) := by decide +kernel
theorem dX8_walls_44 : decode cX8_walls 44 = .ok (.iaload, 1) := by decide +kernel
theorem dX8_walls_45 : decode cX8_walls 45 = .ok (.bipush 8, 2) := by decide +kernel
theorem dX8_walls_47 : decode cX8_walls 47 = .ok (.idiv, 1) := by decide +kernel
theorem dX8_walls_48 : decode cX8_walls 48 = .ok (.istore 6, 2) := by decide +kernel
theorem dX8_walls_50 : decode cX8_walls 50 = .ok (.iload_n 3, 1) := by decide +kernel
theorem dX8_walls_51 : decode cX8_walls 51 = .ok (.aload_n 0, 1) := by decide +kernel
theorem dX8_walls_52 : decode cX8_walls 52 = .ok (.aload_n 0, 1) := by decide +kernel
theorem dX8_walls_53 : decode cX8_walls 53 = .ok (.getfield 7, 3) := by decide +kernel
theorem dX8_walls_56 : decode cX8_walls 56 = .ok (.iload 6, 2) := by decide +kernel
theorem dX8_walls_58 : decode cX8_walls 58 = .ok (.aload_n 0, 1) := by decide +kernel
theorem dX8_walls_59 : decode cX8_walls 59 = .ok (.getfield 20, 3) := by decide +kernel
theorem dX8_walls_62 : decode cX8_walls 62 = .ok (.bipush 40, 2) := by decide +kernel
theorem dX8_walls_64 : decode cX8_walls 64 = .ok (.iload_n 1, 1) := by decide +kernel
theorem dX8_walls_65 : decode cX8_walls 65 = .ok (.imul, 1) := by decide +kernel
theorem dX8_walls_66 : decode cX8_walls 66 = .ok (.iload 5, 2) := by decide +kernel
theorem dX8_walls_68 : decode cX8_walls 68 = .ok (.iadd, 1) := by decide +kernel
theorem dX8_walls_69 : decode cX8_walls 69 = .ok (.iaload, 1) := by decide +kernel
theorem dX8_walls_70 : decode cX8_walls 70 = .ok (.bipush 8, 2) := by decide +kernel
theorem dX8_walls_72 : decode cX8_walls 72 = .ok (.irem, 1) := by decide +kernel
theorem dX8_walls_73 : decode cX8_walls 73 = .ok (.aload_n 0, 1) := by decide +kernel
theorem dX8_walls_74 : decode cX8_walls 74 = .ok (.getfield 7, 3) := by decide +kernel
theorem dX8_walls_77 : decode cX8_walls 77 = .ok (.iconst 1, 1) := by decide +kernel
theorem dX8_walls_78 : decode cX8_walls 78 = .ok (.iaload, 1) := by decide +kernel
theorem dX8_walls_79 : decode cX8_walls 79 = .ok (.invokevirtual 140, 3) := by decide +kernel
theorem dX8_walls_82 : decode cX8_walls 82 = .ok (.bipush (-9), 2) := by decide +kernel
theorem dX8_walls_84 : decode cX8_walls 84 = .ok (.if_icmp .eq 10, 3) := by decide +kernel
theorem dX8_walls_87 : decode cX8_walls 87 = .ok (.iconst 1, 1) := by decide +kernel
theorem dX8_walls_88 : decode cX8_walls 88 = .ok (.iload 6, 2) := by decide +kernel
theorem dX8_walls_90 : decode cX8_walls 90 = .ok (.ishl, 1) := by decide +kernel
theorem dX8_walls_91 : decode cX8_walls 91 = .ok (.goto 4, 3) := by decide +kernel
theorem dX8_walls_94 : decode cX8_walls 94 = .ok (.iconst 0, 1) := by decide +kernel
theorem dX8_walls_95 : decode cX8_walls 95 = .ok (.ior, 1) := by decide +kernel
theorem dX8_walls_96 : decode cX8_walls 96 = .ok (.istore_n 3, 1) := by decide +kernel
theorem dX8_walls_97 : decode cX8_walls 97 = .ok (.iload 4, 2) := by decide +kernel
theorem dX8_walls_99 : decode cX8_walls 99 = .ok (.aload_n 0, 1) := by decide +kernel
theorem dX8_walls_100 : decode cX8_walls 100 = .ok (.getfield 20, 3) := by decide +kernel
theorem dX8_walls_103 : decode cX8_walls 103 = .ok (.bipush 40, 2) := by decide +kernel
theorem dX8_walls_105 : decode cX8_walls 105 = .ok (.iload_n 1, 1) := by decide +kernel
theorem dX8_walls_106 : decode cX8_walls 106 = .ok (.imul, 1) := by decide +kernel
theorem dX8_walls_107 : decode cX8_walls 107 = .ok (.iload 5, 2) := by decide +kernel
theorem dX8_walls_109 : decode cX8_walls 109 = .ok (.iadd, 1) := by decide +kernel
theorem dX8_walls_110 : decode cX8_walls 110 = .ok (.iconst 1, 1) := by decide +kernel
theorem dX8_walls_111 : decode cX8_walls 111 = .ok (.iadd, 1) := by decide +kernel
theorem dX8_walls_112 : decode cX8_walls 112 = .ok (.iaload, 1) := by decide +kernel
theorem dX8_walls_113 : decode cX8_walls 113 = .ok (.iconst 2, 1) := by decide +kernel
theorem dX8_walls_114 : decode cX8_walls 114 = .ok (.if_icmp .ge 10, 3) := by decide +kernel
theorem dX8_walls_117 : decode cX8_walls 117 = .ok (.iconst 1, 1) := by decide +kernel
theorem dX8_walls_118 : decode cX8_walls 118 = .ok (.iload 6, 2) := by decide +kernel
theorem dX8_walls_120 : decode cX8_walls 120 = .ok (.ishl, 1) := by decide +kernel
theorem dX8_walls_121 : decode cX8_walls 121 = .ok (.goto 4, 3) := by decide +kernel
theorem dX8_walls_124 : decode cX8_walls 124 = .ok (.iconst 0, 1) := by decide +kernel
theorem dX8_walls_125 : decode cX8_walls 125 = .ok (.ior, 1) := by decide +kernel
theorem dX8_walls_126 : decode cX8_walls 126 = .ok (.istore 4, 2) := by decide +kernel
theorem dX8_walls_128 : decode cX8_walls 128 = .ok (.iinc 5 2, 3) := by decide +kernel
theorem dX8_walls_131 : decode cX8_walls 131 = .ok (.goto (-111), 3) := by decide +kernel
theorem dX8_walls_134 : decode cX8_walls 134 = .ok (.aload_n 0, 1) := by decide +kernel
theorem dX8_walls_135 : decode cX8_walls 135 = .ok (.iload 4, 2) := by decide +kernel
theorem dX8_walls_137 : decode cX8_walls 137 = .ok (.invokevirtual 87, 3) := by decide +kernel
theorem dX8_walls_140 : decode cX8_walls 140 = .ok (.istore 5, 2) := by decide +kernel
theorem dX8_walls_142 : decode cX8_walls 142 = .ok (.iload_n 3, 1) := by decide +kernel
theorem dX8_walls_143 : decode cX8_walls 143 = .ok (.iload 4, 2) := by decide +kernel
theorem dX8_walls_145 : decode cX8_walls 145 = .ok (.iconst (-1), 1) := by decide +kernel
theorem dX8_walls_146 : decode cX8_walls 146 = .ok (.ixor, 1) := by decide +kernel
theorem dX8_walls_147 : decode cX8_walls 147 = .ok (.iand, 1) := by decide +kernel
theorem dX8_walls_148 : decode cX8_walls 148 = .ok (.ireturn, 1) := by decide +kernel
theorem dX8_goChoices_0 : decode cX8_goChoices 0 = .ok (.iconst 1, 1) := by decide +kernel
theorem dX8_goChoices_1 : decode cX8_goChoices 1 = .ok (.istore_n 3, 1) := by decide +kernel
theorem dX8_goChoices_2 : decode cX8_goChoices 2 = .ok (.aload_n 0, 1) := by decide +kernel
theorem dX8_goChoices_3 : decode cX8_goChoices 3 = .ok (.invokevirtual 202, 3) := by decide +kernel
theorem dX8_goChoices_6 : decode cX8_goChoices 6 = .ok (.iconst 0, 1) := by decide +kernel
theorem dX8_goChoices_7 : decode cX8_goChoices 7 = .ok (.istore 4, 2) := by decide +kernel
theorem dX8_goChoices_9 : decode cX8_goChoices 9 = .ok (.iload 4, 2) := by decide +kernel
theorem dX8_goChoices_11 : decode cX8_goChoices 11 = .ok (.iload_n 1, 1) := by decide +kernel
theorem dX8_goChoices_12 : decode cX8_goChoices 12 = .ok (.if_icmp .ge 90, 3) := by decide +kernel
theorem dX8_goChoices_15 : decode cX8_goChoices 15 = .ok (.iload_n 3, 1) := by decide +kernel
theorem dX8_goChoices_16 : decode cX8_goChoices 16 = .ok (.ifCond .eq 86, 3) := by decide +kernel
theorem dX8_goChoices_19 : decode cX8_goChoices 19 = .ok (.iload 4, 2) := by decide +kernel
theorem dX8_goChoices_21 : decode cX8_goChoices 21 = .ok (.iconst 2, 1) := by decide +kernel
theorem dX8_goChoices_22 : decode cX8_goChoices 22 = .ok (.irem, 1) := by decide +kernel
theorem dX8_goChoices_23 : decode cX8_goChoices 23 = .ok (.ifCond .ne 8, 3) := by decide +kernel
theorem dX8_goChoices_26 : decode cX8_goChoices 26 = .ok (.bipush 20, 2) := by decide +kernel
theorem dX8_goChoices_28 : decode cX8_goChoices 28 = .ok (.goto 5, 3) := by decide +kernel
theorem dX8_goChoices_31 : decode cX8_goChoices 31 = .ok (.bipush 10, 2) := by decide +kernel
theorem dX8_goChoices_33 : decode cX8_goChoices 33 = .ok (.aload_n 0, 1) := by decide +kernel
theorem dX8_goChoices_34 : decode cX8_goChoices 34 = .ok (.getfield 54, 3) := by decide +kernel
theorem dX8_goChoices_37 : decode cX8_goChoices 37 = .ok (.iload 4, 2) := by decide +kernel
theorem dX8_goChoices_39 : decode cX8_goChoices 39 = .ok (.iaload, 1) := by decide +kernel
theorem dX8_goChoices_40 : decode cX8_goChoices 40 = .ok (.iadd, 1) := by decide +kernel
theorem dX8_goChoices_41 : decode cX8_goChoices 41 = .ok (.iconst 1, 1) := by decide +kernel
theorem dX8_goChoices_42 : decode cX8_goChoices 42 = .ok (.isub, 1) := by decide +kernel
theorem dX8_goChoices_43 : decode cX8_goChoices 43 = .ok (.istore 5, 2) := by decide +kernel
theorem dX8_goChoices_45 : decode cX8_goChoices 45 = .ok (.aload_n 0, 1) := by decide +kernel
theorem dX8_goChoices_46 : decode cX8_goChoices 46 = .ok (.getfield 54, 3) := by decide +kernel
theorem dX8_goChoices_49 : decode cX8_goChoices 49 = .ok (.iload 4, 2) := by decide +kernel
theorem dX8_goChoices_51 : decode cX8_goChoices 51 = .ok (.iaload, 1) := by decide +kernel
theorem dX8_goChoices_52 : decode cX8_goChoices 52 = .ok (.ifCond .eq 15, 3) := by decide +kernel
theorem dX8_goChoices_55 : decode cX8_goChoices 55 = .ok (.aload_n 0, 1) := by decide +kernel
theorem dX8_goChoices_56 : decode cX8_goChoices 56 = .ok (.getfield 45, 3) := by decide +kernel
theorem dX8_goChoices_59 : decode cX8_goChoices 59 = .ok (.iload 5, 2) := by decide +kernel
theorem dX8_goChoices_61 : decode cX8_goChoices 61 = .ok (.invokestatic 176, 3) := by decide +kernel
theorem dX8_goChoices_64 : decode cX8_goChoices 64 = .ok (.ifCond .eq 7, 3) := by decide +kernel
theorem dX8_goChoices_67 : decode cX8_goChoices 67 = .ok (.iconst 1, 1) := by decide +kernel
theorem dX8_goChoices_68 : decode cX8_goChoices 68 = .ok (.goto 4, 3) := by decide +kernel
theorem dX8_goChoices_71 : decode cX8_goChoices 71 = .ok (.iconst 0, 1) := by decide +kernel
theorem dX8_goChoices_72 : decode cX8_goChoices 72 = .ok (.istore_n 3, 1) := by decide +kernel
theorem dX8_goChoices_73 : decode cX8_goChoices 73 = .ok (.iload_n 3, 1) := by decide +kernel
theorem dX8_goChoices_74 : decode cX8_goChoices 74 = .ok (.ifCond .eq 22, 3) := by decide +kernel
theorem dX8_goChoices_77 : decode cX8_goChoices 77 = .ok (.aload_n 0, 1) := by decide +kernel
theorem dX8_goChoices_78 : decode cX8_goChoices 78 = .ok (.getfield 54, 3) := by decide +kernel
theorem dX8_goChoices_81 : decode cX8_goChoices 81 = .ok (.iload 4, 2) := by decide +kernel
theorem dX8_goChoices_83 : decode cX8_goChoices 83 = .ok (.iaload, 1) := by decide +kernel
theorem dX8_goChoices_84 : decode cX8_goChoices 84 = .ok (.ifCond .le 12, 3) := by decide +kernel
theorem dX8_goChoices_87 : decode cX8_goChoices 87 = .ok (.aload_n 0, 1) := by decide +kernel
theorem dX8_goChoices_88 : decode cX8_goChoices 88 = .ok (.getfield 45, 3) := by decide +kernel
theorem dX8_goChoices_91 : decode cX8_goChoices 91 = .ok (.iload 5, 2) := by decide +kernel
theorem dX8_goChoices_93 : decode cX8_goChoices 93 = .ok (.invokestatic 172, 3) := by decide +kernel
theorem dX8_goChoices_96 : decode cX8_goChoices 96 = .ok (.iinc 4 1, 3) := by decide +kernel
theorem dX8_goChoices_99 : decode cX8_goChoices 99 = .ok (.goto (-90), 3) := by decide +kernel
theorem dX8_goChoices_102 : decode cX8_goChoices 102 = .ok (.iload_n 3, 1) := by decide +kernel
theorem dX8_goChoices_103 : decode cX8_goChoices 103 = .ok (.ifCond .eq 19, 3) := by decide +kernel
theorem dX8_goChoices_106 : decode cX8_goChoices 106 = .ok (.aload_n 0, 1) := by decide +kernel
theorem dX8_goChoices_107 : decode cX8_goChoices 107 = .ok (.aload_n 0, 1) := by decide +kernel
theorem dX8_goChoices_108 : decode cX8_goChoices 108 = .ok (.getfield 45, 3) := by decide +kernel
theorem dX8_goChoices_111 : decode cX8_goChoices 111 = .ok (.aload_n 0, 1) := by decide +kernel
theorem dX8_goChoices_112 : decode cX8_goChoices 112 = .ok (.invokevirtual 194, 3) := by decide +kernel
theorem dX8_goChoices_115 : decode cX8_goChoices 115 = .ok (.iload_n 2, 1) := by decide +kernel
theorem dX8_goChoices_116 : decode cX8_goChoices 116 = .ok (.invokevirtual 150, 3) := by decide +kernel
theorem dX8_goChoices_119 : decode cX8_goChoices 119 = .ok (.goto 5, 3) := by decide +kernel
theorem dX8_goChoices_122 : decode cX8_goChoices 122 = .ok (.ldc 201, 2) := by decide +kernel
theorem dX8_goChoices_124 : decode cX8_goChoices 124 = .ok (.ireturn, 1) := by decide +kernel
theorem dX8_startOf_0 : decode cX8_startOf 0 = .ok (.iload_n 0, 1) := by decide +kernel
theorem dX8_startOf_1 : decode cX8_startOf 1 = .ok (.iconst 2, 1) := by decide +kernel
theorem dX8_startOf_2 : decode cX8_startOf 2 = .ok (.irem, 1) := by decide +kernel
theorem dX8_startOf_3 : decode cX8_startOf 3 = .ok (.ifCond .ne 8, 3) := by decide +kernel
theorem dX8_startOf_6 : decode cX8_startOf 6 = .ok (.ldc 231, 2) := by decide +kernel
theorem dX8_startOf_8 : decode cX8_startOf 8 = .ok (.goto 5, 3) := by decide +kernel
theorem dX8_startOf_11 : decode cX8_startOf 11 = .ok (.ldc 201, 2) := by decide +kernel
theorem dX8_startOf_13 : decode cX8_startOf 13 = .ok (.ireturn, 1) := by decide +kernel
theorem dX8_weigh_0 : decode cX8_weigh 0 = .ok (.iload_n 1, 1) := by decide +kernel
theorem dX8_weigh_1 : decode cX8_weigh 1 = .ok (.iconst 2, 1) := by decide +kernel
theorem dX8_weigh_2 : decode cX8_weigh 2 = .ok (.irem, 1) := by decide +kernel
theorem dX8_weigh_3 : decode cX8_weigh 3 = .ok (.ifCond .ne 21, 3) := by decide +kernel
theorem dX8_weigh_6 : decode cX8_weigh 6 = .ok (.iload_n 2, 1) := by decide +kernel
theorem dX8_weigh_7 : decode cX8_weigh 7 = .ok (.aload_n 0, 1) := by decide +kernel
theorem dX8_weigh_8 : decode cX8_weigh 8 = .ok (.getfield 57, 3) := by decide +kernel
theorem dX8_weigh_11 : decode cX8_weigh 11 = .ok (.iload_n 1, 1) := by decide +kernel
theorem dX8_weigh_12 : decode cX8_weigh 12 = .ok (.iaload, 1) := by decide +kernel
theorem dX8_weigh_13 : decode cX8_weigh 13 = .ok (.if_icmp .le 7, 3) := by decide +kernel
theorem dX8_weigh_16 : decode cX8_weigh 16 = .ok (.iconst 1, 1) := by decide +kernel
theorem dX8_weigh_17 : decode cX8_weigh 17 = .ok (.goto 22, 3) := by decide +kernel
theorem dX8_weigh_20 : decode cX8_weigh 20 = .ok (.iconst 0, 1) := by decide +kernel
theorem dX8_weigh_21 : decode cX8_weigh 21 = .ok (.goto 18, 3) := by decide +kernel
theorem dX8_weigh_24 : decode cX8_weigh 24 = .ok (.iload_n 2, 1) := by decide +kernel
theorem dX8_weigh_25 : decode cX8_weigh 25 = .ok (.aload_n 0, 1) := by decide +kernel
theorem dX8_weigh_26 : decode cX8_weigh 26 = .ok (.getfield 57, 3) := by decide +kernel
theorem dX8_weigh_29 : decode cX8_weigh 29 = .ok (.iload_n 1, 1) := by decide +kernel
theorem dX8_weigh_30 : decode cX8_weigh 30 = .ok (.iaload, 1) := by decide +kernel
theorem dX8_weigh_31 : decode cX8_weigh 31 = .ok (.if_icmp .ge 7, 3) := by decide +kernel
theorem dX8_weigh_34 : decode cX8_weigh 34 = .ok (.iconst 1, 1) := by decide +kernel
theorem dX8_weigh_35 : decode cX8_weigh 35 = .ok (.goto 4, 3) := by decide +kernel
theorem dX8_weigh_38 : decode cX8_weigh 38 = .ok (.iconst 0, 1) := by decide +kernel
theorem dX8_weigh_39 : decode cX8_weigh 39 = .ok (.istore_n 3, 1) := by decide +kernel
theorem dX8_weigh_40 : decode cX8_weigh 40 = .ok (.aload_n 0, 1) := by decide +kernel
theorem dX8_weigh_41 : decode cX8_weigh 41 = .ok (.getfield 57, 3) := by decide +kernel
theorem dX8_weigh_44 : decode cX8_weigh 44 = .ok (.iload_n 1, 1) := by decide +kernel
theorem dX8_weigh_45 : decode cX8_weigh 45 = .ok (.iload_n 2, 1) := by decide +kernel
theorem dX8_weigh_46 : decode cX8_weigh 46 = .ok (.ldc 201, 2) := by decide +kernel
theorem dX8_weigh_48 : decode cX8_weigh 48 = .ok (.if_icmp .eq 17, 3) := by decide +kernel
theorem dX8_weigh_51 : decode cX8_weigh 51 = .ok (.iload_n 2, 1) := by decide +kernel
theorem dX8_weigh_52 : decode cX8_weigh 52 = .ok (.ldc 231, 2) := by decide +kernel
theorem dX8_weigh_54 : decode cX8_weigh 54 = .ok (.if_icmp .eq 11, 3) := by decide +kernel
theorem dX8_weigh_57 : decode cX8_weigh 57 = .ok (.iload_n 3, 1) := by decide +kernel
theorem dX8_weigh_58 : decode cX8_weigh 58 = .ok (.ifCond .eq 7, 3) := by decide +kernel
theorem dX8_weigh_61 : decode cX8_weigh 61 = .ok (.iload_n 2, 1) := by decide +kernel
theorem dX8_weigh_62 : decode cX8_weigh 62 = .ok (.goto 9, 3) := by decide +kernel
theorem dX8_weigh_65 : decode cX8_weigh 65 = .ok (.aload_n 0, 1) := by decide +kernel
theorem dX8_weigh_66 : decode cX8_weigh 66 = .ok (.getfield 57, 3) := by decide +kernel
theorem dX8_weigh_69 : decode cX8_weigh 69 = .ok (.iload_n 1, 1) := by decide +kernel
theorem dX8_weigh_70 : decode cX8_weigh 70 = .ok (.iaload, 1) := by decide +kernel
theorem dX8_weigh_71 : decode cX8_weigh 71 = .ok (.iastore, 1) := by decide +kernel
theorem dX8_weigh_72 : decode cX8_weigh 72 = .ok (.return_, 1) := by decide +kernel
theorem dX8_duel_0 : decode cX8_duel 0 = .ok (.iload_n 1, 1) := by decide +kernel
theorem dX8_duel_1 : decode cX8_duel 1 = .ok (.invokestatic 191, 3) := by decide +kernel
theorem dX8_duel_4 : decode cX8_duel 4 = .ok (.ifCond .eq 15, 3) := by decide +kernel
theorem dX8_duel_7 : decode cX8_duel 7 = .ok (.iload_n 2, 1) := by decide +kernel
theorem dX8_duel_8 : decode cX8_duel 8 = .ok (.i2l, 1) := by decide +kernel
theorem dX8_duel_9 : decode cX8_duel 9 = .ok (.lconst 0, 1) := by decide +kernel
theorem dX8_duel_10 : decode cX8_duel 10 = .ok (.ldc2_w 186, 3) := by decide +kernel
theorem dX8_duel_13 : decode cX8_duel 13 = .ok (.invokestatic 69, 3) := by decide +kernel
theorem dX8_duel_16 : decode cX8_duel 16 = .ok (.ifCond .ne 5, 3) := by decide +kernel
theorem dX8_duel_19 : decode cX8_duel 19 = .ok (.iconst (-1), 1) := by decide +kernel
theorem dX8_duel_20 : decode cX8_duel 20 = .ok (.ireturn, 1) := by decide +kernel
theorem dX8_duel_21 : decode cX8_duel 21 = .ok (.aload_n 0, 1) := by decide +kernel
theorem dX8_duel_22 : decode cX8_duel 22 = .ok (.getfield 7, 3) := by decide +kernel
theorem dX8_duel_25 : decode cX8_duel 25 = .ok (.iconst 0, 1) := by decide +kernel
theorem dX8_duel_26 : decode cX8_duel 26 = .ok (.iaload, 1) := by decide +kernel
theorem dX8_duel_27 : decode cX8_duel 27 = .ok (.ifCond .ne 6, 3) := by decide +kernel
theorem dX8_duel_30 : decode cX8_duel 30 = .ok (.bipush (-4), 2) := by decide +kernel
theorem dX8_duel_32 : decode cX8_duel 32 = .ok (.ireturn, 1) := by decide +kernel
theorem dX8_duel_33 : decode cX8_duel 33 = .ok (.iconst 2, 1) := by decide +kernel
theorem dX8_duel_34 : decode cX8_duel 34 = .ok (.iload_n 2, 1) := by decide +kernel
theorem dX8_duel_35 : decode cX8_duel 35 = .ok (.imul, 1) := by decide +kernel
theorem dX8_duel_36 : decode cX8_duel 36 = .ok (.istore_n 3, 1) := by decide +kernel
theorem dX8_duel_37 : decode cX8_duel 37 = .ok (.iconst 0, 1) := by decide +kernel
theorem dX8_duel_38 : decode cX8_duel 38 = .ok (.istore 4, 2) := by decide +kernel
theorem dX8_duel_40 : decode cX8_duel 40 = .ok (.iconst 0, 1) := by decide +kernel
theorem dX8_duel_41 : decode cX8_duel 41 = .ok (.istore 5, 2) := by decide +kernel
theorem dX8_duel_43 : decode cX8_duel 43 = .ok (.iload 5, 2) := by decide +kernel
theorem dX8_duel_45 : decode cX8_duel 45 = .ok (.iload_n 3, 1) := by decide +kernel
theorem dX8_duel_46 : decode cX8_duel 46 = .ok (.if_icmp .ge 29, 3) := by decide +kernel
theorem dX8_duel_49 : decode cX8_duel 49 = .ok (.aload_n 0, 1) := by decide +kernel
theorem dX8_duel_50 : decode cX8_duel 50 = .ok (.getfield 54, 3) := by decide +kernel
theorem dX8_duel_53 : decode cX8_duel 53 = .ok (.iload 5, 2) := by decide +kernel
theorem dX8_duel_55 : decode cX8_duel 55 = .ok (.iconst 0, 1) := by decide +kernel
theorem dX8_duel_56 : decode cX8_duel 56 = .ok (.iastore, 1) := by decide +kernel
theorem dX8_duel_57 : decode cX8_duel 57 = .ok (.aload_n 0, 1) := by decide +kernel
theorem dX8_duel_58 : decode cX8_duel 58 = .ok (.getfield 57, 3) := by decide +kernel
theorem dX8_duel_61 : decode cX8_duel 61 = .ok (.iload 5, 2) := by decide +kernel
theorem dX8_duel_63 : decode cX8_duel 63 = .ok (.iload 5, 2) := by decide +kernel
theorem dX8_duel_65 : decode cX8_duel 65 = .ok (.invokestatic 232, 3) := by decide +kernel
theorem dX8_duel_68 : decode cX8_duel 68 = .ok (.iastore, 1) := by decide +kernel
theorem dX8_duel_69 : decode cX8_duel 69 = .ok (.iinc 5 1, 3) := by decide +kernel
theorem dX8_duel_72 : decode cX8_duel 72 = .ok (.goto (-29), 3) := by decide +kernel
theorem dX8_duel_75 : decode cX8_duel 75 = .ok (.iconst 1, 1) := by decide +kernel
theorem dX8_duel_76 : decode cX8_duel 76 = .ok (.istore 5, 2) := by decide +kernel
theorem dX8_duel_78 : decode cX8_duel 78 = .ok (.iload 5, 2) := by decide +kernel
theorem dX8_duel_80 : decode cX8_duel 80 = .ok (.ifCond .eq 126, 3) := by decide +kernel
theorem dX8_duel_83 : decode cX8_duel 83 = .ok (.aload_n 0, 1) := by decide +kernel
theorem dX8_duel_84 : decode cX8_duel 84 = .ok (.iload_n 3, 1) := by decide +kernel
theorem dX8_duel_85 : decode cX8_duel 85 = .ok (.iload_n 1, 1) := by decide +kernel
theorem dX8_duel_86 : decode cX8_duel 86 = .ok (.invokevirtual 235, 3) := by decide +kernel
theorem dX8_duel_89 : decode cX8_duel 89 = .ok (.istore 4, 2) := by decide +kernel
theorem dX8_duel_91 : decode cX8_duel 91 = .ok (.iload_n 3, 1) := by decide +kernel
theorem dX8_duel_92 : decode cX8_duel 92 = .ok (.iconst 1, 1) := by decide +kernel
theorem dX8_duel_93 : decode cX8_duel 93 = .ok (.isub, 1) := by decide +kernel
theorem dX8_duel_94 : decode cX8_duel 94 = .ok (.istore 6, 2) := by decide +kernel
theorem dX8_duel_96 : decode cX8_duel 96 = .ok (.iconst 1, 1) := by decide +kernel
theorem dX8_duel_97 : decode cX8_duel 97 = .ok (.istore 7, 2) := by decide +kernel
theorem dX8_duel_99 : decode cX8_duel 99 = .ok (.iload 6, 2) := by decide +kernel
theorem dX8_duel_101 : decode cX8_duel 101 = .ok (.ifCond .lt 90, 3) := by decide +kernel
theorem dX8_duel_104 : decode cX8_duel 104 = .ok (.iload 7, 2) := by decide +kernel
theorem dX8_duel_106 : decode cX8_duel 106 = .ok (.ifCond .eq 85, 3) := by decide +kernel
theorem dX8_duel_109 : decode cX8_duel 109 = .ok (.aload_n 0, 1) := by decide +kernel
theorem dX8_duel_110 : decode cX8_duel 110 = .ok (.iload 6, 2) := by decide +kernel
theorem dX8_duel_112 : decode cX8_duel 112 = .ok (.iload 4, 2) := by decide +kernel
theorem dX8_duel_114 : decode cX8_duel 114 = .ok (.invokevirtual 238, 3) := by decide +kernel
theorem dX8_duel_117 : decode cX8_duel 117 = .ok (.aload_n 0, 1) := by decide +kernel
theorem dX8_duel_118 : decode cX8_duel 118 = .ok (.getfield 54, 3) := by decide +kernel
theorem dX8_duel_121 : decode cX8_duel 121 = .ok (.iload 6, 2) := by decide +kernel
theorem dX8_duel_123 : decode cX8_duel 123 = .ok (.dup2, 1) := by decide +kernel
theorem dX8_duel_124 : decode cX8_duel 124 = .ok (.iaload, 1) := by decide +kernel
theorem dX8_duel_125 : decode cX8_duel 125 = .ok (.iconst 1, 1) := by decide +kernel
theorem dX8_duel_126 : decode cX8_duel 126 = .ok (.iadd, 1) := by decide +kernel
theorem dX8_duel_127 : decode cX8_duel 127 = .ok (.iastore, 1) := by decide +kernel
theorem dX8_duel_128 : decode cX8_duel 128 = .ok (.aload_n 0, 1) := by decide +kernel
theorem dX8_duel_129 : decode cX8_duel 129 = .ok (.getfield 54, 3) := by decide +kernel
theorem dX8_duel_132 : decode cX8_duel 132 = .ok (.iload 6, 2) := by decide +kernel
theorem dX8_duel_134 : decode cX8_duel 134 = .ok (.iaload, 1) := by decide +kernel
theorem dX8_duel_135 : decode cX8_duel 135 = .ok (.aload_n 0, 1) := by decide +kernel
theorem dX8_duel_136 : decode cX8_duel 136 = .ok (.getfield 7, 3) := by decide +kernel
theorem dX8_duel_139 : decode cX8_duel 139 = .ok (.iconst 0, 1) := by decide +kernel
theorem dX8_duel_140 : decode cX8_duel 140 = .ok (.iaload, 1) := by decide +kernel
theorem dX8_duel_141 : decode cX8_duel 141 = .ok (.if_icmp .le 7, 3) := by decide +kernel
theorem dX8_duel_144 : decode cX8_duel 144 = .ok (.iconst 1, 1) := by decide +kernel
theorem dX8_duel_145 : decode cX8_duel 145 = .ok (.goto 4, 3) := by decide +kernel
theorem dX8_duel_148 : decode cX8_duel 148 = .ok (.iconst 0, 1) := by decide +kernel
theorem dX8_duel_149 : decode cX8_duel 149 = .ok (.istore 7, 2) := by decide +kernel
theorem dX8_duel_151 : decode cX8_duel 151 = .ok (.iload 7, 2) := by decide +kernel
theorem dX8_duel_153 : decode cX8_duel 153 = .ok (.ifCond .eq (-54), 3) := by decide +kernel
theorem dX8_duel_156 : decode cX8_duel 156 = .ok (.aload_n 0, 1) := by decide +kernel
theorem dX8_duel_157 : decode cX8_duel 157 = .ok (.getfield 57, 3) := by decide +kernel
theorem dX8_duel_160 : decode cX8_duel 160 = .ok (.iload 6, 2) := by decide +kernel
theorem dX8_duel_162 : decode cX8_duel 162 = .ok (.iaload, 1) := by decide +kernel
theorem dX8_duel_163 : decode cX8_duel 163 = .ok (.istore 4, 2) := by decide +kernel
theorem dX8_duel_165 : decode cX8_duel 165 = .ok (.aload_n 0, 1) := by decide +kernel
theorem dX8_duel_166 : decode cX8_duel 166 = .ok (.getfield 54, 3) := by decide +kernel
theorem dX8_duel_169 : decode cX8_duel 169 = .ok (.iload 6, 2) := by decide +kernel
theorem dX8_duel_171 : decode cX8_duel 171 = .ok (.iconst 0, 1) := by decide +kernel
theorem dX8_duel_172 : decode cX8_duel 172 = .ok (.iastore, 1) := by decide +kernel
theorem dX8_duel_173 : decode cX8_duel 173 = .ok (.aload_n 0, 1) := by decide +kernel
theorem dX8_duel_174 : decode cX8_duel 174 = .ok (.getfield 57, 3) := by decide +kernel
theorem dX8_duel_177 : decode cX8_duel 177 = .ok (.iload 6, 2) := by decide +kernel
theorem dX8_duel_179 : decode cX8_duel 179 = .ok (.iload 6, 2) := by decide +kernel
theorem dX8_duel_181 : decode cX8_duel 181 = .ok (.invokestatic 232, 3) := by decide +kernel
theorem dX8_duel_184 : decode cX8_duel 184 = .ok (.iastore, 1) := by decide +kernel
theorem dX8_duel_185 : decode cX8_duel 185 = .ok (.iinc 6 (-1), 3) := by decide +kernel
theorem dX8_duel_188 : decode cX8_duel 188 = .ok (.goto (-89), 3) := by decide +kernel
theorem dX8_duel_191 : decode cX8_duel 191 = .ok (.iload 6, 2) := by decide +kernel
theorem dX8_duel_193 : decode cX8_duel 193 = .ok (.ifCond .lt 7, 3) := by decide +kernel
theorem dX8_duel_196 : decode cX8_duel 196 = .ok (.iconst 1, 1) := by decide +kernel
theorem dX8_duel_197 : decode cX8_duel 197 = .ok (.goto 4, 3) := by decide +kernel
theorem dX8_duel_200 : decode cX8_duel 200 = .ok (.iconst 0, 1) := by decide +kernel
theorem dX8_duel_201 : decode cX8_duel 201 = .ok (.istore 5, 2) := by decide +kernel
theorem dX8_duel_203 : decode cX8_duel 203 = .ok (.goto (-125), 3) := by decide +kernel
theorem dX8_duel_206 : decode cX8_duel 206 = .ok (.aload_n 0, 1) := by decide +kernel
theorem dX8_duel_207 : decode cX8_duel 207 = .ok (.iload 4, 2) := by decide +kernel
theorem dX8_duel_209 : decode cX8_duel 209 = .ok (.invokevirtual 87, 3) := by decide +kernel
theorem dX8_duel_212 : decode cX8_duel 212 = .ok (.ireturn, 1) := by decide +kernel
theorem dX8_fraction_0 : decode cX8_fraction 0 = .ok (.lload_n 1, 1) := by decide +kernel
theorem dX8_fraction_1 : decode cX8_fraction 1 = .ok (.lstore 5, 2) := by decide +kernel
theorem dX8_fraction_3 : decode cX8_fraction 3 = .ok (.lload_n 3, 1) := by decide +kernel
theorem dX8_fraction_4 : decode cX8_fraction 4 = .ok (.lstore 7, 2) := by decide +kernel
theorem dX8_fraction_6 : decode cX8_fraction 6 = .ok (.lload 7, 2) := by decide +kernel
theorem dX8_fraction_8 : decode cX8_fraction 8 = .ok (.lconst 0, 1) := by decide +kernel
theorem dX8_fraction_9 : decode cX8_fraction 9 = .ok (.lcmp, 1) := by decide +kernel
theorem dX8_fraction_10 : decode cX8_fraction 10 = .ok (.ifCond .eq 21, 3) := by decide +kernel
theorem dX8_fraction_13 : decode cX8_fraction 13 = .ok (.lload 5, 2) := by decide +kernel
theorem dX8_fraction_15 : decode cX8_fraction 15 = .ok (.lload 7, 2) := by decide +kernel
theorem dX8_fraction_17 : decode cX8_fraction 17 = .ok (.lrem, 1) := by decide +kernel
theorem dX8_fraction_18 : decode cX8_fraction 18 = .ok (.lstore 9, 2) := by decide +kernel
theorem dX8_fraction_20 : decode cX8_fraction 20 = .ok (.lload 7, 2) := by decide +kernel
theorem dX8_fraction_22 : decode cX8_fraction 22 = .ok (.lstore 5, 2) := by decide +kernel
theorem dX8_fraction_24 : decode cX8_fraction 24 = .ok (.lload 9, 2) := by decide +kernel
theorem dX8_fraction_26 : decode cX8_fraction 26 = .ok (.lstore 7, 2) := by decide +kernel
theorem dX8_fraction_28 : decode cX8_fraction 28 = .ok (.goto (-22), 3) := by decide +kernel
theorem dX8_fraction_31 : decode cX8_fraction 31 = .ok (.aload_n 0, 1) := by decide +kernel
theorem dX8_fraction_32 : decode cX8_fraction 32 = .ok (.lload_n 1, 1) := by decide +kernel
theorem dX8_fraction_33 : decode cX8_fraction 33 = .ok (.lload 5, 2) := by decide +kernel
theorem dX8_fraction_35 : decode cX8_fraction 35 = .ok (.ldiv, 1) := by decide +kernel
theorem dX8_fraction_36 : decode cX8_fraction 36 = .ok (.putfield 228, 3) := by decide +kernel
theorem dX8_fraction_39 : decode cX8_fraction 39 = .ok (.aload_n 0, 1) := by decide +kernel
theorem dX8_fraction_40 : decode cX8_fraction 40 = .ok (.lload_n 3, 1) := by decide +kernel
theorem dX8_fraction_41 : decode cX8_fraction 41 = .ok (.lload 5, 2) := by decide +kernel
theorem dX8_fraction_43 : decode cX8_fraction 43 = .ok (.ldiv, 1) := by decide +kernel
theorem dX8_fraction_44 : decode cX8_fraction 44 = .ok (.putfield 35, 3) := by decide +kernel
theorem dX8_fraction_47 : decode cX8_fraction 47 = .ok (.return_, 1) := by decide +kernel
theorem dX8_goOdds_0 : decode cX8_goOdds 0 = .ok (.lconst 0, 1) := by decide +kernel
theorem dX8_goOdds_1 : decode cX8_goOdds 1 = .ok (.lstore_n 3, 1) := by decide +kernel
theorem dX8_goOdds_2 : decode cX8_goOdds 2 = .ok (.lconst 1, 1) := by decide +kernel
theorem dX8_goOdds_3 : decode cX8_goOdds 3 = .ok (.lstore 5, 2) := by decide +kernel
theorem dX8_goOdds_5 : decode cX8_goOdds 5 = .ok (.iconst 0, 1) := by decide +kernel
theorem dX8_goOdds_6 : decode cX8_goOdds 6 = .ok (.istore 7, 2) := by decide +kernel
theorem dX8_goOdds_8 : decode cX8_goOdds 8 = .ok (.iload 7, 2) := by decide +kernel
theorem dX8_goOdds_10 : decode cX8_goOdds 10 = .ok (.aload_n 0, 1) := by decide +kernel
theorem dX8_goOdds_11 : decode cX8_goOdds 11 = .ok (.getfield 7, 3) := by decide +kernel
theorem dX8_goOdds_14 : decode cX8_goOdds 14 = .ok (.iconst 0, 1) := by decide +kernel
theorem dX8_goOdds_15 : decode cX8_goOdds 15 = .ok (.iaload, 1) := by decide +kernel
theorem dX8_goOdds_16 : decode cX8_goOdds 16 = .ok (.if_icmp .ge 17, 3) := by decide +kernel
theorem dX8_goOdds_19 : decode cX8_goOdds 19 = .ok (.lload 5, 2) := by decide +kernel
theorem dX8_goOdds_21 : decode cX8_goOdds 21 = .ok (.ldc2_w 242, 3) := by decide +kernel
theorem dX8_goOdds_24 : decode cX8_goOdds 24 = .ok (.lmul, 1) := by decide +kernel
theorem dX8_goOdds_25 : decode cX8_goOdds 25 = .ok (.lstore 5, 2) := by decide +kernel
theorem dX8_goOdds_27 : decode cX8_goOdds 27 = .ok (.iinc 7 1, 3) := by decide +kernel
theorem dX8_goOdds_30 : decode cX8_goOdds 30 = .ok (.goto (-22), 3) := by decide +kernel
theorem dX8_goOdds_33 : decode cX8_goOdds 33 = .ok (.iconst 0, 1) := by decide +kernel
theorem dX8_goOdds_34 : decode cX8_goOdds 34 = .ok (.istore 7, 2) := by decide +kernel
theorem dX8_goOdds_36 : decode cX8_goOdds 36 = .ok (.iload 7, 2) := by decide +kernel
theorem dX8_goOdds_38 : decode cX8_goOdds 38 = .ok (.aload_n 0, 1) := by decide +kernel
theorem dX8_goOdds_39 : decode cX8_goOdds 39 = .ok (.invokevirtual 194, 3) := by decide +kernel
theorem dX8_goOdds_42 : decode cX8_goOdds 42 = .ok (.if_icmp .gt 75, 3) := by decide +kernel
theorem dX8_goOdds_45 : decode cX8_goOdds 45 = .ok (.lconst 1, 1) := by decide +kernel
theorem dX8_goOdds_46 : decode cX8_goOdds 46 = .ok (.lstore 8, 2) := by decide +kernel
theorem dX8_goOdds_48 : decode cX8_goOdds 48 = .ok (.iconst 0, 1) := by decide +kernel
theorem dX8_goOdds_49 : decode cX8_goOdds 49 = .ok (.istore 10, 2) := by decide +kernel
theorem dX8_goOdds_51 : decode cX8_goOdds 51 = .ok (.iload 10, 2) := by decide +kernel
theorem dX8_goOdds_53 : decode cX8_goOdds 53 = .ok (.aload_n 0, 1) := by decide +kernel
theorem dX8_goOdds_54 : decode cX8_goOdds 54 = .ok (.getfield 7, 3) := by decide +kernel
theorem dX8_goOdds_57 : decode cX8_goOdds 57 = .ok (.iconst 0, 1) := by decide +kernel
theorem dX8_goOdds_58 : decode cX8_goOdds 58 = .ok (.iaload, 1) := by decide +kernel
theorem dX8_goOdds_59 : decode cX8_goOdds 59 = .ok (.if_icmp .ge 34, 3) := by decide +kernel
theorem dX8_goOdds_62 : decode cX8_goOdds 62 = .ok (.lload 8, 2) := by decide +kernel
theorem dX8_goOdds_64 : decode cX8_goOdds 64 = .ok (.iload 7, 2) := by decide +kernel
theorem dX8_goOdds_66 : decode cX8_goOdds 66 = .ok (.iload 10, 2) := by decide +kernel
theorem dX8_goOdds_68 : decode cX8_goOdds 68 = .ok (.invokestatic 129, 3) := by decide +kernel
theorem dX8_goOdds_71 : decode cX8_goOdds 71 = .ok (.ifCond .eq 11, 3) := by decide +kernel
theorem dX8_goOdds_74 : decode cX8_goOdds 74 = .ok (.bipush 12, 2) := by decide +kernel
theorem dX8_goOdds_76 : decode cX8_goOdds 76 = .ok (.iload_n 2, 1) := by decide +kernel
theorem dX8_goOdds_77 : decode cX8_goOdds 77 = .ok (.isub, 1) := by decide +kernel
theorem dX8_goOdds_78 : decode cX8_goOdds 78 = .ok (.i2l, 1) := by decide +kernel
theorem dX8_goOdds_79 : decode cX8_goOdds 79 = .ok (.goto 5, 3) := by decide +kernel
theorem dX8_goOdds_82 : decode cX8_goOdds 82 = .ok (.iload_n 2, 1) := by decide +kernel
theorem dX8_goOdds_83 : decode cX8_goOdds 83 = .ok (.i2l, 1) := by decide +kernel
theorem dX8_goOdds_84 : decode cX8_goOdds 84 = .ok (.lmul, 1) := by decide +kernel
theorem dX8_goOdds_85 : decode cX8_goOdds 85 = .ok (.lstore 8, 2) := by decide +kernel
theorem dX8_goOdds_87 : decode cX8_goOdds 87 = .ok (.iinc 10 1, 3) := by decide +kernel
theorem dX8_goOdds_90 : decode cX8_goOdds 90 = .ok (.goto (-39), 3) := by decide +kernel
theorem dX8_goOdds_93 : decode cX8_goOdds 93 = .ok (.lload_n 3, 1) := by decide +kernel
theorem dX8_goOdds_94 : decode cX8_goOdds 94 = .ok (.lload 8, 2) := by decide +kernel
theorem dX8_goOdds_96 : decode cX8_goOdds 96 = .ok (.aload_n 0, 1) := by decide +kernel
theorem dX8_goOdds_97 : decode cX8_goOdds 97 = .ok (.iload 7, 2) := by decide +kernel
theorem dX8_goOdds_99 : decode cX8_goOdds 99 = .ok (.invokevirtual 198, 3) := by decide +kernel
theorem dX8_goOdds_102 : decode cX8_goOdds 102 = .ok (.iload_n 1, 1) := by decide +kernel
theorem dX8_goOdds_103 : decode cX8_goOdds 103 = .ok (.iand, 1) := by decide +kernel
theorem dX8_goOdds_104 : decode cX8_goOdds 104 = .ok (.invokestatic 166, 3) := by decide +kernel
theorem dX8_goOdds_107 : decode cX8_goOdds 107 = .ok (.i2l, 1) := by decide +kernel
theorem dX8_goOdds_108 : decode cX8_goOdds 108 = .ok (.lmul, 1) := by decide +kernel
theorem dX8_goOdds_109 : decode cX8_goOdds 109 = .ok (.ladd, 1) := by decide +kernel
theorem dX8_goOdds_110 : decode cX8_goOdds 110 = .ok (.lstore_n 3, 1) := by decide +kernel
theorem dX8_goOdds_111 : decode cX8_goOdds 111 = .ok (.iinc 7 1, 3) := by decide +kernel
theorem dX8_goOdds_114 : decode cX8_goOdds 114 = .ok (.goto (-78), 3) := by decide +kernel
theorem dX8_goOdds_117 : decode cX8_goOdds 117 = .ok (.aload_n 0, 1) := by decide +kernel
theorem dX8_goOdds_118 : decode cX8_goOdds 118 = .ok (.lload_n 3, 1) := by decide +kernel
theorem dX8_goOdds_119 : decode cX8_goOdds 119 = .ok (.lload 5, 2) := by decide +kernel
theorem dX8_goOdds_121 : decode cX8_goOdds 121 = .ok (.invokevirtual 244, 3) := by decide +kernel
theorem dX8_goOdds_124 : decode cX8_goOdds 124 = .ok (.return_, 1) := by decide +kernel
theorem dX8_odds_0 : decode cX8_odds 0 = .ok (.iload_n 1, 1) := by decide +kernel
theorem dX8_odds_1 : decode cX8_odds 1 = .ok (.invokestatic 191, 3) := by decide +kernel
theorem dX8_odds_4 : decode cX8_odds 4 = .ok (.ifCond .eq 15, 3) := by decide +kernel
theorem dX8_odds_7 : decode cX8_odds 7 = .ok (.iload_n 2, 1) := by decide +kernel
theorem dX8_odds_8 : decode cX8_odds 8 = .ok (.i2l, 1) := by decide +kernel
theorem dX8_odds_9 : decode cX8_odds 9 = .ok (.lconst 0, 1) := by decide +kernel
theorem dX8_odds_10 : decode cX8_odds 10 = .ok (.ldc2_w 242, 3) := by decide +kernel
theorem dX8_odds_13 : decode cX8_odds 13 = .ok (.invokestatic 69, 3) := by decide +kernel
theorem dX8_odds_16 : decode cX8_odds 16 = .ok (.ifCond .ne 5, 3) := by decide +kernel
theorem dX8_odds_19 : decode cX8_odds 19 = .ok (.iconst (-1), 1) := by decide +kernel
theorem dX8_odds_20 : decode cX8_odds 20 = .ok (.ireturn, 1) := by decide +kernel
theorem dX8_odds_21 : decode cX8_odds 21 = .ok (.aload_n 0, 1) := by decide +kernel
theorem dX8_odds_22 : decode cX8_odds 22 = .ok (.getfield 7, 3) := by decide +kernel
theorem dX8_odds_25 : decode cX8_odds 25 = .ok (.iconst 0, 1) := by decide +kernel
theorem dX8_odds_26 : decode cX8_odds 26 = .ok (.iaload, 1) := by decide +kernel
theorem dX8_odds_27 : decode cX8_odds 27 = .ok (.ifCond .ne 6, 3) := by decide +kernel
theorem dX8_odds_30 : decode cX8_odds 30 = .ok (.bipush (-4), 2) := by decide +kernel
theorem dX8_odds_32 : decode cX8_odds 32 = .ok (.ireturn, 1) := by decide +kernel
theorem dX8_odds_33 : decode cX8_odds 33 = .ok (.aload_n 0, 1) := by decide +kernel
theorem dX8_odds_34 : decode cX8_odds 34 = .ok (.iconst 1, 1) := by decide +kernel
theorem dX8_odds_35 : decode cX8_odds 35 = .ok (.iload_n 1, 1) := by decide +kernel
theorem dX8_odds_36 : decode cX8_odds 36 = .ok (.ishl, 1) := by decide +kernel
theorem dX8_odds_37 : decode cX8_odds 37 = .ok (.iload_n 2, 1) := by decide +kernel
theorem dX8_odds_38 : decode cX8_odds 38 = .ok (.invokevirtual 248, 3) := by decide +kernel
theorem dX8_odds_41 : decode cX8_odds 41 = .ok (.iconst 1, 1) := by decide +kernel
theorem dX8_odds_42 : decode cX8_odds 42 = .ok (.ireturn, 1) := by decide +kernel
theorem dX8_mid_0 : decode cX8_mid 0 = .ok (.iload_n 1, 1) := by decide +kernel
theorem dX8_mid_1 : decode cX8_mid 1 = .ok (.i2l, 1) := by decide +kernel
theorem dX8_mid_2 : decode cX8_mid 2 = .ok (.lconst 0, 1) := by decide +kernel
theorem dX8_mid_3 : decode cX8_mid 3 = .ok (.ldc2_w 242, 3) := by decide +kernel
theorem dX8_mid_6 : decode cX8_mid 6 = .ok (.invokestatic 69, 3) := by decide +kernel
theorem dX8_mid_9 : decode cX8_mid 9 = .ok (.ifCond .ne 5, 3) := by decide +kernel
theorem dX8_mid_12 : decode cX8_mid 12 = .ok (.iconst (-1), 1) := by decide +kernel
theorem dX8_mid_13 : decode cX8_mid 13 = .ok (.ireturn, 1) := by decide +kernel
theorem dX8_mid_14 : decode cX8_mid 14 = .ok (.aload_n 0, 1) := by decide +kernel
theorem dX8_mid_15 : decode cX8_mid 15 = .ok (.getfield 7, 3) := by decide +kernel
theorem dX8_mid_18 : decode cX8_mid 18 = .ok (.iconst 0, 1) := by decide +kernel
theorem dX8_mid_19 : decode cX8_mid 19 = .ok (.iaload, 1) := by decide +kernel
theorem dX8_mid_20 : decode cX8_mid 20 = .ok (.ifCond .ne 6, 3) := by decide +kernel
theorem dX8_mid_23 : decode cX8_mid 23 = .ok (.bipush (-4), 2) := by decide +kernel
theorem dX8_mid_25 : decode cX8_mid 25 = .ok (.ireturn, 1) := by decide +kernel
theorem dX8_mid_26 : decode cX8_mid 26 = .ok (.aload_n 0, 1) := by decide +kernel
theorem dX8_mid_27 : decode cX8_mid 27 = .ok (.bipush 63, 2) := by decide +kernel
theorem dX8_mid_29 : decode cX8_mid 29 = .ok (.iload_n 1, 1) := by decide +kernel
theorem dX8_mid_30 : decode cX8_mid 30 = .ok (.invokevirtual 248, 3) := by decide +kernel
theorem dX8_mid_33 : decode cX8_mid 33 = .ok (.iconst 1, 1) := by decide +kernel
theorem dX8_mid_34 : decode cX8_mid 34 = .ok (.ireturn, 1) := by decide +kernel
theorem dX8_lots_0 : decode cX8_lots 0 = .ok (.iload_n 1, 1) := by decide +kernel
theorem dX8_lots_1 : decode cX8_lots 1 = .ok (.i2l, 1) := by decide +kernel
theorem dX8_lots_2 : decode cX8_lots 2 = .ok (.lconst 1, 1) := by decide +kernel
theorem dX8_lots_3 : decode cX8_lots 3 = .ok (.ldc2_w 251, 3) := by decide +kernel
theorem dX8_lots_6 : decode cX8_lots 6 = .ok (.invokestatic 69, 3) := by decide +kernel
theorem dX8_lots_9 : decode cX8_lots 9 = .ok (.ifCond .eq 15, 3) := by decide +kernel
theorem dX8_lots_12 : decode cX8_lots 12 = .ok (.iload_n 2, 1) := by decide +kernel
theorem dX8_lots_13 : decode cX8_lots 13 = .ok (.i2l, 1) := by decide +kernel
theorem dX8_lots_14 : decode cX8_lots 14 = .ok (.lconst 1, 1) := by decide +kernel
theorem dX8_lots_15 : decode cX8_lots 15 = .ok (.ldc2_w 253, 3) := by decide +kernel
theorem dX8_lots_18 : decode cX8_lots 18 = .ok (.invokestatic 69, 3) := by decide +kernel
theorem dX8_lots_21 : decode cX8_lots 21 = .ok (.ifCond .ne 5, 3) := by decide +kernel
theorem dX8_lots_24 : decode cX8_lots 24 = .ok (.iconst (-1), 1) := by decide +kernel
theorem dX8_lots_25 : decode cX8_lots 25 = .ok (.ireturn, 1) := by decide +kernel
theorem dX8_lots_26 : decode cX8_lots 26 = .ok (.aload_n 0, 1) := by decide +kernel
theorem dX8_lots_27 : decode cX8_lots 27 = .ok (.getfield 7, 3) := by decide +kernel
theorem dX8_lots_30 : decode cX8_lots 30 = .ok (.iconst 0, 1) := by decide +kernel
theorem dX8_lots_31 : decode cX8_lots 31 = .ok (.iaload, 1) := by decide +kernel
theorem dX8_lots_32 : decode cX8_lots 32 = .ok (.ifCond .ne 6, 3) := by decide +kernel
theorem dX8_lots_35 : decode cX8_lots 35 = .ok (.bipush (-4), 2) := by decide +kernel
theorem dX8_lots_37 : decode cX8_lots 37 = .ok (.ireturn, 1) := by decide +kernel
theorem dX8_lots_38 : decode cX8_lots 38 = .ok (.aload_n 0, 1) := by decide +kernel
theorem dX8_lots_39 : decode cX8_lots 39 = .ok (.getfield 7, 3) := by decide +kernel
theorem dX8_lots_42 : decode cX8_lots 42 = .ok (.bipush 26, 2) := by decide +kernel
theorem dX8_lots_44 : decode cX8_lots 44 = .ok (.iaload, 1) := by decide +kernel
theorem dX8_lots_45 : decode cX8_lots 45 = .ok (.iload_n 1, 1) := by decide +kernel
theorem dX8_lots_46 : decode cX8_lots 46 = .ok (.iadd, 1) := by decide +kernel
theorem dX8_lots_47 : decode cX8_lots 47 = .ok (.bipush 40, 2) := by decide +kernel
theorem dX8_lots_49 : decode cX8_lots 49 = .ok (.if_icmp .le 6, 3) := by decide +kernel
theorem dX8_lots_52 : decode cX8_lots 52 = .ok (.bipush (-2), 2) := by decide +kernel
theorem dX8_lots_54 : decode cX8_lots 54 = .ok (.ireturn, 1) := by decide +kernel
theorem dX8_lots_55 : decode cX8_lots 55 = .ok (.iload_n 2, 1) := by decide +kernel
theorem dX8_lots_56 : decode cX8_lots 56 = .ok (.i2l, 1) := by decide +kernel
theorem dX8_lots_57 : decode cX8_lots 57 = .ok (.lstore_n 3, 1) := by decide +kernel
theorem dX8_lots_58 : decode cX8_lots 58 = .ok (.iconst 0, 1) := by decide +kernel
theorem dX8_lots_59 : decode cX8_lots 59 = .ok (.istore 5, 2) := by decide +kernel
theorem dX8_lots_61 : decode cX8_lots 61 = .ok (.iload 5, 2) := by decide +kernel
theorem dX8_lots_63 : decode cX8_lots 63 = .ok (.iload_n 1, 1) := by decide +kernel
theorem dX8_lots_64 : decode cX8_lots 64 = .ok (.if_icmp .ge 103, 3) := by decide +kernel
theorem dX8_lots_67 : decode cX8_lots 67 = .ok (.lload_n 3, 1) := by decide +kernel
theorem dX8_lots_68 : decode cX8_lots 68 = .ok (.ldc2_w 255, 3) := by decide +kernel
theorem dX8_lots_71 : decode cX8_lots 71 = .ok (.lmul, 1) := by decide +kernel
theorem dX8_lots_72 : decode cX8_lots 72 = .ok (.ldc2_w 257, 3) := by decide +kernel
theorem dX8_lots_75 : decode cX8_lots 75 = .ok (.lrem, 1) := by decide +kernel
theorem dX8_lots_76 : decode cX8_lots 76 = .ok (.lstore_n 3, 1) := by decide +kernel
theorem dX8_lots_77 : decode cX8_lots 77 = .ok (.lload_n 3, 1) := by decide +kernel
theorem dX8_lots_78 : decode cX8_lots 78 = .ok (.ldc2_w 259, 3) := by decide +kernel
theorem dX8_lots_81 : decode cX8_lots 81 = .ok (.ldiv, 1) := by decide +kernel
theorem dX8_lots_82 : decode cX8_lots 82 = .ok (.ldc2_w 259, 3) := by decide +kernel
theorem dX8_lots_85 : decode cX8_lots 85 = .ok (.lrem, 1) := by decide +kernel
theorem dX8_lots_86 : decode cX8_lots 86 = .ok (.l2i, 1) := by decide +kernel
theorem dX8_lots_87 : decode cX8_lots 87 = .ok (.istore 6, 2) := by decide +kernel
theorem dX8_lots_89 : decode cX8_lots 89 = .ok (.iload 6, 2) := by decide +kernel
theorem dX8_lots_91 : decode cX8_lots 91 = .ok (.iconst 4, 1) := by decide +kernel
theorem dX8_lots_92 : decode cX8_lots 92 = .ok (.if_icmp .ge 8, 3) := by decide +kernel
theorem dX8_lots_95 : decode cX8_lots 95 = .ok (.bipush 10, 2) := by decide +kernel
theorem dX8_lots_97 : decode cX8_lots 97 = .ok (.goto 29, 3) := by decide +kernel
theorem dX8_lots_100 : decode cX8_lots 100 = .ok (.iload 6, 2) := by decide +kernel
theorem dX8_lots_102 : decode cX8_lots 102 = .ok (.bipush 6, 2) := by decide +kernel
theorem dX8_lots_104 : decode cX8_lots 104 = .ok (.if_icmp .ge 8, 3) := by decide +kernel
theorem dX8_lots_107 : decode cX8_lots 107 = .ok (.bipush 20, 2) := by decide +kernel
theorem dX8_lots_109 : decode cX8_lots 109 = .ok (.goto 17, 3) := by decide +kernel
theorem dX8_lots_112 : decode cX8_lots 112 = .ok (.iload 6, 2) := by decide +kernel
theorem dX8_lots_114 : decode cX8_lots 114 = .ok (.bipush 6, 2) := by decide +kernel
theorem dX8_lots_116 : decode cX8_lots 116 = .ok (.if_icmp .ne 8, 3) := by decide +kernel
theorem dX8_lots_119 : decode cX8_lots 119 = .ok (.bipush 30, 2) := by decide +kernel
theorem dX8_lots_121 : decode cX8_lots 121 = .ok (.goto 5, 3) := by decide +kernel
theorem dX8_lots_124 : decode cX8_lots 124 = .ok (.bipush 40, 2) := by decide +kernel
theorem dX8_lots_126 : decode cX8_lots 126 = .ok (.lload_n 3, 1) := by decide +kernel
theorem dX8_lots_127 : decode cX8_lots 127 = .ok (.aload_n 0, 1) := by decide +kernel
theorem dX8_lots_128 : decode cX8_lots 128 = .ok (.getfield 7, 3) := by decide +kernel
theorem dX8_lots_131 : decode cX8_lots 131 = .ok (.iconst 0, 1) := by decide +kernel
theorem dX8_lots_132 : decode cX8_lots 132 = .ok (.iaload, 1) := by decide +kernel
theorem dX8_lots_133 : decode cX8_lots 133 = .ok (.i2l, 1) := by decide +kernel
theorem dX8_lots_134 : decode cX8_lots 134 = .ok (.lrem, 1) := by decide +kernel
theorem dX8_lots_135 : decode cX8_lots 135 = .ok (.l2i, 1) := by decide +kernel
theorem dX8_lots_136 : decode cX8_lots 136 = .ok (.iadd, 1) := by decide +kernel
theorem dX8_lots_137 : decode cX8_lots 137 = .ok (.istore 7, 2) := by decide +kernel
theorem dX8_lots_139 : decode cX8_lots 139 = .ok (.aload_n 0, 1) := by decide +kernel
theorem dX8_lots_140 : decode cX8_lots 140 = .ok (.aload_n 0, 1) := by decide +kernel
theorem dX8_lots_141 : decode cX8_lots 141 = .ok (.getfield 7, 3) := by decide +kernel
theorem dX8_lots_144 : decode cX8_lots 144 = .ok (.iload 7, 2) := by decide +kernel
theorem dX8_lots_146 : decode cX8_lots 146 = .ok (.invokestatic 176, 3) := by decide +kernel
theorem dX8_lots_149 : decode cX8_lots 149 = .ok (.ifCond .eq 8, 3) := by decide +kernel
theorem dX8_lots_152 : decode cX8_lots 152 = .ok (.iload 7, 2) := by decide +kernel
theorem dX8_lots_154 : decode cX8_lots 154 = .ok (.goto 4, 3) := by decide +kernel
theorem dX8_lots_157 : decode cX8_lots 157 = .ok (.iconst 0, 1) := by decide +kernel
theorem dX8_lots_158 : decode cX8_lots 158 = .ok (.invokevirtual 180, 3) := by decide +kernel
theorem dX8_lots_161 : decode cX8_lots 161 = .ok (.iinc 5 1, 3) := by decide +kernel
theorem dX8_lots_164 : decode cX8_lots 164 = .ok (.goto (-103), 3) := by decide +kernel
theorem dX8_lots_167 : decode cX8_lots 167 = .ok (.aload_n 0, 1) := by decide +kernel
theorem dX8_lots_168 : decode cX8_lots 168 = .ok (.aload_n 0, 1) := by decide +kernel
theorem dX8_lots_169 : decode cX8_lots 169 = .ok (.invokevirtual 194, 3) := by decide +kernel
theorem dX8_lots_172 : decode cX8_lots 172 = .ok (.invokevirtual 198, 3) := by decide +kernel
theorem dX8_lots_175 : decode cX8_lots 175 = .ok (.invokestatic 166, 3) := by decide +kernel
theorem dX8_lots_178 : decode cX8_lots 178 = .ok (.ireturn, 1) := by decide +kernel
theorem dX8_asked_0 : decode cX8_asked 0 = .ok (.aload_n 0, 1) := by decide +kernel
theorem dX8_asked_1 : decode cX8_asked 1 = .ok (.getfield 64, 3) := by decide +kernel
theorem dX8_asked_4 : decode cX8_asked 4 = .ok (.ireturn, 1) := by decide +kernel
theorem dX8_upper_0 : decode cX8_upper 0 = .ok (.aload_n 0, 1) := by decide +kernel
theorem dX8_upper_1 : decode cX8_upper 1 = .ok (.getfield 228, 3) := by decide +kernel
theorem dX8_upper_4 : decode cX8_upper 4 = .ok (.lreturn, 1) := by decide +kernel
theorem dX8_lower_0 : decode cX8_lower 0 = .ok (.aload_n 0, 1) := by decide +kernel
theorem dX8_lower_1 : decode cX8_lower 1 = .ok (.getfield 35, 3) := by decide +kernel
theorem dX8_lower_4 : decode cX8_lower 4 = .ok (.lreturn, 1) := by decide +kernel
theorem dX8_manyThere_0 : decode cX8_manyThere 0 = .ok (.iconst 0, 1) := by decide +kernel
theorem dX8_manyThere_1 : decode cX8_manyThere 1 = .ok (.istore_n 2, 1) := by decide +kernel
theorem dX8_manyThere_2 : decode cX8_manyThere 2 = .ok (.iconst 0, 1) := by decide +kernel
theorem dX8_manyThere_3 : decode cX8_manyThere 3 = .ok (.istore_n 3, 1) := by decide +kernel
theorem dX8_manyThere_4 : decode cX8_manyThere 4 = .ok (.iload_n 3, 1) := by decide +kernel
theorem dX8_manyThere_5 : decode cX8_manyThere 5 = .ok (.iload_n 1, 1) := by decide +kernel
theorem dX8_manyThere_6 : decode cX8_manyThere 6 = .ok (.if_icmp .ge 23, 3) := by decide +kernel
theorem dX8_manyThere_9 : decode cX8_manyThere 9 = .ok (.iload_n 2, 1) := by decide +kernel
theorem dX8_manyThere_10 : decode cX8_manyThere 10 = .ok (.aload_n 0, 1) := by decide +kernel
theorem dX8_manyThere_11 : decode cX8_manyThere 11 = .ok (.iload_n 3, 1) := by decide +kernel
theorem dX8_manyThere_12 : decode cX8_manyThere 12 = .ok (.iaload, 1) := by decide +kernel
theorem dX8_manyThere_13 : decode cX8_manyThere 13 = .ok (.ifCond .ge 7, 3) := by decide +kernel
theorem dX8_manyThere_16 : decode cX8_manyThere 16 = .ok (.iconst 0, 1) := by decide +kernel
theorem dX8_manyThere_17 : decode cX8_manyThere 17 = .ok (.goto 4, 3) := by decide +kernel
theorem dX8_manyThere_20 : decode cX8_manyThere 20 = .ok (.iconst 1, 1) := by decide +kernel
theorem dX8_manyThere_21 : decode cX8_manyThere 21 = .ok (.iadd, 1) := by decide +kernel
theorem dX8_manyThere_22 : decode cX8_manyThere 22 = .ok (.istore_n 2, 1) := by decide +kernel
theorem dX8_manyThere_23 : decode cX8_manyThere 23 = .ok (.iinc 3 1, 3) := by decide +kernel
theorem dX8_manyThere_26 : decode cX8_manyThere 26 = .ok (.goto (-22), 3) := by decide +kernel
theorem dX8_manyThere_29 : decode cX8_manyThere 29 = .ok (.iload_n 2, 1) := by decide +kernel
theorem dX8_manyThere_30 : decode cX8_manyThere 30 = .ok (.ireturn, 1) := by decide +kernel
theorem dX8_manyOf_0 : decode cX8_manyOf 0 = .ok (.iconst 0, 1) := by decide +kernel
theorem dX8_manyOf_1 : decode cX8_manyOf 1 = .ok (.istore_n 2, 1) := by decide +kernel
theorem dX8_manyOf_2 : decode cX8_manyOf 2 = .ok (.iconst 0, 1) := by decide +kernel
theorem dX8_manyOf_3 : decode cX8_manyOf 3 = .ok (.istore_n 3, 1) := by decide +kernel
theorem dX8_manyOf_4 : decode cX8_manyOf 4 = .ok (.iload_n 3, 1) := by decide +kernel
theorem dX8_manyOf_5 : decode cX8_manyOf 5 = .ok (.aload_n 0, 1) := by decide +kernel
theorem dX8_manyOf_6 : decode cX8_manyOf 6 = .ok (.getfield 7, 3) := by decide +kernel
theorem dX8_manyOf_9 : decode cX8_manyOf 9 = .ok (.iconst 0, 1) := by decide +kernel
theorem dX8_manyOf_10 : decode cX8_manyOf 10 = .ok (.iaload, 1) := by decide +kernel
theorem dX8_manyOf_11 : decode cX8_manyOf 11 = .ok (.if_icmp .ge 32, 3) := by decide +kernel
theorem dX8_manyOf_14 : decode cX8_manyOf 14 = .ok (.iload_n 2, 1) := by decide +kernel
theorem dX8_manyOf_15 : decode cX8_manyOf 15 = .ok (.aload_n 0, 1) := by decide +kernel
theorem dX8_manyOf_16 : decode cX8_manyOf 16 = .ok (.getfield 7, 3) := by decide +kernel
theorem dX8_manyOf_19 : decode cX8_manyOf 19 = .ok (.iconst 2, 1) := by decide +kernel
theorem dX8_manyOf_20 : decode cX8_manyOf 20 = .ok (.iload_n 3, 1) := by decide +kernel
theorem dX8_manyOf_21 : decode cX8_manyOf 21 = .ok (.iadd, 1) := by decide +kernel
theorem dX8_manyOf_22 : decode cX8_manyOf 22 = .ok (.iaload, 1) := by decide +kernel
theorem dX8_manyOf_23 : decode cX8_manyOf 23 = .ok (.iload_n 1, 1) := by decide +kernel
theorem dX8_manyOf_24 : decode cX8_manyOf 24 = .ok (.invokestatic 163, 3) := by decide +kernel
theorem dX8_manyOf_27 : decode cX8_manyOf 27 = .ok (.ifCond .eq 7, 3) := by decide +kernel
theorem dX8_manyOf_30 : decode cX8_manyOf 30 = .ok (.iconst 1, 1) := by decide +kernel
theorem dX8_manyOf_31 : decode cX8_manyOf 31 = .ok (.goto 4, 3) := by decide +kernel
theorem dX8_manyOf_34 : decode cX8_manyOf 34 = .ok (.iconst 0, 1) := by decide +kernel
theorem dX8_manyOf_35 : decode cX8_manyOf 35 = .ok (.iadd, 1) := by decide +kernel
theorem dX8_manyOf_36 : decode cX8_manyOf 36 = .ok (.istore_n 2, 1) := by decide +kernel
theorem dX8_manyOf_37 : decode cX8_manyOf 37 = .ok (.iinc 3 1, 3) := by decide +kernel
theorem dX8_manyOf_40 : decode cX8_manyOf 40 = .ok (.goto (-36), 3) := by decide +kernel
theorem dX8_manyOf_43 : decode cX8_manyOf 43 = .ok (.iload_n 2, 1) := by decide +kernel
theorem dX8_manyOf_44 : decode cX8_manyOf 44 = .ok (.ireturn, 1) := by decide +kernel
theorem dX8_sumOf_0 : decode cX8_sumOf 0 = .ok (.iconst 0, 1) := by decide +kernel
theorem dX8_sumOf_1 : decode cX8_sumOf 1 = .ok (.istore_n 2, 1) := by decide +kernel
theorem dX8_sumOf_2 : decode cX8_sumOf 2 = .ok (.iconst 0, 1) := by decide +kernel
theorem dX8_sumOf_3 : decode cX8_sumOf 3 = .ok (.istore_n 3, 1) := by decide +kernel
theorem dX8_sumOf_4 : decode cX8_sumOf 4 = .ok (.iload_n 3, 1) := by decide +kernel
theorem dX8_sumOf_5 : decode cX8_sumOf 5 = .ok (.aload_n 0, 1) := by decide +kernel
theorem dX8_sumOf_6 : decode cX8_sumOf 6 = .ok (.getfield 7, 3) := by decide +kernel
theorem dX8_sumOf_9 : decode cX8_sumOf 9 = .ok (.iconst 0, 1) := by decide +kernel
theorem dX8_sumOf_10 : decode cX8_sumOf 10 = .ok (.iaload, 1) := by decide +kernel
theorem dX8_sumOf_11 : decode cX8_sumOf 11 = .ok (.if_icmp .ge 20, 3) := by decide +kernel
theorem dX8_sumOf_14 : decode cX8_sumOf 14 = .ok (.iload_n 2, 1) := by decide +kernel
theorem dX8_sumOf_15 : decode cX8_sumOf 15 = .ok (.aload_n 0, 1) := by decide +kernel
theorem dX8_sumOf_16 : decode cX8_sumOf 16 = .ok (.getfield 7, 3) := by decide +kernel
theorem dX8_sumOf_19 : decode cX8_sumOf 19 = .ok (.iload_n 1, 1) := by decide +kernel
theorem dX8_sumOf_20 : decode cX8_sumOf 20 = .ok (.iload_n 3, 1) := by decide +kernel
theorem dX8_sumOf_21 : decode cX8_sumOf 21 = .ok (.iadd, 1) := by decide +kernel
theorem dX8_sumOf_22 : decode cX8_sumOf 22 = .ok (.iaload, 1) := by decide +kernel
theorem dX8_sumOf_23 : decode cX8_sumOf 23 = .ok (.iadd, 1) := by decide +kernel
theorem dX8_sumOf_24 : decode cX8_sumOf 24 = .ok (.istore_n 2, 1) := by decide +kernel
theorem dX8_sumOf_25 : decode cX8_sumOf 25 = .ok (.iinc 3 1, 3) := by decide +kernel
theorem dX8_sumOf_28 : decode cX8_sumOf 28 = .ok (.goto (-24), 3) := by decide +kernel
theorem dX8_sumOf_31 : decode cX8_sumOf 31 = .ok (.iload_n 2, 1) := by decide +kernel
theorem dX8_sumOf_32 : decode cX8_sumOf 32 = .ok (.ireturn, 1) := by decide +kernel
theorem dX8_counted_0 : decode cX8_counted 0 = .ok (.iload_n 1, 1) := by decide +kernel
theorem dX8_counted_1 : decode cX8_counted 1 = .ok (.tableswitch 156 0 10 #[59, 66, 86, 94, 102, 111, 118, 125, 131, 137, 147], 59) := by decide +kernel
theorem dX8_counted_60 : decode cX8_counted 60 = .ok (.aload_n 0, 1) := by decide +kernel
theorem dX8_counted_61 : decode cX8_counted 61 = .ok (.getfield 7, 3) := by decide +kernel
theorem dX8_counted_64 : decode cX8_counted 64 = .ok (.iconst 0, 1) := by decide +kernel
theorem dX8_counted_65 : decode cX8_counted 65 = .ok (.iaload, 1) := by decide +kernel
theorem dX8_counted_66 : decode cX8_counted 66 = .ok (.ireturn, 1) := by decide +kernel
theorem dX8_counted_67 : decode cX8_counted 67 = .ok (.aload_n 0, 1) := by decide +kernel
theorem dX8_counted_68 : decode cX8_counted 68 = .ok (.getfield 7, 3) := by decide +kernel
theorem dX8_counted_71 : decode cX8_counted 71 = .ok (.iconst 0, 1) := by decide +kernel
theorem dX8_counted_72 : decode cX8_counted 72 = .ok (.iaload, 1) := by decide +kernel
theorem dX8_counted_73 : decode cX8_counted 73 = .ok (.ifCond .ne 7, 3) := by decide +kernel
theorem dX8_counted_76 : decode cX8_counted 76 = .ok (.iconst 0, 1) := by decide +kernel
theorem dX8_counted_77 : decode cX8_counted 77 = .ok (.goto 9, 3) := by decide +kernel
theorem dX8_counted_80 : decode cX8_counted 80 = .ok (.aload_n 0, 1) := by decide +kernel
theorem dX8_counted_81 : decode cX8_counted 81 = .ok (.getfield 7, 3) := by decide +kernel
theorem dX8_counted_84 : decode cX8_counted 84 = .ok (.iconst 1, 1) := by decide +kernel
theorem dX8_counted_85 : decode cX8_counted 85 = .ok (.iaload, 1) := by decide +kernel
theorem dX8_counted_86 : decode cX8_counted 86 = .ok (.ireturn, 1) := by decide +kernel
theorem dX8_counted_87 : decode cX8_counted 87 = .ok (.aload_n 0, 1) := by decide +kernel
theorem dX8_counted_88 : decode cX8_counted 88 = .ok (.getfield 7, 3) := by decide +kernel
theorem dX8_counted_91 : decode cX8_counted 91 = .ok (.bipush 26, 2) := by decide +kernel
theorem dX8_counted_93 : decode cX8_counted 93 = .ok (.iaload, 1) := by decide +kernel
theorem dX8_counted_94 : decode cX8_counted 94 = .ok (.ireturn, 1) := by decide +kernel
theorem dX8_counted_95 : decode cX8_counted 95 = .ok (.aload_n 0, 1) := by decide +kernel
theorem dX8_counted_96 : decode cX8_counted 96 = .ok (.getfield 7, 3) := by decide +kernel
theorem dX8_counted_99 : decode cX8_counted 99 = .ok (.bipush 79, 2) := by decide +kernel
theorem dX8_counted_101 : decode cX8_counted 101 = .ok (.iaload, 1) := by decide +kernel
theorem dX8_counted_102 : decode cX8_counted 102 = .ok (.ireturn, 1) := by decide +kernel
theorem dX8_counted_103 : decode cX8_counted 103 = .ok (.aload_n 0, 1) := by decide +kernel
theorem dX8_counted_104 : decode cX8_counted 104 = .ok (.aload_n 0, 1) := by decide +kernel
theorem dX8_counted_105 : decode cX8_counted 105 = .ok (.invokevirtual 194, 3) := by decide +kernel
theorem dX8_counted_108 : decode cX8_counted 108 = .ok (.invokevirtual 198, 3) := by decide +kernel
theorem dX8_counted_111 : decode cX8_counted 111 = .ok (.ireturn, 1) := by decide +kernel
theorem dX8_counted_112 : decode cX8_counted 112 = .ok (.aload_n 0, 1) := by decide +kernel
theorem dX8_counted_113 : decode cX8_counted 113 = .ok (.bipush 73, 2) := by decide +kernel
theorem dX8_counted_115 : decode cX8_counted 115 = .ok (.invokevirtual 261, 3) := by decide +kernel
theorem dX8_counted_118 : decode cX8_counted 118 = .ok (.ireturn, 1) := by decide +kernel
theorem dX8_counted_119 : decode cX8_counted 119 = .ok (.aload_n 0, 1) := by decide +kernel
theorem dX8_counted_120 : decode cX8_counted 120 = .ok (.bipush 67, 2) := by decide +kernel
theorem dX8_counted_122 : decode cX8_counted 122 = .ok (.invokevirtual 261, 3) := by decide +kernel
theorem dX8_counted_125 : decode cX8_counted 125 = .ok (.ireturn, 1) := by decide +kernel
theorem dX8_counted_126 : decode cX8_counted 126 = .ok (.aload_n 0, 1) := by decide +kernel
theorem dX8_counted_127 : decode cX8_counted 127 = .ok (.iconst 1, 1) := by decide +kernel
theorem dX8_counted_128 : decode cX8_counted 128 = .ok (.invokevirtual 264, 3) := by decide +kernel
theorem dX8_counted_131 : decode cX8_counted 131 = .ok (.ireturn, 1) := by decide +kernel
theorem dX8_counted_132 : decode cX8_counted 132 = .ok (.aload_n 0, 1) := by decide +kernel
theorem dX8_counted_133 : decode cX8_counted 133 = .ok (.iconst 3, 1) := by decide +kernel
theorem dX8_counted_134 : decode cX8_counted 134 = .ok (.invokevirtual 264, 3) := by decide +kernel
theorem dX8_counted_137 : decode cX8_counted 137 = .ok (.ireturn, 1) := by decide +kernel
theorem dX8_counted_138 : decode cX8_counted 138 = .ok (.aload_n 0, 1) := by decide +kernel
theorem dX8_counted_139 : decode cX8_counted 139 = .ok (.getfield 23, 3) := by decide +kernel
theorem dX8_counted_142 : decode cX8_counted 142 = .ok (.bipush 6, 2) := by decide +kernel
theorem dX8_counted_144 : decode cX8_counted 144 = .ok (.invokestatic 267, 3) := by decide +kernel
theorem dX8_counted_147 : decode cX8_counted 147 = .ok (.ireturn, 1) := by decide +kernel
theorem dX8_counted_148 : decode cX8_counted 148 = .ok (.aload_n 0, 1) := by decide +kernel
theorem dX8_counted_149 : decode cX8_counted 149 = .ok (.getfield 29, 3) := by decide +kernel
theorem dX8_counted_152 : decode cX8_counted 152 = .ok (.iconst 4, 1) := by decide +kernel
theorem dX8_counted_153 : decode cX8_counted 153 = .ok (.invokestatic 267, 3) := by decide +kernel
theorem dX8_counted_156 : decode cX8_counted 156 = .ok (.ireturn, 1) := by decide +kernel
theorem dX8_counted_157 : decode cX8_counted 157 = .ok (.aload_n 0, 1) := by decide +kernel
theorem dX8_counted_158 : decode cX8_counted 158 = .ok (.getfield 16, 3) := by decide +kernel
theorem dX8_counted_161 : decode cX8_counted 161 = .ok (.iconst 0, 1) := by decide +kernel
theorem dX8_counted_162 : decode cX8_counted 162 = .ok (.baload, 1) := by decide +kernel
theorem dX8_counted_163 : decode cX8_counted 163 = .ok (.ifCond .eq 7, 3) := by decide +kernel
theorem dX8_counted_166 : decode cX8_counted 166 = .ok (.iconst 1, 1) := by decide +kernel
theorem dX8_counted_167 : decode cX8_counted 167 = .ok (.goto 4, 3) := by decide +kernel
theorem dX8_counted_170 : decode cX8_counted 170 = .ok (.iconst 0, 1) := by decide +kernel
theorem dX8_counted_171 : decode cX8_counted 171 = .ok (.aload_n 0, 1) := by decide +kernel
theorem dX8_counted_172 : decode cX8_counted 172 = .ok (.getfield 16, 3) := by decide +kernel
theorem dX8_counted_175 : decode cX8_counted 175 = .ok (.iconst 1, 1) := by decide +kernel
theorem dX8_counted_176 : decode cX8_counted 176 = .ok (.baload, 1) := by decide +kernel
theorem dX8_counted_177 : decode cX8_counted 177 = .ok (.ifCond .eq 7, 3) := by decide +kernel
theorem dX8_counted_180 : decode cX8_counted 180 = .ok (.iconst 1, 1) := by decide +kernel
theorem dX8_counted_181 : decode cX8_counted 181 = .ok (.goto 4, 3) := by decide +kernel
theorem dX8_counted_184 : decode cX8_counted 184 = .ok (.iconst 0, 1) := by decide +kernel
theorem dX8_counted_185 : decode cX8_counted 185 = .ok (.iadd, 1) := by decide +kernel
theorem dX8_counted_186 : decode cX8_counted 186 = .ok (.aload_n 0, 1) := by decide +kernel
theorem dX8_counted_187 : decode cX8_counted 187 = .ok (.getfield 16, 3) := by decide +kernel
theorem dX8_counted_190 : decode cX8_counted 190 = .ok (.iconst 2, 1) := by decide +kernel
theorem dX8_counted_191 : decode cX8_counted 191 = .ok (.baload, 1) := by decide +kernel
theorem dX8_counted_192 : decode cX8_counted 192 = .ok (.ifCond .eq 7, 3) := by decide +kernel
theorem dX8_counted_195 : decode cX8_counted 195 = .ok (.iconst 1, 1) := by decide +kernel
theorem dX8_counted_196 : decode cX8_counted 196 = .ok (.goto 4, 3) := by decide +kernel
theorem dX8_counted_199 : decode cX8_counted 199 = .ok (.iconst 0, 1) := by decide +kernel
theorem dX8_counted_200 : decode cX8_counted 200 = .ok (.iadd, 1) := by decide +kernel
theorem dX8_counted_201 : decode cX8_counted 201 = .ok (.ireturn, 1) := by decide +kernel
theorem dX8_count_0 : decode cX8_count 0 = .ok (.iload_n 1, 1) := by decide +kernel
theorem dX8_count_1 : decode cX8_count 1 = .ok (.i2l, 1) := by decide +kernel
theorem dX8_count_2 : decode cX8_count 2 = .ok (.lconst 0, 1) := by decide +kernel
theorem dX8_count_3 : decode cX8_count 3 = .ok (.ldc2_w 271, 3) := by decide +kernel
theorem dX8_count_6 : decode cX8_count 6 = .ok (.invokestatic 69, 3) := by decide +kernel
theorem dX8_count_9 : decode cX8_count 9 = .ok (.ifCond .eq 11, 3) := by decide +kernel
theorem dX8_count_12 : decode cX8_count 12 = .ok (.aload_n 0, 1) := by decide +kernel
theorem dX8_count_13 : decode cX8_count 13 = .ok (.iload_n 1, 1) := by decide +kernel
theorem dX8_count_14 : decode cX8_count 14 = .ok (.invokevirtual 273, 3) := by decide +kernel
theorem dX8_count_17 : decode cX8_count 17 = .ok (.goto 4, 3) := by decide +kernel
theorem dX8_count_20 : decode cX8_count 20 = .ok (.iconst (-1), 1) := by decide +kernel
theorem dX8_count_21 : decode cX8_count 21 = .ok (.ireturn, 1) := by decide +kernel
theorem dX8_finding_0 : decode cX8_finding 0 = .ok (.aload_n 0, 1) := by decide +kernel
theorem dX8_finding_1 : decode cX8_finding 1 = .ok (.getfield 60, 3) := by decide +kernel
theorem dX8_finding_4 : decode cX8_finding 4 = .ok (.ireturn, 1) := by decide +kernel
theorem dX8_findings_0 : decode cX8_findings 0 = .ok (.iload_n 1, 1) := by decide +kernel
theorem dX8_findings_1 : decode cX8_findings 1 = .ok (.i2l, 1) := by decide +kernel
theorem dX8_findings_2 : decode cX8_findings 2 = .ok (.lconst 1, 1) := by decide +kernel
theorem dX8_findings_3 : decode cX8_findings 3 = .ok (.ldc2_w 67, 3) := by decide +kernel
theorem dX8_findings_6 : decode cX8_findings 6 = .ok (.invokestatic 69, 3) := by decide +kernel
theorem dX8_findings_9 : decode cX8_findings 9 = .ok (.ifCond .eq 12, 3) := by decide +kernel
theorem dX8_findings_12 : decode cX8_findings 12 = .ok (.aload_n 0, 1) := by decide +kernel
theorem dX8_findings_13 : decode cX8_findings 13 = .ok (.getfield 32, 3) := by decide +kernel
theorem dX8_findings_16 : decode cX8_findings 16 = .ok (.iload_n 1, 1) := by decide +kernel
theorem dX8_findings_17 : decode cX8_findings 17 = .ok (.iaload, 1) := by decide +kernel
theorem dX8_findings_18 : decode cX8_findings 18 = .ok (.goto 4, 3) := by decide +kernel
theorem dX8_findings_21 : decode cX8_findings 21 = .ok (.iconst (-1), 1) := by decide +kernel
theorem dX8_findings_22 : decode cX8_findings 22 = .ok (.ireturn, 1) := by decide +kernel
theorem dX8_digest_0 : decode cX8_digest 0 = .ok (.ldc2_w 276, 3) := by decide +kernel
theorem dX8_digest_3 : decode cX8_digest 3 = .ok (.lstore_n 1, 1) := by decide +kernel
theorem dX8_digest_4 : decode cX8_digest 4 = .ok (.iconst 0, 1) := by decide +kernel
theorem dX8_digest_5 : decode cX8_digest 5 = .ok (.istore_n 3, 1) := by decide +kernel
theorem dX8_digest_6 : decode cX8_digest 6 = .ok (.iload_n 3, 1) := by decide +kernel
theorem dX8_digest_7 : decode cX8_digest 7 = .ok (.bipush 12, 2) := by decide +kernel
theorem dX8_digest_9 : decode cX8_digest 9 = .ok (.if_icmp .ge 22, 3) := by decide +kernel
theorem dX8_digest_12 : decode cX8_digest 12 = .ok (.ldc2_w 278, 3) := by decide +kernel
theorem dX8_digest_15 : decode cX8_digest 15 = .ok (.lload_n 1, 1) := by decide +kernel
theorem dX8_digest_16 : decode cX8_digest 16 = .ok (.lmul, 1) := by decide +kernel
theorem dX8_digest_17 : decode cX8_digest 17 = .ok (.aload_n 0, 1) := by decide +kernel
theorem dX8_digest_18 : decode cX8_digest 18 = .ok (.iload_n 3, 1) := by decide +kernel
theorem dX8_digest_19 : decode cX8_digest 19 = .ok (.invokevirtual 273, 3) := by decide +kernel
theorem dX8_digest_22 : decode cX8_digest 22 = .ok (.i2l, 1) := by decide +kernel
theorem dX8_digest_23 : decode cX8_digest 23 = .ok (.ladd, 1) := by decide +kernel
theorem dX8_digest_24 : decode cX8_digest 24 = .ok (.lstore_n 1, 1) := by decide +kernel
theorem dX8_digest_25 : decode cX8_digest 25 = .ok (.iinc 3 1, 3) := by decide +kernel
theorem dX8_digest_28 : decode cX8_digest 28 = .ok (.goto (-22), 3) := by decide +kernel
theorem dX8_digest_31 : decode cX8_digest 31 = .ok (.iconst 0, 1) := by decide +kernel
theorem dX8_digest_32 : decode cX8_digest 32 = .ok (.istore_n 3, 1) := by decide +kernel
theorem dX8_digest_33 : decode cX8_digest 33 = .ok (.iload_n 3, 1) := by decide +kernel
theorem dX8_digest_34 : decode cX8_digest 34 = .ok (.aload_n 0, 1) := by decide +kernel
theorem dX8_digest_35 : decode cX8_digest 35 = .ok (.getfield 7, 3) := by decide +kernel
theorem dX8_digest_38 : decode cX8_digest 38 = .ok (.iconst 0, 1) := by decide +kernel
theorem dX8_digest_39 : decode cX8_digest 39 = .ok (.iaload, 1) := by decide +kernel
theorem dX8_digest_40 : decode cX8_digest 40 = .ok (.if_icmp .ge 71, 3) := by decide +kernel
theorem dX8_digest_43 : decode cX8_digest 43 = .ok (.iconst 0, 1) := by decide +kernel
theorem dX8_digest_44 : decode cX8_digest 44 = .ok (.istore 4, 2) := by decide +kernel
theorem dX8_digest_46 : decode cX8_digest 46 = .ok (.iload 4, 2) := by decide +kernel
theorem dX8_digest_48 : decode cX8_digest 48 = .ok (.bipush 6, 2) := by decide +kernel
theorem dX8_digest_50 : decode cX8_digest 50 = .ok (.if_icmp .ge 24, 3) := by decide +kernel
theorem dX8_digest_53 : decode cX8_digest 53 = .ok (.ldc2_w 278, 3) := by decide +kernel
theorem dX8_digest_56 : decode cX8_digest 56 = .ok (.lload_n 1, 1) := by decide +kernel
theorem dX8_digest_57 : decode cX8_digest 57 = .ok (.lmul, 1) := by decide +kernel
theorem dX8_digest_58 : decode cX8_digest 58 = .ok (.aload_n 0, 1) := by decide +kernel
theorem dX8_digest_59 : decode cX8_digest 59 = .ok (.iload_n 3, 1) := by decide +kernel
theorem dX8_digest_60 : decode cX8_digest 60 = .ok (.iload 4, 2) := by decide +kernel
theorem dX8_digest_62 : decode cX8_digest 62 = .ok (.invokevirtual 160, 3) := by decide +kernel
theorem dX8_digest_65 : decode cX8_digest 65 = .ok (.i2l, 1) := by decide +kernel
theorem dX8_digest_66 : decode cX8_digest 66 = .ok (.ladd, 1) := by decide +kernel
theorem dX8_digest_67 : decode cX8_digest 67 = .ok (.lstore_n 1, 1) := by decide +kernel
theorem dX8_digest_68 : decode cX8_digest 68 = .ok (.iinc 4 1, 3) := by decide +kernel
theorem dX8_digest_71 : decode cX8_digest 71 = .ok (.goto (-25), 3) := by decide +kernel
theorem dX8_digest_74 : decode cX8_digest 74 = .ok (.iconst 0, 1) := by decide +kernel
theorem dX8_digest_75 : decode cX8_digest 75 = .ok (.istore 4, 2) := by decide +kernel
theorem dX8_digest_77 : decode cX8_digest 77 = .ok (.iload 4, 2) := by decide +kernel
theorem dX8_digest_79 : decode cX8_digest 79 = .ok (.bipush 6, 2) := by decide +kernel
theorem dX8_digest_81 : decode cX8_digest 81 = .ok (.if_icmp .ge 24, 3) := by decide +kernel
theorem dX8_digest_84 : decode cX8_digest 84 = .ok (.ldc2_w 278, 3) := by decide +kernel
theorem dX8_digest_87 : decode cX8_digest 87 = .ok (.lload_n 1, 1) := by decide +kernel
theorem dX8_digest_88 : decode cX8_digest 88 = .ok (.lmul, 1) := by decide +kernel
theorem dX8_digest_89 : decode cX8_digest 89 = .ok (.aload_n 0, 1) := by decide +kernel
theorem dX8_digest_90 : decode cX8_digest 90 = .ok (.iload_n 3, 1) := by decide +kernel
theorem dX8_digest_91 : decode cX8_digest 91 = .ok (.iload 4, 2) := by decide +kernel
theorem dX8_digest_93 : decode cX8_digest 93 = .ok (.invokevirtual 147, 3) := by decide +kernel
theorem dX8_digest_96 : decode cX8_digest 96 = .ok (.i2l, 1) := by decide +kernel
theorem dX8_digest_97 : decode cX8_digest 97 = .ok (.ladd, 1) := by decide +kernel
theorem dX8_digest_98 : decode cX8_digest 98 = .ok (.lstore_n 1, 1) := by decide +kernel
theorem dX8_digest_99 : decode cX8_digest 99 = .ok (.iinc 4 1, 3) := by decide +kernel
theorem dX8_digest_102 : decode cX8_digest 102 = .ok (.goto (-25), 3) := by decide +kernel
theorem dX8_digest_105 : decode cX8_digest 105 = .ok (.iinc 3 1, 3) := by decide +kernel
theorem dX8_digest_108 : decode cX8_digest 108 = .ok (.goto (-75), 3) := by decide +kernel
theorem dX8_digest_111 : decode cX8_digest 111 = .ok (.iconst 0, 1) := by decide +kernel
theorem dX8_digest_112 : decode cX8_digest 112 = .ok (.istore_n 3, 1) := by decide +kernel
theorem dX8_digest_113 : decode cX8_digest 113 = .ok (.iload_n 3, 1) := by decide +kernel
theorem dX8_digest_114 : decode cX8_digest 114 = .ok (.iconst 3, 1) := by decide +kernel
theorem dX8_digest_115 : decode cX8_digest 115 = .ok (.if_icmp .ge 42, 3) := by decide +kernel
theorem dX8_digest_118 : decode cX8_digest 118 = .ok (.ldc2_w 278, 3) := by decide +kernel
theorem dX8_digest_121 : decode cX8_digest 121 = .ok (.lload_n 1, 1) := by decide +kernel
theorem dX8_digest_122 : decode cX8_digest 122 = .ok (.lmul, 1) := by decide +kernel
theorem dX8_digest_123 : decode cX8_digest 123 = .ok (.aload_n 0, 1) := by decide +kernel
theorem dX8_digest_124 : decode cX8_digest 124 = .ok (.getfield 16, 3) := by decide +kernel
theorem dX8_digest_127 : decode cX8_digest 127 = .ok (.iload_n 3, 1) := by decide +kernel
theorem dX8_digest_128 : decode cX8_digest 128 = .ok (.baload, 1) := by decide +kernel
theorem dX8_digest_129 : decode cX8_digest 129 = .ok (.ifCond .eq 18, 3) := by decide +kernel
theorem dX8_digest_132 : decode cX8_digest 132 = .ok (.aload_n 0, 1) := by decide +kernel
theorem dX8_digest_133 : decode cX8_digest 133 = .ok (.getfield 13, 3) := by decide +kernel
theorem dX8_digest_136 : decode cX8_digest 136 = .ok (.bipush 80, 2) := by decide +kernel
theorem dX8_digest_138 : decode cX8_digest 138 = .ok (.iload_n 3, 1) := by decide +kernel
theorem dX8_digest_139 : decode cX8_digest 139 = .ok (.imul, 1) := by decide +kernel
theorem dX8_digest_140 : decode cX8_digest 140 = .ok (.bipush 26, 2) := by decide +kernel
theorem dX8_digest_142 : decode cX8_digest 142 = .ok (.iadd, 1) := by decide +kernel
theorem dX8_digest_143 : decode cX8_digest 143 = .ok (.iaload, 1) := by decide +kernel
theorem dX8_digest_144 : decode cX8_digest 144 = .ok (.goto 4, 3) := by decide +kernel
theorem dX8_digest_147 : decode cX8_digest 147 = .ok (.iconst (-1), 1) := by decide +kernel
theorem dX8_digest_148 : decode cX8_digest 148 = .ok (.i2l, 1) := by decide +kernel
theorem dX8_digest_149 : decode cX8_digest 149 = .ok (.ladd, 1) := by decide +kernel
theorem dX8_digest_150 : decode cX8_digest 150 = .ok (.lstore_n 1, 1) := by decide +kernel
theorem dX8_digest_151 : decode cX8_digest 151 = .ok (.iinc 3 1, 3) := by decide +kernel
theorem dX8_digest_154 : decode cX8_digest 154 = .ok (.goto (-41), 3) := by decide +kernel
theorem dX8_digest_157 : decode cX8_digest 157 = .ok (.iconst 0, 1) := by decide +kernel
theorem dX8_digest_158 : decode cX8_digest 158 = .ok (.istore_n 3, 1) := by decide +kernel
theorem dX8_digest_159 : decode cX8_digest 159 = .ok (.iload_n 3, 1) := by decide +kernel
theorem dX8_digest_160 : decode cX8_digest 160 = .ok (.bipush 6, 2) := by decide +kernel
theorem dX8_digest_162 : decode cX8_digest 162 = .ok (.if_icmp .ge 63, 3) := by decide +kernel
theorem dX8_digest_165 : decode cX8_digest 165 = .ok (.ldc2_w 278, 3) := by decide +kernel
theorem dX8_digest_168 : decode cX8_digest 168 = .ok (.lload_n 1, 1) := by decide +kernel
theorem dX8_digest_169 : decode cX8_digest 169 = .ok (.lmul, 1) := by decide +kernel
theorem dX8_digest_170 : decode cX8_digest 170 = .ok (.aload_n 0, 1) := by decide +kernel
theorem dX8_digest_171 : decode cX8_digest 171 = .ok (.getfield 23, 3) := by decide +kernel
theorem dX8_digest_174 : decode cX8_digest 174 = .ok (.iload_n 3, 1) := by decide +kernel
theorem dX8_digest_175 : decode cX8_digest 175 = .ok (.iaload, 1) := by decide +kernel
theorem dX8_digest_176 : decode cX8_digest 176 = .ok (.i2l, 1) := by decide +kernel
theorem dX8_digest_177 : decode cX8_digest 177 = .ok (.ladd, 1) := by decide +kernel
theorem dX8_digest_178 : decode cX8_digest 178 = .ok (.lstore_n 1, 1) := by decide +kernel
theorem dX8_digest_179 : decode cX8_digest 179 = .ok (.iconst 0, 1) := by decide +kernel
theorem dX8_digest_180 : decode cX8_digest 180 = .ok (.istore 4, 2) := by decide +kernel
theorem dX8_digest_182 : decode cX8_digest 182 = .ok (.iload 4, 2) := by decide +kernel
theorem dX8_digest_184 : decode cX8_digest 184 = .ok (.aload_n 0, 1) := by decide +kernel
theorem dX8_digest_185 : decode cX8_digest 185 = .ok (.getfield 23, 3) := by decide +kernel
theorem dX8_digest_188 : decode cX8_digest 188 = .ok (.iload_n 3, 1) := by decide +kernel
theorem dX8_digest_189 : decode cX8_digest 189 = .ok (.iaload, 1) := by decide +kernel
theorem dX8_digest_190 : decode cX8_digest 190 = .ok (.if_icmp .ge 29, 3) := by decide +kernel
theorem dX8_digest_193 : decode cX8_digest 193 = .ok (.ldc2_w 278, 3) := by decide +kernel
theorem dX8_digest_196 : decode cX8_digest 196 = .ok (.lload_n 1, 1) := by decide +kernel
theorem dX8_digest_197 : decode cX8_digest 197 = .ok (.lmul, 1) := by decide +kernel
theorem dX8_digest_198 : decode cX8_digest 198 = .ok (.aload_n 0, 1) := by decide +kernel
theorem dX8_digest_199 : decode cX8_digest 199 = .ok (.getfield 20, 3) := by decide +kernel
theorem dX8_digest_202 : decode cX8_digest 202 = .ok (.bipush 40, 2) := by decide +kernel
theorem dX8_digest_204 : decode cX8_digest 204 = .ok (.iload_n 3, 1) := by decide +kernel
theorem dX8_digest_205 : decode cX8_digest 205 = .ok (.imul, 1) := by decide +kernel
theorem dX8_digest_206 : decode cX8_digest 206 = .ok (.iload 4, 2) := by decide +kernel
theorem dX8_digest_208 : decode cX8_digest 208 = .ok (.iadd, 1) := by decide +kernel
theorem dX8_digest_209 : decode cX8_digest 209 = .ok (.iaload, 1) := by decide +kernel
theorem dX8_digest_210 : decode cX8_digest 210 = .ok (.i2l, 1) := by decide +kernel
theorem dX8_digest_211 : decode cX8_digest 211 = .ok (.ladd, 1) := by decide +kernel
theorem dX8_digest_212 : decode cX8_digest 212 = .ok (.lstore_n 1, 1) := by decide +kernel
theorem dX8_digest_213 : decode cX8_digest 213 = .ok (.iinc 4 1, 3) := by decide +kernel
theorem dX8_digest_216 : decode cX8_digest 216 = .ok (.goto (-34), 3) := by decide +kernel
theorem dX8_digest_219 : decode cX8_digest 219 = .ok (.iinc 3 1, 3) := by decide +kernel
theorem dX8_digest_222 : decode cX8_digest 222 = .ok (.goto (-63), 3) := by decide +kernel
theorem dX8_digest_225 : decode cX8_digest 225 = .ok (.iconst 0, 1) := by decide +kernel
theorem dX8_digest_226 : decode cX8_digest 226 = .ok (.istore_n 3, 1) := by decide +kernel
theorem dX8_digest_227 : decode cX8_digest 227 = .ok (.iload_n 3, 1) := by decide +kernel
theorem dX8_digest_228 : decode cX8_digest 228 = .ok (.iconst 4, 1) := by decide +kernel
theorem dX8_digest_229 : decode cX8_digest 229 = .ok (.if_icmp .ge 63, 3) := by decide +kernel
theorem dX8_digest_232 : decode cX8_digest 232 = .ok (.ldc2_w 278, 3) := by decide +kernel
theorem dX8_digest_235 : decode cX8_digest 235 = .ok (.lload_n 1, 1) := by decide +kernel
theorem dX8_digest_236 : decode cX8_digest 236 = .ok (.lmul, 1) := by decide +kernel
theorem dX8_digest_237 : decode cX8_digest 237 = .ok (.aload_n 0, 1) := by decide +kernel
theorem dX8_digest_238 : decode cX8_digest 238 = .ok (.getfield 29, 3) := by decide +kernel
theorem dX8_digest_241 : decode cX8_digest 241 = .ok (.iload_n 3, 1) := by decide +kernel
theorem dX8_digest_242 : decode cX8_digest 242 = .ok (.iaload, 1) := by decide +kernel
theorem dX8_digest_243 : decode cX8_digest 243 = .ok (.i2l, 1) := by decide +kernel
theorem dX8_digest_244 : decode cX8_digest 244 = .ok (.ladd, 1) := by decide +kernel
theorem dX8_digest_245 : decode cX8_digest 245 = .ok (.lstore_n 1, 1) := by decide +kernel
theorem dX8_digest_246 : decode cX8_digest 246 = .ok (.iconst 0, 1) := by decide +kernel
theorem dX8_digest_247 : decode cX8_digest 247 = .ok (.istore 4, 2) := by decide +kernel
theorem dX8_digest_249 : decode cX8_digest 249 = .ok (.iload 4, 2) := by decide +kernel
theorem dX8_digest_251 : decode cX8_digest 251 = .ok (.aload_n 0, 1) := by decide +kernel
theorem dX8_digest_252 : decode cX8_digest 252 = .ok (.getfield 29, 3) := by decide +kernel
theorem dX8_digest_255 : decode cX8_digest 255 = .ok (.iload_n 3, 1) := by decide +kernel
theorem dX8_digest_256 : decode cX8_digest 256 = .ok (.iaload, 1) := by decide +kernel
theorem dX8_digest_257 : decode cX8_digest 257 = .ok (.if_icmp .ge 29, 3) := by decide +kernel
theorem dX8_digest_260 : decode cX8_digest 260 = .ok (.ldc2_w 278, 3) := by decide +kernel
theorem dX8_digest_263 : decode cX8_digest 263 = .ok (.lload_n 1, 1) := by decide +kernel
theorem dX8_digest_264 : decode cX8_digest 264 = .ok (.lmul, 1) := by decide +kernel
theorem dX8_digest_265 : decode cX8_digest 265 = .ok (.aload_n 0, 1) := by decide +kernel
theorem dX8_digest_266 : decode cX8_digest 266 = .ok (.getfield 26, 3) := by decide +kernel
theorem dX8_digest_269 : decode cX8_digest 269 = .ok (.bipush 60, 2) := by decide +kernel
theorem dX8_digest_271 : decode cX8_digest 271 = .ok (.iload_n 3, 1) := by decide +kernel
theorem dX8_digest_272 : decode cX8_digest 272 = .ok (.imul, 1) := by decide +kernel
theorem dX8_digest_273 : decode cX8_digest 273 = .ok (.iload 4, 2) := by decide +kernel
theorem dX8_digest_275 : decode cX8_digest 275 = .ok (.iadd, 1) := by decide +kernel
theorem dX8_digest_276 : decode cX8_digest 276 = .ok (.iaload, 1) := by decide +kernel
theorem dX8_digest_277 : decode cX8_digest 277 = .ok (.i2l, 1) := by decide +kernel
theorem dX8_digest_278 : decode cX8_digest 278 = .ok (.ladd, 1) := by decide +kernel
theorem dX8_digest_279 : decode cX8_digest 279 = .ok (.lstore_n 1, 1) := by decide +kernel
theorem dX8_digest_280 : decode cX8_digest 280 = .ok (.iinc 4 1, 3) := by decide +kernel
theorem dX8_digest_283 : decode cX8_digest 283 = .ok (.goto (-34), 3) := by decide +kernel
theorem dX8_digest_286 : decode cX8_digest 286 = .ok (.iinc 3 1, 3) := by decide +kernel
theorem dX8_digest_289 : decode cX8_digest 289 = .ok (.goto (-62), 3) := by decide +kernel
theorem dX8_digest_292 : decode cX8_digest 292 = .ok (.lload_n 1, 1) := by decide +kernel
theorem dX8_digest_293 : decode cX8_digest 293 = .ok (.lreturn, 1) := by decide +kernel
