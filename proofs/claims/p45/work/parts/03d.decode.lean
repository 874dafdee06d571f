/-! decode rows -/
theorem dL_cell_0 : decode cL_cell 0 = .ok (.iload_n 1, 1) := by decide +kernel
theorem dL_cell_1 : decode cL_cell 1 = .ok (.aload_n 0, 1) := by decide +kernel
theorem dL_cell_2 : decode cL_cell 2 = .ok (.arraylength, 1) := by decide +kernel
theorem dL_cell_3 : decode cL_cell 3 = .ok (.if_icmp .ge 9, 3) := by decide +kernel
theorem dL_cell_6 : decode cL_cell 6 = .ok (.aload_n 0, 1) := by decide +kernel
theorem dL_cell_7 : decode cL_cell 7 = .ok (.iload_n 1, 1) := by decide +kernel
theorem dL_cell_8 : decode cL_cell 8 = .ok (.iaload, 1) := by decide +kernel
theorem dL_cell_9 : decode cL_cell 9 = .ok (.goto 11, 3) := by decide +kernel
theorem dL_cell_12 : decode cL_cell 12 = .ok (.ldc 7, 2) := by decide +kernel
theorem dL_cell_14 : decode cL_cell 14 = .ok (.iload_n 1, 1) := by decide +kernel
theorem dL_cell_15 : decode cL_cell 15 = .ok (.sipush 577, 3) := by decide +kernel
theorem dL_cell_18 : decode cL_cell 18 = .ok (.iadd, 1) := by decide +kernel
theorem dL_cell_19 : decode cL_cell 19 = .ok (.imul, 1) := by decide +kernel
theorem dL_cell_20 : decode cL_cell 20 = .ok (.ireturn, 1) := by decide +kernel
theorem dL_up_0 : decode cL_up 0 = .ok (.iload_n 0, 1) := by decide +kernel
theorem dL_up_1 : decode cL_up 1 = .ok (.ldc 8, 2) := by decide +kernel
theorem dL_up_3 : decode cL_up 3 = .ok (.iand, 1) := by decide +kernel
theorem dL_up_4 : decode cL_up 4 = .ok (.iload_n 1, 1) := by decide +kernel
theorem dL_up_5 : decode cL_up 5 = .ok (.irem, 1) := by decide +kernel
theorem dL_up_6 : decode cL_up 6 = .ok (.ireturn, 1) := by decide +kernel
theorem dL_lay_0 : decode cL_lay 0 = .ok (.iconst 0, 1) := by decide +kernel
theorem dL_lay_1 : decode cL_lay 1 = .ok (.istore_n 2, 1) := by decide +kernel
theorem dL_lay_2 : decode cL_lay 2 = .ok (.iload_n 2, 1) := by decide +kernel
theorem dL_lay_3 : decode cL_lay 3 = .ok (.bipush 28, 2) := by decide +kernel
theorem dL_lay_5 : decode cL_lay 5 = .ok (.if_icmp .ge 13, 3) := by decide +kernel
theorem dL_lay_8 : decode cL_lay 8 = .ok (.aload_n 1, 1) := by decide +kernel
theorem dL_lay_9 : decode cL_lay 9 = .ok (.iload_n 2, 1) := by decide +kernel
theorem dL_lay_10 : decode cL_lay 10 = .ok (.iconst 0, 1) := by decide +kernel
theorem dL_lay_11 : decode cL_lay 11 = .ok (.iastore, 1) := by decide +kernel
theorem dL_lay_12 : decode cL_lay 12 = .ok (.iinc 2 1, 3) := by decide +kernel
theorem dL_lay_15 : decode cL_lay 15 = .ok (.goto (-13), 3) := by decide +kernel
theorem dL_lay_18 : decode cL_lay 18 = .ok (.aload_n 1, 1) := by decide +kernel
theorem dL_lay_19 : decode cL_lay 19 = .ok (.iconst 0, 1) := by decide +kernel
theorem dL_lay_20 : decode cL_lay 20 = .ok (.iconst 1, 1) := by decide +kernel
theorem dL_lay_21 : decode cL_lay 21 = .ok (.aload_n 0, 1) := by decide +kernel
theorem dL_lay_22 : decode cL_lay 22 = .ok (.iconst 0, 1) := by decide +kernel
theorem dL_lay_23 : decode cL_lay 23 = .ok (.invokestatic 9, 3) := by decide +kernel
theorem dL_lay_26 : decode cL_lay 26 = .ok (.bipush 6, 2) := by decide +kernel
theorem dL_lay_28 : decode cL_lay 28 = .ok (.invokestatic 15, 3) := by decide +kernel
theorem dL_lay_31 : decode cL_lay 31 = .ok (.iadd, 1) := by decide +kernel
theorem dL_lay_32 : decode cL_lay 32 = .ok (.iastore, 1) := by decide +kernel
theorem dL_lay_33 : decode cL_lay 33 = .ok (.aload_n 1, 1) := by decide +kernel
theorem dL_lay_34 : decode cL_lay 34 = .ok (.iconst 1, 1) := by decide +kernel
theorem dL_lay_35 : decode cL_lay 35 = .ok (.aload_n 0, 1) := by decide +kernel
theorem dL_lay_36 : decode cL_lay 36 = .ok (.iconst 0, 1) := by decide +kernel
theorem dL_lay_37 : decode cL_lay 37 = .ok (.invokestatic 9, 3) := by decide +kernel
theorem dL_lay_40 : decode cL_lay 40 = .ok (.iconst 4, 1) := by decide +kernel
theorem dL_lay_41 : decode cL_lay 41 = .ok (.ishr, 1) := by decide +kernel
theorem dL_lay_42 : decode cL_lay 42 = .ok (.bipush 64, 2) := by decide +kernel
theorem dL_lay_44 : decode cL_lay 44 = .ok (.invokestatic 15, 3) := by decide +kernel
theorem dL_lay_47 : decode cL_lay 47 = .ok (.iastore, 1) := by decide +kernel
theorem dL_lay_48 : decode cL_lay 48 = .ok (.iconst 0, 1) := by decide +kernel
theorem dL_lay_49 : decode cL_lay 49 = .ok (.istore_n 2, 1) := by decide +kernel
theorem dL_lay_50 : decode cL_lay 50 = .ok (.iload_n 2, 1) := by decide +kernel
theorem dL_lay_51 : decode cL_lay 51 = .ok (.aload_n 1, 1) := by decide +kernel
theorem dL_lay_52 : decode cL_lay 52 = .ok (.iconst 0, 1) := by decide +kernel
theorem dL_lay_53 : decode cL_lay 53 = .ok (.iaload, 1) := by decide +kernel
theorem dL_lay_54 : decode cL_lay 54 = .ok (.if_icmp .ge 130, 3) := by decide +kernel
theorem dL_lay_57 : decode cL_lay 57 = .ok (.aload_n 0, 1) := by decide +kernel
theorem dL_lay_58 : decode cL_lay 58 = .ok (.iconst 1, 1) := by decide +kernel
theorem dL_lay_59 : decode cL_lay 59 = .ok (.iload_n 2, 1) := by decide +kernel
theorem dL_lay_60 : decode cL_lay 60 = .ok (.iadd, 1) := by decide +kernel
theorem dL_lay_61 : decode cL_lay 61 = .ok (.invokestatic 9, 3) := by decide +kernel
theorem dL_lay_64 : decode cL_lay 64 = .ok (.istore_n 3, 1) := by decide +kernel
theorem dL_lay_65 : decode cL_lay 65 = .ok (.aload_n 1, 1) := by decide +kernel
theorem dL_lay_66 : decode cL_lay 66 = .ok (.iconst 2, 1) := by decide +kernel
theorem dL_lay_67 : decode cL_lay 67 = .ok (.iload_n 2, 1) := by decide +kernel
theorem dL_lay_68 : decode cL_lay 68 = .ok (.iadd, 1) := by decide +kernel
theorem dL_lay_69 : decode cL_lay 69 = .ok (.iload_n 3, 1) := by decide +kernel
theorem dL_lay_70 : decode cL_lay 70 = .ok (.bipush 6, 2) := by decide +kernel
theorem dL_lay_72 : decode cL_lay 72 = .ok (.invokestatic 15, 3) := by decide +kernel
theorem dL_lay_75 : decode cL_lay 75 = .ok (.iastore, 1) := by decide +kernel
theorem dL_lay_76 : decode cL_lay 76 = .ok (.aload_n 1, 1) := by decide +kernel
theorem dL_lay_77 : decode cL_lay 77 = .ok (.bipush 8, 2) := by decide +kernel
theorem dL_lay_79 : decode cL_lay 79 = .ok (.iload_n 2, 1) := by decide +kernel
theorem dL_lay_80 : decode cL_lay 80 = .ok (.iadd, 1) := by decide +kernel
theorem dL_lay_81 : decode cL_lay 81 = .ok (.iload_n 3, 1) := by decide +kernel
theorem dL_lay_82 : decode cL_lay 82 = .ok (.iconst 4, 1) := by decide +kernel
theorem dL_lay_83 : decode cL_lay 83 = .ok (.ishr, 1) := by decide +kernel
theorem dL_lay_84 : decode cL_lay 84 = .ok (.iconst 4, 1) := by decide +kernel
theorem dL_lay_85 : decode cL_lay 85 = .ok (.invokestatic 15, 3) := by decide +kernel
theorem dL_lay_88 : decode cL_lay 88 = .ok (.ifCond .ne 14, 3) := by decide +kernel
theorem dL_lay_91 : decode cL_lay 91 = .ok (.iload_n 3, 1) := by decide +kernel
theorem dL_lay_92 : decode cL_lay 92 = .ok (.bipush 6, 2) := by decide +kernel
theorem dL_lay_94 : decode cL_lay 94 = .ok (.ishr, 1) := by decide +kernel
theorem dL_lay_95 : decode cL_lay 95 = .ok (.iconst 3, 1) := by decide +kernel
theorem dL_lay_96 : decode cL_lay 96 = .ok (.invokestatic 15, 3) := by decide +kernel
theorem dL_lay_99 : decode cL_lay 99 = .ok (.goto 13, 3) := by decide +kernel
theorem dL_lay_102 : decode cL_lay 102 = .ok (.iconst 1, 1) := by decide +kernel
theorem dL_lay_103 : decode cL_lay 103 = .ok (.iload_n 3, 1) := by decide +kernel
theorem dL_lay_104 : decode cL_lay 104 = .ok (.bipush 6, 2) := by decide +kernel
theorem dL_lay_106 : decode cL_lay 106 = .ok (.ishr, 1) := by decide +kernel
theorem dL_lay_107 : decode cL_lay 107 = .ok (.iconst 2, 1) := by decide +kernel
theorem dL_lay_108 : decode cL_lay 108 = .ok (.invokestatic 15, 3) := by decide +kernel
theorem dL_lay_111 : decode cL_lay 111 = .ok (.iadd, 1) := by decide +kernel
theorem dL_lay_112 : decode cL_lay 112 = .ok (.iastore, 1) := by decide +kernel
theorem dL_lay_113 : decode cL_lay 113 = .ok (.aload_n 1, 1) := by decide +kernel
theorem dL_lay_114 : decode cL_lay 114 = .ok (.bipush 14, 2) := by decide +kernel
theorem dL_lay_116 : decode cL_lay 116 = .ok (.iload_n 2, 1) := by decide +kernel
theorem dL_lay_117 : decode cL_lay 117 = .ok (.iadd, 1) := by decide +kernel
theorem dL_lay_118 : decode cL_lay 118 = .ok (.iload_n 3, 1) := by decide +kernel
theorem dL_lay_119 : decode cL_lay 119 = .ok (.bipush 8, 2) := by decide +kernel
theorem dL_lay_121 : decode cL_lay 121 = .ok (.ishr, 1) := by decide +kernel
theorem dL_lay_122 : decode cL_lay 122 = .ok (.iload_n 3, 1) := by decide +kernel
theorem dL_lay_123 : decode cL_lay 123 = .ok (.bipush 20, 2) := by decide +kernel
theorem dL_lay_125 : decode cL_lay 125 = .ok (.ishr, 1) := by decide +kernel
theorem dL_lay_126 : decode cL_lay 126 = .ok (.iconst 3, 1) := by decide +kernel
theorem dL_lay_127 : decode cL_lay 127 = .ok (.invokestatic 15, 3) := by decide +kernel
theorem dL_lay_130 : decode cL_lay 130 = .ok (.ifCond .ne 8, 3) := by decide +kernel
theorem dL_lay_133 : decode cL_lay 133 = .ok (.bipush 10, 2) := by decide +kernel
theorem dL_lay_135 : decode cL_lay 135 = .ok (.goto 5, 3) := by decide +kernel
theorem dL_lay_138 : decode cL_lay 138 = .ok (.bipush 6, 2) := by decide +kernel
theorem dL_lay_140 : decode cL_lay 140 = .ok (.invokestatic 15, 3) := by decide +kernel
theorem dL_lay_143 : decode cL_lay 143 = .ok (.iastore, 1) := by decide +kernel
theorem dL_lay_144 : decode cL_lay 144 = .ok (.aload_n 1, 1) := by decide +kernel
theorem dL_lay_145 : decode cL_lay 145 = .ok (.bipush 20, 2) := by decide +kernel
theorem dL_lay_147 : decode cL_lay 147 = .ok (.iload_n 2, 1) := by decide +kernel
theorem dL_lay_148 : decode cL_lay 148 = .ok (.iadd, 1) := by decide +kernel
theorem dL_lay_149 : decode cL_lay 149 = .ok (.iload_n 3, 1) := by decide +kernel
theorem dL_lay_150 : decode cL_lay 150 = .ok (.bipush 12, 2) := by decide +kernel
theorem dL_lay_152 : decode cL_lay 152 = .ok (.ishr, 1) := by decide +kernel
theorem dL_lay_153 : decode cL_lay 153 = .ok (.bipush 64, 2) := by decide +kernel
theorem dL_lay_155 : decode cL_lay 155 = .ok (.invokestatic 15, 3) := by decide +kernel
theorem dL_lay_158 : decode cL_lay 158 = .ok (.iload_n 3, 1) := by decide +kernel
theorem dL_lay_159 : decode cL_lay 159 = .ok (.bipush 24, 2) := by decide +kernel
theorem dL_lay_161 : decode cL_lay 161 = .ok (.ishr, 1) := by decide +kernel
theorem dL_lay_162 : decode cL_lay 162 = .ok (.iconst 2, 1) := by decide +kernel
theorem dL_lay_163 : decode cL_lay 163 = .ok (.invokestatic 15, 3) := by decide +kernel
theorem dL_lay_166 : decode cL_lay 166 = .ok (.iload_n 3, 1) := by decide +kernel
theorem dL_lay_167 : decode cL_lay 167 = .ok (.bipush 18, 2) := by decide +kernel
theorem dL_lay_169 : decode cL_lay 169 = .ok (.ishr, 1) := by decide +kernel
theorem dL_lay_170 : decode cL_lay 170 = .ok (.bipush 64, 2) := by decide +kernel
theorem dL_lay_172 : decode cL_lay 172 = .ok (.invokestatic 15, 3) := by decide +kernel
theorem dL_lay_175 : decode cL_lay 175 = .ok (.imul, 1) := by decide +kernel
theorem dL_lay_176 : decode cL_lay 176 = .ok (.ior, 1) := by decide +kernel
theorem dL_lay_177 : decode cL_lay 177 = .ok (.iastore, 1) := by decide +kernel
theorem dL_lay_178 : decode cL_lay 178 = .ok (.iinc 2 1, 3) := by decide +kernel
theorem dL_lay_181 : decode cL_lay 181 = .ok (.goto (-131), 3) := by decide +kernel
theorem dL_lay_184 : decode cL_lay 184 = .ok (.return_, 1) := by decide +kernel
theorem dL_letter_0 : decode cL_letter 0 = .ok (.iload_n 0, 1) := by decide +kernel
theorem dL_letter_1 : decode cL_letter 1 = .ok (.ifCond .ne 8, 3) := by decide +kernel
theorem dL_letter_4 : decode cL_letter 4 = .ok (.bipush 98, 2) := by decide +kernel
theorem dL_letter_6 : decode cL_letter 6 = .ok (.goto 45, 3) := by decide +kernel
theorem dL_letter_9 : decode cL_letter 9 = .ok (.iload_n 0, 1) := by decide +kernel
theorem dL_letter_10 : decode cL_letter 10 = .ok (.iconst 1, 1) := by decide +kernel
theorem dL_letter_11 : decode cL_letter 11 = .ok (.if_icmp .ne 8, 3) := by decide +kernel
theorem dL_letter_14 : decode cL_letter 14 = .ok (.bipush 108, 2) := by decide +kernel
theorem dL_letter_16 : decode cL_letter 16 = .ok (.goto 35, 3) := by decide +kernel
theorem dL_letter_19 : decode cL_letter 19 = .ok (.iload_n 0, 1) := by decide +kernel
theorem dL_letter_20 : decode cL_letter 20 = .ok (.iconst 2, 1) := by decide +kernel
theorem dL_letter_21 : decode cL_letter 21 = .ok (.if_icmp .ne 8, 3) := by decide +kernel
theorem dL_letter_24 : decode cL_letter 24 = .ok (.bipush 112, 2) := by decide +kernel
theorem dL_letter_26 : decode cL_letter 26 = .ok (.goto 25, 3) := by decide +kernel
theorem dL_letter_29 : decode cL_letter 29 = .ok (.iload_n 0, 1) := by decide +kernel
theorem dL_letter_30 : decode cL_letter 30 = .ok (.iconst 3, 1) := by decide +kernel
theorem dL_letter_31 : decode cL_letter 31 = .ok (.if_icmp .ne 8, 3) := by decide +kernel
theorem dL_letter_34 : decode cL_letter 34 = .ok (.bipush 109, 2) := by decide +kernel
theorem dL_letter_36 : decode cL_letter 36 = .ok (.goto 15, 3) := by decide +kernel
theorem dL_letter_39 : decode cL_letter 39 = .ok (.iload_n 0, 1) := by decide +kernel
theorem dL_letter_40 : decode cL_letter 40 = .ok (.iconst 4, 1) := by decide +kernel
theorem dL_letter_41 : decode cL_letter 41 = .ok (.if_icmp .ne 8, 3) := by decide +kernel
theorem dL_letter_44 : decode cL_letter 44 = .ok (.bipush 103, 2) := by decide +kernel
theorem dL_letter_46 : decode cL_letter 46 = .ok (.goto 5, 3) := by decide +kernel
theorem dL_letter_49 : decode cL_letter 49 = .ok (.bipush 114, 2) := by decide +kernel
theorem dL_letter_51 : decode cL_letter 51 = .ok (.ireturn, 1) := by decide +kernel
theorem dL_sign_0 : decode cL_sign 0 = .ok (.aload_n 0, 1) := by decide +kernel
theorem dL_sign_1 : decode cL_sign 1 = .ok (.iconst 0, 1) := by decide +kernel
theorem dL_sign_2 : decode cL_sign 2 = .ok (.iload_n 1, 1) := by decide +kernel
theorem dL_sign_3 : decode cL_sign 3 = .ok (.iload_n 2, 1) := by decide +kernel
theorem dL_sign_4 : decode cL_sign 4 = .ok (.invokevirtual 19, 3) := by decide +kernel
theorem dL_sign_7 : decode cL_sign 7 = .ok (.sipush 1032, 3) := by decide +kernel
theorem dL_sign_10 : decode cL_sign 10 = .ok (.if_icmp .ne 7, 3) := by decide +kernel
theorem dL_sign_13 : decode cL_sign 13 = .ok (.iconst 1, 1) := by decide +kernel
theorem dL_sign_14 : decode cL_sign 14 = .ok (.goto 4, 3) := by decide +kernel
theorem dL_sign_17 : decode cL_sign 17 = .ok (.iconst 0, 1) := by decide +kernel
theorem dL_sign_18 : decode cL_sign 18 = .ok (.ireturn, 1) := by decide +kernel
theorem dL_made_0 : decode cL_made 0 = .ok (.iconst 3, 1) := by decide +kernel
theorem dL_made_1 : decode cL_made 1 = .ok (.bipush 6, 2) := by decide +kernel
theorem dL_made_3 : decode cL_made 3 = .ok (.aload_n 1, 1) := by decide +kernel
theorem dL_made_4 : decode cL_made 4 = .ok (.iconst 0, 1) := by decide +kernel
theorem dL_made_5 : decode cL_made 5 = .ok (.iaload, 1) := by decide +kernel
theorem dL_made_6 : decode cL_made 6 = .ok (.imul, 1) := by decide +kernel
theorem dL_made_7 : decode cL_made 7 = .ok (.iadd, 1) := by decide +kernel
theorem dL_made_8 : decode cL_made 8 = .ok (.istore_n 2, 1) := by decide +kernel
theorem dL_made_9 : decode cL_made 9 = .ok (.aload_n 0, 1) := by decide +kernel
theorem dL_made_10 : decode cL_made 10 = .ok (.iconst 0, 1) := by decide +kernel
theorem dL_made_11 : decode cL_made 11 = .ok (.iload_n 2, 1) := by decide +kernel
theorem dL_made_12 : decode cL_made 12 = .ok (.invokevirtual 25, 3) := by decide +kernel
theorem dL_made_15 : decode cL_made 15 = .ok (.iload_n 2, 1) := by decide +kernel
theorem dL_made_16 : decode cL_made 16 = .ok (.if_icmp .ne 51, 3) := by decide +kernel
theorem dL_made_19 : decode cL_made 19 = .ok (.aload_n 0, 1) := by decide +kernel
theorem dL_made_20 : decode cL_made 20 = .ok (.iconst 0, 1) := by decide +kernel
theorem dL_made_21 : decode cL_made 21 = .ok (.bipush 107, 2) := by decide +kernel
theorem dL_made_23 : decode cL_made 23 = .ok (.invokestatic 28, 3) := by decide +kernel
theorem dL_made_26 : decode cL_made 26 = .ok (.ifCond .eq 41, 3) := by decide +kernel
theorem dL_made_29 : decode cL_made 29 = .ok (.aload_n 0, 1) := by decide +kernel
theorem dL_made_30 : decode cL_made 30 = .ok (.iconst 1, 1) := by decide +kernel
theorem dL_made_31 : decode cL_made 31 = .ok (.bipush 48, 2) := by decide +kernel
theorem dL_made_33 : decode cL_made 33 = .ok (.aload_n 1, 1) := by decide +kernel
theorem dL_made_34 : decode cL_made 34 = .ok (.iconst 1, 1) := by decide +kernel
theorem dL_made_35 : decode cL_made 35 = .ok (.iaload, 1) := by decide +kernel
theorem dL_made_36 : decode cL_made 36 = .ok (.bipush 10, 2) := by decide +kernel
theorem dL_made_38 : decode cL_made 38 = .ok (.idiv, 1) := by decide +kernel
theorem dL_made_39 : decode cL_made 39 = .ok (.iadd, 1) := by decide +kernel
theorem dL_made_40 : decode cL_made 40 = .ok (.invokestatic 28, 3) := by decide +kernel
theorem dL_made_43 : decode cL_made 43 = .ok (.ifCond .eq 24, 3) := by decide +kernel
theorem dL_made_46 : decode cL_made 46 = .ok (.aload_n 0, 1) := by decide +kernel
theorem dL_made_47 : decode cL_made 47 = .ok (.iconst 2, 1) := by decide +kernel
theorem dL_made_48 : decode cL_made 48 = .ok (.bipush 48, 2) := by decide +kernel
theorem dL_made_50 : decode cL_made 50 = .ok (.aload_n 1, 1) := by decide +kernel
theorem dL_made_51 : decode cL_made 51 = .ok (.iconst 1, 1) := by decide +kernel
theorem dL_made_52 : decode cL_made 52 = .ok (.iaload, 1) := by decide +kernel
theorem dL_made_53 : decode cL_made 53 = .ok (.bipush 10, 2) := by decide +kernel
theorem dL_made_55 : decode cL_made 55 = .ok (.irem, 1) := by decide +kernel
theorem dL_made_56 : decode cL_made 56 = .ok (.iadd, 1) := by decide +kernel
theorem dL_made_57 : decode cL_made 57 = .ok (.invokestatic 28, 3) := by decide +kernel
theorem dL_made_60 : decode cL_made 60 = .ok (.ifCond .eq 7, 3) := by decide +kernel
theorem dL_made_63 : decode cL_made 63 = .ok (.iconst 1, 1) := by decide +kernel
theorem dL_made_64 : decode cL_made 64 = .ok (.goto 4, 3) := by decide +kernel
theorem dL_made_67 : decode cL_made 67 = .ok (.iconst 0, 1) := by decide +kernel
theorem dL_made_68 : decode cL_made 68 = .ok (.istore_n 3, 1) := by decide +kernel
theorem dL_made_69 : decode cL_made 69 = .ok (.iconst 0, 1) := by decide +kernel
theorem dL_made_70 : decode cL_made 70 = .ok (.istore 4, 2) := by decide +kernel
theorem dL_made_72 : decode cL_made 72 = .ok (.iload 4, 2) := by decide +kernel
theorem dL_made_74 : decode cL_made 74 = .ok (.aload_n 1, 1) := by decide +kernel
theorem dL_made_75 : decode cL_made 75 = .ok (.iconst 0, 1) := by decide +kernel
theorem dL_made_76 : decode cL_made 76 = .ok (.iaload, 1) := by decide +kernel
theorem dL_made_77 : decode cL_made 77 = .ok (.if_icmp .ge 136, 3) := by decide +kernel
theorem dL_made_80 : decode cL_made 80 = .ok (.iconst 4, 1) := by decide +kernel
theorem dL_made_81 : decode cL_made 81 = .ok (.bipush 6, 2) := by decide +kernel
theorem dL_made_83 : decode cL_made 83 = .ok (.iload 4, 2) := by decide +kernel
theorem dL_made_85 : decode cL_made 85 = .ok (.imul, 1) := by decide +kernel
theorem dL_made_86 : decode cL_made 86 = .ok (.iadd, 1) := by decide +kernel
theorem dL_made_87 : decode cL_made 87 = .ok (.istore 5, 2) := by decide +kernel
theorem dL_made_89 : decode cL_made 89 = .ok (.iload_n 3, 1) := by decide +kernel
theorem dL_made_90 : decode cL_made 90 = .ok (.ifCond .eq 115, 3) := by decide +kernel
theorem dL_made_93 : decode cL_made 93 = .ok (.aload_n 0, 1) := by decide +kernel
theorem dL_made_94 : decode cL_made 94 = .ok (.iload 5, 2) := by decide +kernel
theorem dL_made_96 : decode cL_made 96 = .ok (.aload_n 1, 1) := by decide +kernel
theorem dL_made_97 : decode cL_made 97 = .ok (.iconst 2, 1) := by decide +kernel
theorem dL_made_98 : decode cL_made 98 = .ok (.iload 4, 2) := by decide +kernel
theorem dL_made_100 : decode cL_made 100 = .ok (.iadd, 1) := by decide +kernel
theorem dL_made_101 : decode cL_made 101 = .ok (.iaload, 1) := by decide +kernel
theorem dL_made_102 : decode cL_made 102 = .ok (.invokestatic 32, 3) := by decide +kernel
theorem dL_made_105 : decode cL_made 105 = .ok (.invokestatic 28, 3) := by decide +kernel
theorem dL_made_108 : decode cL_made 108 = .ok (.ifCond .eq 97, 3) := by decide +kernel
theorem dL_made_111 : decode cL_made 111 = .ok (.aload_n 0, 1) := by decide +kernel
theorem dL_made_112 : decode cL_made 112 = .ok (.iload 5, 2) := by decide +kernel
theorem dL_made_114 : decode cL_made 114 = .ok (.iconst 1, 1) := by decide +kernel
theorem dL_made_115 : decode cL_made 115 = .ok (.iadd, 1) := by decide +kernel
theorem dL_made_116 : decode cL_made 116 = .ok (.bipush 48, 2) := by decide +kernel
theorem dL_made_118 : decode cL_made 118 = .ok (.aload_n 1, 1) := by decide +kernel
theorem dL_made_119 : decode cL_made 119 = .ok (.bipush 8, 2) := by decide +kernel
theorem dL_made_121 : decode cL_made 121 = .ok (.iload 4, 2) := by decide +kernel
theorem dL_made_123 : decode cL_made 123 = .ok (.iadd, 1) := by decide +kernel
theorem dL_made_124 : decode cL_made 124 = .ok (.iaload, 1) := by decide +kernel
theorem dL_made_125 : decode cL_made 125 = .ok (.iadd, 1) := by decide +kernel
theorem dL_made_126 : decode cL_made 126 = .ok (.invokestatic 28, 3) := by decide +kernel
theorem dL_made_129 : decode cL_made 129 = .ok (.ifCond .eq 76, 3) := by decide +kernel
theorem dL_made_132 : decode cL_made 132 = .ok (.aload_n 0, 1) := by decide +kernel
theorem dL_made_133 : decode cL_made 133 = .ok (.iload 5, 2) := by decide +kernel
theorem dL_made_135 : decode cL_made 135 = .ok (.iconst 2, 1) := by decide +kernel
theorem dL_made_136 : decode cL_made 136 = .ok (.iadd, 1) := by decide +kernel
theorem dL_made_137 : decode cL_made 137 = .ok (.bipush 48, 2) := by decide +kernel
theorem dL_made_139 : decode cL_made 139 = .ok (.aload_n 1, 1) := by decide +kernel
theorem dL_made_140 : decode cL_made 140 = .ok (.bipush 14, 2) := by decide +kernel
theorem dL_made_142 : decode cL_made 142 = .ok (.iload 4, 2) := by decide +kernel
theorem dL_made_144 : decode cL_made 144 = .ok (.iadd, 1) := by decide +kernel
theorem dL_made_145 : decode cL_made 145 = .ok (.iaload, 1) := by decide +kernel
theorem dL_made_146 : decode cL_made 146 = .ok (.iadd, 1) := by decide +kernel
theorem dL_made_147 : decode cL_made 147 = .ok (.invokestatic 28, 3) := by decide +kernel
theorem dL_made_150 : decode cL_made 150 = .ok (.ifCond .eq 55, 3) := by decide +kernel
theorem dL_made_153 : decode cL_made 153 = .ok (.aload_n 0, 1) := by decide +kernel
theorem dL_made_154 : decode cL_made 154 = .ok (.iload 5, 2) := by decide +kernel
theorem dL_made_156 : decode cL_made 156 = .ok (.iconst 3, 1) := by decide +kernel
theorem dL_made_157 : decode cL_made 157 = .ok (.iadd, 1) := by decide +kernel
theorem dL_made_158 : decode cL_made 158 = .ok (.bipush 48, 2) := by decide +kernel
theorem dL_made_160 : decode cL_made 160 = .ok (.aload_n 1, 1) := by decide +kernel
theorem dL_made_161 : decode cL_made 161 = .ok (.bipush 20, 2) := by decide +kernel
theorem dL_made_163 : decode cL_made 163 = .ok (.iload 4, 2) := by decide +kernel
theorem dL_made_165 : decode cL_made 165 = .ok (.iadd, 1) := by decide +kernel
theorem dL_made_166 : decode cL_made 166 = .ok (.iaload, 1) := by decide +kernel
theorem dL_made_167 : decode cL_made 167 = .ok (.bipush 10, 2) := by decide +kernel
theorem dL_made_169 : decode cL_made 169 = .ok (.idiv, 1) := by decide +kernel
theorem dL_made_170 : decode cL_made 170 = .ok (.iadd, 1) := by decide +kernel
theorem dL_made_171 : decode cL_made 171 = .ok (.invokestatic 28, 3) := by decide +kernel
theorem dL_made_174 : decode cL_made 174 = .ok (.ifCond .eq 31, 3) := by decide +kernel
theorem dL_made_177 : decode cL_made 177 = .ok (.aload_n 0, 1) := by decide +kernel
theorem dL_made_178 : decode cL_made 178 = .ok (.iload 5, 2) := by decide +kernel
theorem dL_made_180 : decode cL_made 180 = .ok (.iconst 4, 1) := by decide +kernel
theorem dL_made_181 : decode cL_made 181 = .ok (.iadd, 1) := by decide +kernel
theorem dL_made_182 : decode cL_made 182 = .ok (.bipush 48, 2) := by decide +kernel
theorem dL_made_184 : decode cL_made 184 = .ok (.aload_n 1, 1) := by decide +kernel
theorem dL_made_185 : decode cL_made 185 = .ok (.bipush 20, 2) := by decide +kernel
theorem dL_made_187 : decode cL_made 187 = .ok (.iload 4, 2) := by decide +kernel
theorem dL_made_189 : decode cL_made 189 = .ok (.iadd, 1) := by decide +kernel
theorem dL_made_190 : decode cL_made 190 = .ok (.iaload, 1) := by decide +kernel
theorem dL_made_191 : decode cL_made 191 = .ok (.bipush 10, 2) := by decide +kernel
theorem dL_made_193 : decode cL_made 193 = .ok (.irem, 1) := by decide +kernel
theorem dL_made_194 : decode cL_made 194 = .ok (.iadd, 1) := by decide +kernel
theorem dL_made_195 : decode cL_made 195 = .ok (.invokestatic 28, 3) := by decide +kernel
theorem dL_made_198 : decode cL_made 198 = .ok (.ifCond .eq 7, 3) := by decide +kernel
theorem dL_made_201 : decode cL_made 201 = .ok (.iconst 1, 1) := by decide +kernel
theorem dL_made_202 : decode cL_made 202 = .ok (.goto 4, 3) := by decide +kernel
theorem dL_made_205 : decode cL_made 205 = .ok (.iconst 0, 1) := by decide +kernel
theorem dL_made_206 : decode cL_made 206 = .ok (.istore_n 3, 1) := by decide +kernel
theorem dL_made_207 : decode cL_made 207 = .ok (.iinc 4 1, 3) := by decide +kernel
theorem dL_made_210 : decode cL_made 210 = .ok (.goto (-138), 3) := by decide +kernel
theorem dL_made_213 : decode cL_made 213 = .ok (.iload_n 3, 1) := by decide +kernel
theorem dL_made_214 : decode cL_made 214 = .ok (.ifCond .eq 18, 3) := by decide +kernel
theorem dL_made_217 : decode cL_made 217 = .ok (.aload_n 0, 1) := by decide +kernel
theorem dL_made_218 : decode cL_made 218 = .ok (.iconst 0, 1) := by decide +kernel
theorem dL_made_219 : decode cL_made 219 = .ok (.invokevirtual 36, 3) := by decide +kernel
theorem dL_made_222 : decode cL_made 222 = .ok (.aload_n 1, 1) := by decide +kernel
theorem dL_made_223 : decode cL_made 223 = .ok (.iconst 0, 1) := by decide +kernel
theorem dL_made_224 : decode cL_made 224 = .ok (.iaload, 1) := by decide +kernel
theorem dL_made_225 : decode cL_made 225 = .ok (.if_icmp .ne 7, 3) := by decide +kernel
theorem dL_made_228 : decode cL_made 228 = .ok (.iconst 1, 1) := by decide +kernel
theorem dL_made_229 : decode cL_made 229 = .ok (.goto 4, 3) := by decide +kernel
theorem dL_made_232 : decode cL_made 232 = .ok (.iconst 0, 1) := by decide +kernel
theorem dL_made_233 : decode cL_made 233 = .ok (.ireturn, 1) := by decide +kernel
theorem dL_bits_0 : decode cL_bits 0 = .ok (.iconst 0, 1) := by decide +kernel
theorem dL_bits_1 : decode cL_bits 1 = .ok (.istore_n 1, 1) := by decide +kernel
theorem dL_bits_2 : decode cL_bits 2 = .ok (.iload_n 0, 1) := by decide +kernel
theorem dL_bits_3 : decode cL_bits 3 = .ok (.istore_n 2, 1) := by decide +kernel
theorem dL_bits_4 : decode cL_bits 4 = .ok (.iload_n 2, 1) := by decide +kernel
theorem dL_bits_5 : decode cL_bits 5 = .ok (.ifCond .le 16, 3) := by decide +kernel
theorem dL_bits_8 : decode cL_bits 8 = .ok (.iload_n 1, 1) := by decide +kernel
theorem dL_bits_9 : decode cL_bits 9 = .ok (.iload_n 2, 1) := by decide +kernel
theorem dL_bits_10 : decode cL_bits 10 = .ok (.iconst 1, 1) := by decide +kernel
theorem dL_bits_11 : decode cL_bits 11 = .ok (.iand, 1) := by decide +kernel
theorem dL_bits_12 : decode cL_bits 12 = .ok (.iadd, 1) := by decide +kernel
theorem dL_bits_13 : decode cL_bits 13 = .ok (.istore_n 1, 1) := by decide +kernel
theorem dL_bits_14 : decode cL_bits 14 = .ok (.iload_n 2, 1) := by decide +kernel
theorem dL_bits_15 : decode cL_bits 15 = .ok (.iconst 1, 1) := by decide +kernel
theorem dL_bits_16 : decode cL_bits 16 = .ok (.ishr, 1) := by decide +kernel
theorem dL_bits_17 : decode cL_bits 17 = .ok (.istore_n 2, 1) := by decide +kernel
theorem dL_bits_18 : decode cL_bits 18 = .ok (.goto (-14), 3) := by decide +kernel
theorem dL_bits_21 : decode cL_bits 21 = .ok (.iload_n 1, 1) := by decide +kernel
theorem dL_bits_22 : decode cL_bits 22 = .ok (.ireturn, 1) := by decide +kernel
theorem dL_told_0 : decode cL_told 0 = .ok (.aload_n 0, 1) := by decide +kernel
theorem dL_told_1 : decode cL_told 1 = .ok (.iload_n 1, 1) := by decide +kernel
theorem dL_told_2 : decode cL_told 2 = .ok (.iload_n 2, 1) := by decide +kernel
theorem dL_told_3 : decode cL_told 3 = .ok (.invokevirtual 39, 3) := by decide +kernel
theorem dL_told_6 : decode cL_told 6 = .ok (.iconst 1, 1) := by decide +kernel
theorem dL_told_7 : decode cL_told 7 = .ok (.if_icmp .ne 10, 3) := by decide +kernel
theorem dL_told_10 : decode cL_told 10 = .ok (.aload_n 0, 1) := by decide +kernel
theorem dL_told_11 : decode cL_told 11 = .ok (.invokevirtual 42, 3) := by decide +kernel
theorem dL_told_14 : decode cL_told 14 = .ok (.goto 5, 3) := by decide +kernel
theorem dL_told_17 : decode cL_told 17 = .ok (.bipush (-100), 2) := by decide +kernel
theorem dL_told_19 : decode cL_told 19 = .ok (.ireturn, 1) := by decide +kernel
theorem dL_asked_0 : decode cL_asked 0 = .ok (.iload_n 1, 1) := by decide +kernel
theorem dL_asked_1 : decode cL_asked 1 = .ok (.ifCond .ge 8, 3) := by decide +kernel
theorem dL_asked_4 : decode cL_asked 4 = .ok (.bipush (-100), 2) := by decide +kernel
theorem dL_asked_6 : decode cL_asked 6 = .ok (.goto 7, 3) := by decide +kernel
theorem dL_asked_9 : decode cL_asked 9 = .ok (.aload_n 0, 1) := by decide +kernel
theorem dL_asked_10 : decode cL_asked 10 = .ok (.invokevirtual 42, 3) := by decide +kernel
theorem dL_asked_13 : decode cL_asked 13 = .ok (.ireturn, 1) := by decide +kernel
theorem dL_law_0 : decode cL_law 0 = .ok (.new 20, 3) := by decide +kernel
theorem dL_law_3 : decode cL_law 3 = .ok (.dup, 1) := by decide +kernel
theorem dL_law_4 : decode cL_law 4 = .ok (.invokespecial 46, 3) := by decide +kernel
theorem dL_law_7 : decode cL_law 7 = .ok (.astore_n 1, 1) := by decide +kernel
theorem dL_law_8 : decode cL_law 8 = .ok (.bipush 28, 2) := by decide +kernel
theorem dL_law_10 : decode cL_law 10 = .ok (.newarray .int, 2) := by decide +kernel
theorem dL_law_12 : decode cL_law 12 = .ok (.astore_n 2, 1) := by decide +kernel
theorem dL_law_13 : decode cL_law 13 = .ok (.aload_n 0, 1) := by decide +kernel
theorem dL_law_14 : decode cL_law 14 = .ok (.aload_n 2, 1) := by decide +kernel
theorem dL_law_15 : decode cL_law 15 = .ok (.invokestatic 47, 3) := by decide +kernel
theorem dL_law_18 : decode cL_law 18 = .ok (.aload_n 1, 1) := by decide +kernel
theorem dL_law_19 : decode cL_law 19 = .ok (.aload_n 2, 1) := by decide +kernel
theorem dL_law_20 : decode cL_law 20 = .ok (.invokestatic 51, 3) := by decide +kernel
theorem dL_law_23 : decode cL_law 23 = .ok (.ifCond .ne 5, 3) := by decide +kernel
theorem dL_law_26 : decode cL_law 26 = .ok (.iconst 0, 1) := by decide +kernel
theorem dL_law_27 : decode cL_law 27 = .ok (.ireturn, 1) := by decide +kernel
theorem dL_law_28 : decode cL_law 28 = .ok (.aload_n 2, 1) := by decide +kernel
theorem dL_law_29 : decode cL_law 29 = .ok (.iconst 0, 1) := by decide +kernel
theorem dL_law_30 : decode cL_law 30 = .ok (.iaload, 1) := by decide +kernel
theorem dL_law_31 : decode cL_law 31 = .ok (.istore_n 3, 1) := by decide +kernel
theorem dL_law_32 : decode cL_law 32 = .ok (.iconst 1, 1) := by decide +kernel
theorem dL_law_33 : decode cL_law 33 = .ok (.iload_n 3, 1) := by decide +kernel
theorem dL_law_34 : decode cL_law 34 = .ok (.ishl, 1) := by decide +kernel
theorem dL_law_35 : decode cL_law 35 = .ok (.iconst 1, 1) := by decide +kernel
theorem dL_law_36 : decode cL_law 36 = .ok (.isub, 1) := by decide +kernel
theorem dL_law_37 : decode cL_law 37 = .ok (.istore 4, 2) := by decide +kernel
theorem dL_law_39 : decode cL_law 39 = .ok (.aload_n 1, 1) := by decide +kernel
theorem dL_law_40 : decode cL_law 40 = .ok (.iconst 1, 1) := by decide +kernel
theorem dL_law_41 : decode cL_law 41 = .ok (.aload_n 0, 1) := by decide +kernel
theorem dL_law_42 : decode cL_law 42 = .ok (.bipush 7, 2) := by decide +kernel
theorem dL_law_44 : decode cL_law 44 = .ok (.invokestatic 9, 3) := by decide +kernel
theorem dL_law_47 : decode cL_law 47 = .ok (.bipush 9, 2) := by decide +kernel
theorem dL_law_49 : decode cL_law 49 = .ok (.invokestatic 15, 3) := by decide +kernel
theorem dL_law_52 : decode cL_law 52 = .ok (.iadd, 1) := by decide +kernel
theorem dL_law_53 : decode cL_law 53 = .ok (.iconst 1, 1) := by decide +kernel
theorem dL_law_54 : decode cL_law 54 = .ok (.aload_n 0, 1) := by decide +kernel
theorem dL_law_55 : decode cL_law 55 = .ok (.bipush 8, 2) := by decide +kernel
theorem dL_law_57 : decode cL_law 57 = .ok (.invokestatic 9, 3) := by decide +kernel
theorem dL_law_60 : decode cL_law 60 = .ok (.ldc 55, 2) := by decide +kernel
theorem dL_law_62 : decode cL_law 62 = .ok (.invokestatic 15, 3) := by decide +kernel
theorem dL_law_65 : decode cL_law 65 = .ok (.iadd, 1) := by decide +kernel
theorem dL_law_66 : decode cL_law 66 = .ok (.invokevirtual 56, 3) := by decide +kernel
theorem dL_law_69 : decode cL_law 69 = .ok (.aload_n 1, 1) := by decide +kernel
theorem dL_law_70 : decode cL_law 70 = .ok (.iconst 4, 1) := by decide +kernel
theorem dL_law_71 : decode cL_law 71 = .ok (.invokevirtual 59, 3) := by decide +kernel
theorem dL_law_74 : decode cL_law 74 = .ok (.invokestatic 62, 3) := by decide +kernel
theorem dL_law_77 : decode cL_law 77 = .ok (.if_icmp .ne 16, 3) := by decide +kernel
theorem dL_law_80 : decode cL_law 80 = .ok (.aload_n 1, 1) := by decide +kernel
theorem dL_law_81 : decode cL_law 81 = .ok (.iconst 0, 1) := by decide +kernel
theorem dL_law_82 : decode cL_law 82 = .ok (.invokevirtual 65, 3) := by decide +kernel
theorem dL_law_85 : decode cL_law 85 = .ok (.aload_n 1, 1) := by decide +kernel
theorem dL_law_86 : decode cL_law 86 = .ok (.iconst 2, 1) := by decide +kernel
theorem dL_law_87 : decode cL_law 87 = .ok (.invokevirtual 59, 3) := by decide +kernel
theorem dL_law_90 : decode cL_law 90 = .ok (.if_icmp .eq 5, 3) := by decide +kernel
theorem dL_law_93 : decode cL_law 93 = .ok (.iconst 0, 1) := by decide +kernel
theorem dL_law_94 : decode cL_law 94 = .ok (.ireturn, 1) := by decide +kernel
theorem dL_law_95 : decode cL_law 95 = .ok (.aload_n 1, 1) := by decide +kernel
theorem dL_law_96 : decode cL_law 96 = .ok (.iconst 2, 1) := by decide +kernel
theorem dL_law_97 : decode cL_law 97 = .ok (.invokevirtual 59, 3) := by decide +kernel
theorem dL_law_100 : decode cL_law 100 = .ok (.istore 5, 2) := by decide +kernel
theorem dL_law_102 : decode cL_law 102 = .ok (.aload_n 1, 1) := by decide +kernel
theorem dL_law_103 : decode cL_law 103 = .ok (.iconst 1, 1) := by decide +kernel
theorem dL_law_104 : decode cL_law 104 = .ok (.invokevirtual 59, 3) := by decide +kernel
theorem dL_law_107 : decode cL_law 107 = .ok (.istore 6, 2) := by decide +kernel
theorem dL_law_109 : decode cL_law 109 = .ok (.aload_n 1, 1) := by decide +kernel
theorem dL_law_110 : decode cL_law 110 = .ok (.iconst 3, 1) := by decide +kernel
theorem dL_law_111 : decode cL_law 111 = .ok (.invokevirtual 59, 3) := by decide +kernel
theorem dL_law_114 : decode cL_law 114 = .ok (.istore 7, 2) := by decide +kernel
theorem dL_law_116 : decode cL_law 116 = .ok (.aload_n 1, 1) := by decide +kernel
theorem dL_law_117 : decode cL_law 117 = .ok (.iconst 4, 1) := by decide +kernel
theorem dL_law_118 : decode cL_law 118 = .ok (.invokevirtual 59, 3) := by decide +kernel
theorem dL_law_121 : decode cL_law 121 = .ok (.istore 8, 2) := by decide +kernel
theorem dL_law_123 : decode cL_law 123 = .ok (.aload_n 1, 1) := by decide +kernel
theorem dL_law_124 : decode cL_law 124 = .ok (.iconst 5, 1) := by decide +kernel
theorem dL_law_125 : decode cL_law 125 = .ok (.invokevirtual 59, 3) := by decide +kernel
theorem dL_law_128 : decode cL_law 128 = .ok (.istore 9, 2) := by decide +kernel
theorem dL_law_130 : decode cL_law 130 = .ok (.iconst 0, 1) := by decide +kernel
theorem dL_law_131 : decode cL_law 131 = .ok (.istore 10, 2) := by decide +kernel
theorem dL_law_133 : decode cL_law 133 = .ok (.bipush 6, 2) := by decide +kernel
theorem dL_law_135 : decode cL_law 135 = .ok (.newarray .int, 2) := by decide +kernel
theorem dL_law_137 : decode cL_law 137 = .ok (.astore 11, 2) := by decide +kernel
theorem dL_law_139 : decode cL_law 139 = .ok (.iconst 0, 1) := by decide +kernel
theorem dL_law_140 : decode cL_law 140 = .ok (.istore 12, 2) := by decide +kernel
theorem dL_law_142 : decode cL_law 142 = .ok (.iload 12, 2) := by decide +kernel
theorem dL_law_144 : decode cL_law 144 = .ok (.iload_n 3, 1) := by decide +kernel
theorem dL_law_145 : decode cL_law 145 = .ok (.if_icmp .ge 271, 3) := by decide +kernel
theorem dL_law_148 : decode cL_law 148 = .ok (.aload 11, 2) := by decide +kernel
theorem dL_law_150 : decode cL_law 150 = .ok (.iload 12, 2) := by decide +kernel
theorem dL_law_152 : decode cL_law 152 = .ok (.aload_n 1, 1) := by decide +kernel
theorem dL_law_153 : decode cL_law 153 = .ok (.iload 12, 2) := by decide +kernel
theorem dL_law_155 : decode cL_law 155 = .ok (.iconst 5, 1) := by decide +kernel
theorem dL_law_156 : decode cL_law 156 = .ok (.invokestatic 68, 3) := by decide +kernel
theorem dL_law_159 : decode cL_law 159 = .ok (.iastore, 1) := by decide +kernel
theorem dL_law_160 : decode cL_law 160 = .ok (.iload 10, 2) := by decide +kernel
theorem dL_law_162 : decode cL_law 162 = .ok (.aload_n 1, 1) := by decide +kernel
theorem dL_law_163 : decode cL_law 163 = .ok (.iload 12, 2) := by decide +kernel
theorem dL_law_165 : decode cL_law 165 = .ok (.iconst 2, 1) := by decide +kernel
theorem dL_law_166 : decode cL_law 166 = .ok (.invokestatic 68, 3) := by decide +kernel
theorem dL_law_169 : decode cL_law 169 = .ok (.iadd, 1) := by decide +kernel
theorem dL_law_170 : decode cL_law 170 = .ok (.istore 10, 2) := by decide +kernel
theorem dL_law_172 : decode cL_law 172 = .ok (.aload_n 1, 1) := by decide +kernel
theorem dL_law_173 : decode cL_law 173 = .ok (.iload 12, 2) := by decide +kernel
theorem dL_law_175 : decode cL_law 175 = .ok (.iconst 4, 1) := by decide +kernel
theorem dL_law_176 : decode cL_law 176 = .ok (.invokestatic 68, 3) := by decide +kernel
theorem dL_law_179 : decode cL_law 179 = .ok (.iload 7, 2) := by decide +kernel
theorem dL_law_181 : decode cL_law 181 = .ok (.iload 12, 2) := by decide +kernel
theorem dL_law_183 : decode cL_law 183 = .ok (.ishr, 1) := by decide +kernel
theorem dL_law_184 : decode cL_law 184 = .ok (.iconst 1, 1) := by decide +kernel
theorem dL_law_185 : decode cL_law 185 = .ok (.iand, 1) := by decide +kernel
theorem dL_law_186 : decode cL_law 186 = .ok (.if_icmp .ne 71, 3) := by decide +kernel
theorem dL_law_189 : decode cL_law 189 = .ok (.iload 7, 2) := by decide +kernel
theorem dL_law_191 : decode cL_law 191 = .ok (.iload 12, 2) := by decide +kernel
theorem dL_law_193 : decode cL_law 193 = .ok (.ishr, 1) := by decide +kernel
theorem dL_law_194 : decode cL_law 194 = .ok (.iconst 1, 1) := by decide +kernel
theorem dL_law_195 : decode cL_law 195 = .ok (.iand, 1) := by decide +kernel
theorem dL_law_196 : decode cL_law 196 = .ok (.iconst 1, 1) := by decide +kernel
theorem dL_law_197 : decode cL_law 197 = .ok (.if_icmp .ne 11, 3) := by decide +kernel
theorem dL_law_200 : decode cL_law 200 = .ok (.aload 11, 2) := by decide +kernel
theorem dL_law_202 : decode cL_law 202 = .ok (.iload 12, 2) := by decide +kernel
theorem dL_law_204 : decode cL_law 204 = .ok (.iaload, 1) := by decide +kernel
theorem dL_law_205 : decode cL_law 205 = .ok (.ifCond .ne 52, 3) := by decide +kernel
theorem dL_law_208 : decode cL_law 208 = .ok (.aload_n 1, 1) := by decide +kernel
theorem dL_law_209 : decode cL_law 209 = .ok (.iload 12, 2) := by decide +kernel
theorem dL_law_211 : decode cL_law 211 = .ok (.iconst 2, 1) := by decide +kernel
theorem dL_law_212 : decode cL_law 212 = .ok (.invokestatic 68, 3) := by decide +kernel
theorem dL_law_215 : decode cL_law 215 = .ok (.bipush 8, 2) := by decide +kernel
theorem dL_law_217 : decode cL_law 217 = .ok (.if_icmp .le 11, 3) := by decide +kernel
theorem dL_law_220 : decode cL_law 220 = .ok (.aload 11, 2) := by decide +kernel
theorem dL_law_222 : decode cL_law 222 = .ok (.iload 12, 2) := by decide +kernel
theorem dL_law_224 : decode cL_law 224 = .ok (.iaload, 1) := by decide +kernel
theorem dL_law_225 : decode cL_law 225 = .ok (.ifCond .ne 32, 3) := by decide +kernel
theorem dL_law_228 : decode cL_law 228 = .ok (.aload_n 1, 1) := by decide +kernel
theorem dL_law_229 : decode cL_law 229 = .ok (.iload 12, 2) := by decide +kernel
theorem dL_law_231 : decode cL_law 231 = .ok (.iconst 0, 1) := by decide +kernel
theorem dL_law_232 : decode cL_law 232 = .ok (.invokestatic 68, 3) := by decide +kernel
theorem dL_law_235 : decode cL_law 235 = .ok (.iconst 1, 1) := by decide +kernel
theorem dL_law_236 : decode cL_law 236 = .ok (.if_icmp .ne 23, 3) := by decide +kernel
theorem dL_law_239 : decode cL_law 239 = .ok (.aload 11, 2) := by decide +kernel
theorem dL_law_241 : decode cL_law 241 = .ok (.iload 12, 2) := by decide +kernel
theorem dL_law_243 : decode cL_law 243 = .ok (.iaload, 1) := by decide +kernel
theorem dL_law_244 : decode cL_law 244 = .ok (.aload_n 2, 1) := by decide +kernel
theorem dL_law_245 : decode cL_law 245 = .ok (.bipush 20, 2) := by decide +kernel
theorem dL_law_247 : decode cL_law 247 = .ok (.iload 12, 2) := by decide +kernel
theorem dL_law_249 : decode cL_law 249 = .ok (.iadd, 1) := by decide +kernel
theorem dL_law_250 : decode cL_law 250 = .ok (.iaload, 1) := by decide +kernel
theorem dL_law_251 : decode cL_law 251 = .ok (.iconst (-1), 1) := by decide +kernel
theorem dL_law_252 : decode cL_law 252 = .ok (.ixor, 1) := by decide +kernel
theorem dL_law_253 : decode cL_law 253 = .ok (.iand, 1) := by decide +kernel
theorem dL_law_254 : decode cL_law 254 = .ok (.ifCond .eq 5, 3) := by decide +kernel
theorem dL_law_257 : decode cL_law 257 = .ok (.iconst 0, 1) := by decide +kernel
theorem dL_law_258 : decode cL_law 258 = .ok (.ireturn, 1) := by decide +kernel
theorem dL_law_259 : decode cL_law 259 = .ok (.iconst 0, 1) := by decide +kernel
theorem dL_law_260 : decode cL_law 260 = .ok (.istore 13, 2) := by decide +kernel
theorem dL_law_262 : decode cL_law 262 = .ok (.iload 13, 2) := by decide +kernel
theorem dL_law_264 : decode cL_law 264 = .ok (.bipush 6, 2) := by decide +kernel
theorem dL_law_266 : decode cL_law 266 = .ok (.if_icmp .ge 144, 3) := by decide +kernel
theorem dL_law_269 : decode cL_law 269 = .ok (.aload_n 1, 1) := by decide +kernel
theorem dL_law_270 : decode cL_law 270 = .ok (.iload 12, 2) := by decide +kernel
theorem dL_law_272 : decode cL_law 272 = .ok (.iload 13, 2) := by decide +kernel
theorem dL_law_274 : decode cL_law 274 = .ok (.invokevirtual 72, 3) := by decide +kernel
theorem dL_law_277 : decode cL_law 277 = .ok (.istore 14, 2) := by decide +kernel
theorem dL_law_279 : decode cL_law 279 = .ok (.aload_n 1, 1) := by decide +kernel
theorem dL_law_280 : decode cL_law 280 = .ok (.iload 12, 2) := by decide +kernel
theorem dL_law_282 : decode cL_law 282 = .ok (.iconst 0, 1) := by decide +kernel
theorem dL_law_283 : decode cL_law 283 = .ok (.invokestatic 68, 3) := by decide +kernel
theorem dL_law_286 : decode cL_law 286 = .ok (.istore 15, 2) := by decide +kernel
theorem dL_law_288 : decode cL_law 288 = .ok (.iload 15, 2) := by decide +kernel
theorem dL_law_290 : decode cL_law 290 = .ok (.iconst 4, 1) := by decide +kernel
theorem dL_law_291 : decode cL_law 291 = .ok (.if_icmp .eq 24, 3) := by decide +kernel
theorem dL_law_294 : decode cL_law 294 = .ok (.iload 15, 2) := by decide +kernel
theorem dL_law_296 : decode cL_law 296 = .ok (.iconst 3, 1) := by decide +kernel
theorem dL_law_297 : decode cL_law 297 = .ok (.if_icmp .ne 14, 3) := by decide +kernel
theorem dL_law_300 : decode cL_law 300 = .ok (.aload_n 1, 1) := by decide +kernel
theorem dL_law_301 : decode cL_law 301 = .ok (.iload 12, 2) := by decide +kernel
theorem dL_law_303 : decode cL_law 303 = .ok (.iconst 2, 1) := by decide +kernel
theorem dL_law_304 : decode cL_law 304 = .ok (.invokestatic 68, 3) := by decide +kernel
theorem dL_law_307 : decode cL_law 307 = .ok (.iconst 5, 1) := by decide +kernel
theorem dL_law_308 : decode cL_law 308 = .ok (.if_icmp .ge 7, 3) := by decide +kernel
theorem dL_law_311 : decode cL_law 311 = .ok (.iconst 1, 1) := by decide +kernel
theorem dL_law_312 : decode cL_law 312 = .ok (.goto 4, 3) := by decide +kernel
theorem dL_law_315 : decode cL_law 315 = .ok (.iconst 0, 1) := by decide +kernel
theorem dL_law_316 : decode cL_law 316 = .ok (.istore 16, 2) := by decide +kernel
theorem dL_law_318 : decode cL_law 318 = .ok (.iload 14, 2) := by decide +kernel
theorem dL_law_320 : decode cL_law 320 = .ok (.bipush (-9), 2) := by decide +kernel
theorem dL_law_322 : decode cL_law 322 = .ok (.if_icmp .eq 14, 3) := by decide +kernel
theorem dL_law_325 : decode cL_law 325 = .ok (.iload 14, 2) := by decide +kernel
theorem dL_law_327 : decode cL_law 327 = .ok (.ifCond .eq 9, 3) := by decide +kernel
theorem dL_law_330 : decode cL_law 330 = .ok (.iload 14, 2) := by decide +kernel
theorem dL_law_332 : decode cL_law 332 = .ok (.iconst 1, 1) := by decide +kernel
theorem dL_law_333 : decode cL_law 333 = .ok (.if_icmp .ne 69, 3) := by decide +kernel
theorem dL_law_336 : decode cL_law 336 = .ok (.iload 14, 2) := by decide +kernel
theorem dL_law_338 : decode cL_law 338 = .ok (.bipush (-9), 2) := by decide +kernel
theorem dL_law_340 : decode cL_law 340 = .ok (.if_icmp .ne 7, 3) := by decide +kernel
theorem dL_law_343 : decode cL_law 343 = .ok (.iconst 1, 1) := by decide +kernel
theorem dL_law_344 : decode cL_law 344 = .ok (.goto 4, 3) := by decide +kernel
theorem dL_law_347 : decode cL_law 347 = .ok (.iconst 0, 1) := by decide +kernel
theorem dL_law_348 : decode cL_law 348 = .ok (.aload 11, 2) := by decide +kernel
theorem dL_law_350 : decode cL_law 350 = .ok (.iload 12, 2) := by decide +kernel
theorem dL_law_352 : decode cL_law 352 = .ok (.iaload, 1) := by decide +kernel
theorem dL_law_353 : decode cL_law 353 = .ok (.iload 13, 2) := by decide +kernel
theorem dL_law_355 : decode cL_law 355 = .ok (.ishr, 1) := by decide +kernel
theorem dL_law_356 : decode cL_law 356 = .ok (.iconst 1, 1) := by decide +kernel
theorem dL_law_357 : decode cL_law 357 = .ok (.iand, 1) := by decide +kernel
theorem dL_law_358 : decode cL_law 358 = .ok (.ifCond .ne 7, 3) := by decide +kernel
theorem dL_law_361 : decode cL_law 361 = .ok (.iconst 1, 1) := by decide +kernel
theorem dL_law_362 : decode cL_law 362 = .ok (.goto 4, 3) := by decide +kernel
theorem dL_law_365 : decode cL_law 365 = .ok (.iconst 0, 1) := by decide +kernel
theorem dL_law_366 : decode cL_law 366 = .ok (.if_icmp .ne 36, 3) := by decide +kernel
theorem dL_law_369 : decode cL_law 369 = .ok (.iload 15, 2) := by decide +kernel
theorem dL_law_371 : decode cL_law 371 = .ok (.iconst 4, 1) := by decide +kernel
theorem dL_law_372 : decode cL_law 372 = .ok (.if_icmp .ne 8, 3) := by decide +kernel
theorem dL_law_375 : decode cL_law 375 = .ok (.iload 14, 2) := by decide +kernel
theorem dL_law_377 : decode cL_law 377 = .ok (.ifCond .eq 25, 3) := by decide +kernel
theorem dL_law_380 : decode cL_law 380 = .ok (.iload 16, 2) := by decide +kernel
theorem dL_law_382 : decode cL_law 382 = .ok (.ifCond .eq 22, 3) := by decide +kernel
theorem dL_law_385 : decode cL_law 385 = .ok (.iload 14, 2) := by decide +kernel
theorem dL_law_387 : decode cL_law 387 = .ok (.ifCond .lt 17, 3) := by decide +kernel
theorem dL_law_390 : decode cL_law 390 = .ok (.iload 14, 2) := by decide +kernel
theorem dL_law_392 : decode cL_law 392 = .ok (.iload 6, 2) := by decide +kernel
theorem dL_law_394 : decode cL_law 394 = .ok (.iload 13, 2) := by decide +kernel
theorem dL_law_396 : decode cL_law 396 = .ok (.ishr, 1) := by decide +kernel
theorem dL_law_397 : decode cL_law 397 = .ok (.iconst 1, 1) := by decide +kernel
theorem dL_law_398 : decode cL_law 398 = .ok (.iand, 1) := by decide +kernel
theorem dL_law_399 : decode cL_law 399 = .ok (.if_icmp .eq 5, 3) := by decide +kernel
theorem dL_law_402 : decode cL_law 402 = .ok (.iconst 0, 1) := by decide +kernel
theorem dL_law_403 : decode cL_law 403 = .ok (.ireturn, 1) := by decide +kernel
theorem dL_law_404 : decode cL_law 404 = .ok (.iinc 13 1, 3) := by decide +kernel
theorem dL_law_407 : decode cL_law 407 = .ok (.goto (-145), 3) := by decide +kernel
theorem dL_law_410 : decode cL_law 410 = .ok (.iinc 12 1, 3) := by decide +kernel
theorem dL_law_413 : decode cL_law 413 = .ok (.goto (-271), 3) := by decide +kernel
theorem dL_law_416 : decode cL_law 416 = .ok (.iload 6, 2) := by decide +kernel
theorem dL_law_418 : decode cL_law 418 = .ok (.aload_n 2, 1) := by decide +kernel
theorem dL_law_419 : decode cL_law 419 = .ok (.iconst 1, 1) := by decide +kernel
theorem dL_law_420 : decode cL_law 420 = .ok (.iaload, 1) := by decide +kernel
theorem dL_law_421 : decode cL_law 421 = .ok (.if_icmp .ne 36, 3) := by decide +kernel
theorem dL_law_424 : decode cL_law 424 = .ok (.iload 10, 2) := by decide +kernel
theorem dL_law_426 : decode cL_law 426 = .ok (.iload 9, 2) := by decide +kernel
theorem dL_law_428 : decode cL_law 428 = .ok (.if_icmp .ne 29, 3) := by decide +kernel
theorem dL_law_431 : decode cL_law 431 = .ok (.aload_n 1, 1) := by decide +kernel
theorem dL_law_432 : decode cL_law 432 = .ok (.iload 4, 2) := by decide +kernel
theorem dL_law_434 : decode cL_law 434 = .ok (.invokevirtual 75, 3) := by decide +kernel
theorem dL_law_437 : decode cL_law 437 = .ok (.iload 8, 2) := by decide +kernel
theorem dL_law_439 : decode cL_law 439 = .ok (.if_icmp .ne 18, 3) := by decide +kernel
theorem dL_law_442 : decode cL_law 442 = .ok (.aload_n 1, 1) := by decide +kernel
theorem dL_law_443 : decode cL_law 443 = .ok (.iconst 0, 1) := by decide +kernel
theorem dL_law_444 : decode cL_law 444 = .ok (.invokevirtual 75, 3) := by decide +kernel
theorem dL_law_447 : decode cL_law 447 = .ok (.ifCond .ne 10, 3) := by decide +kernel
theorem dL_law_450 : decode cL_law 450 = .ok (.aload_n 1, 1) := by decide +kernel
theorem dL_law_451 : decode cL_law 451 = .ok (.invokevirtual 42, 3) := by decide +kernel
theorem dL_law_454 : decode cL_law 454 = .ok (.ifCond .eq 5, 3) := by decide +kernel
theorem dL_law_457 : decode cL_law 457 = .ok (.iconst 0, 1) := by decide +kernel
theorem dL_law_458 : decode cL_law 458 = .ok (.ireturn, 1) := by decide +kernel
theorem dL_law_459 : decode cL_law 459 = .ok (.iconst 0, 1) := by decide +kernel
theorem dL_law_460 : decode cL_law 460 = .ok (.istore 12, 2) := by decide +kernel
theorem dL_law_462 : decode cL_law 462 = .ok (.iload 12, 2) := by decide +kernel
theorem dL_law_464 : decode cL_law 464 = .ok (.bipush 6, 2) := by decide +kernel
theorem dL_law_466 : decode cL_law 466 = .ok (.if_icmp .ge 252, 3) := by decide +kernel
theorem dL_law_469 : decode cL_law 469 = .ok (.iconst 0, 1) := by decide +kernel
theorem dL_law_470 : decode cL_law 470 = .ok (.istore 13, 2) := by decide +kernel
theorem dL_law_472 : decode cL_law 472 = .ok (.iconst 0, 1) := by decide +kernel
theorem dL_law_473 : decode cL_law 473 = .ok (.istore 14, 2) := by decide +kernel
theorem dL_law_475 : decode cL_law 475 = .ok (.iload 14, 2) := by decide +kernel
theorem dL_law_477 : decode cL_law 477 = .ok (.iload_n 3, 1) := by decide +kernel
theorem dL_law_478 : decode cL_law 478 = .ok (.if_icmp .ge 39, 3) := by decide +kernel
theorem dL_law_481 : decode cL_law 481 = .ok (.aload_n 1, 1) := by decide +kernel
theorem dL_law_482 : decode cL_law 482 = .ok (.iload 14, 2) := by decide +kernel
theorem dL_law_484 : decode cL_law 484 = .ok (.iload 12, 2) := by decide +kernel
theorem dL_law_486 : decode cL_law 486 = .ok (.invokevirtual 72, 3) := by decide +kernel
theorem dL_law_489 : decode cL_law 489 = .ok (.istore 15, 2) := by decide +kernel
theorem dL_law_491 : decode cL_law 491 = .ok (.iload 13, 2) := by decide +kernel
theorem dL_law_493 : decode cL_law 493 = .ok (.iload 15, 2) := by decide +kernel
theorem dL_law_495 : decode cL_law 495 = .ok (.ifCond .ge 7, 3) := by decide +kernel
theorem dL_law_498 : decode cL_law 498 = .ok (.iconst 0, 1) := by decide +kernel
theorem dL_law_499 : decode cL_law 499 = .ok (.goto 9, 3) := by decide +kernel
theorem dL_law_502 : decode cL_law 502 = .ok (.iconst 2, 1) := by decide +kernel
theorem dL_law_503 : decode cL_law 503 = .ok (.iload 15, 2) := by decide +kernel
theorem dL_law_505 : decode cL_law 505 = .ok (.imul, 1) := by decide +kernel
theorem dL_law_506 : decode cL_law 506 = .ok (.iconst 1, 1) := by decide +kernel
theorem dL_law_507 : decode cL_law 507 = .ok (.isub, 1) := by decide +kernel
theorem dL_law_508 : decode cL_law 508 = .ok (.iadd, 1) := by decide +kernel
theorem dL_law_509 : decode cL_law 509 = .ok (.istore 13, 2) := by decide +kernel
theorem dL_law_511 : decode cL_law 511 = .ok (.iinc 14 1, 3) := by decide +kernel
theorem dL_law_514 : decode cL_law 514 = .ok (.goto (-39), 3) := by decide +kernel
theorem dL_law_517 : decode cL_law 517 = .ok (.iload 13, 2) := by decide +kernel
theorem dL_law_519 : decode cL_law 519 = .ok (.ifCond .le 7, 3) := by decide +kernel
theorem dL_law_522 : decode cL_law 522 = .ok (.iconst 1, 1) := by decide +kernel
theorem dL_law_523 : decode cL_law 523 = .ok (.goto 4, 3) := by decide +kernel
theorem dL_law_526 : decode cL_law 526 = .ok (.iconst 0, 1) := by decide +kernel
theorem dL_law_527 : decode cL_law 527 = .ok (.iload 8, 2) := by decide +kernel
theorem dL_law_529 : decode cL_law 529 = .ok (.iload 12, 2) := by decide +kernel
theorem dL_law_531 : decode cL_law 531 = .ok (.ishr, 1) := by decide +kernel
theorem dL_law_532 : decode cL_law 532 = .ok (.iconst 1, 1) := by decide +kernel
theorem dL_law_533 : decode cL_law 533 = .ok (.iand, 1) := by decide +kernel
theorem dL_law_534 : decode cL_law 534 = .ok (.iconst 1, 1) := by decide +kernel
theorem dL_law_535 : decode cL_law 535 = .ok (.if_icmp .ne 7, 3) := by decide +kernel
theorem dL_law_538 : decode cL_law 538 = .ok (.iconst 1, 1) := by decide +kernel
theorem dL_law_539 : decode cL_law 539 = .ok (.goto 4, 3) := by decide +kernel
theorem dL_law_542 : decode cL_law 542 = .ok (.iconst 0, 1) := by decide +kernel
theorem dL_law_543 : decode cL_law 543 = .ok (.if_icmp .ne 23, 3) := by decide +kernel
theorem dL_law_546 : decode cL_law 546 = .ok (.aload_n 1, 1) := by decide +kernel
theorem dL_law_547 : decode cL_law 547 = .ok (.iload 12, 2) := by decide +kernel
theorem dL_law_549 : decode cL_law 549 = .ok (.iconst 0, 1) := by decide +kernel
theorem dL_law_550 : decode cL_law 550 = .ok (.invokevirtual 78, 3) := by decide +kernel
theorem dL_law_553 : decode cL_law 553 = .ok (.iconst 1, 1) := by decide +kernel
theorem dL_law_554 : decode cL_law 554 = .ok (.if_icmp .ne 12, 3) := by decide +kernel
theorem dL_law_557 : decode cL_law 557 = .ok (.aload_n 1, 1) := by decide +kernel
theorem dL_law_558 : decode cL_law 558 = .ok (.invokevirtual 42, 3) := by decide +kernel
theorem dL_law_561 : decode cL_law 561 = .ok (.iload 13, 2) := by decide +kernel
theorem dL_law_563 : decode cL_law 563 = .ok (.if_icmp .eq 5, 3) := by decide +kernel
theorem dL_law_566 : decode cL_law 566 = .ok (.iconst 0, 1) := by decide +kernel
theorem dL_law_567 : decode cL_law 567 = .ok (.ireturn, 1) := by decide +kernel
theorem dL_law_568 : decode cL_law 568 = .ok (.aload_n 1, 1) := by decide +kernel
theorem dL_law_569 : decode cL_law 569 = .ok (.iload 12, 2) := by decide +kernel
theorem dL_law_571 : decode cL_law 571 = .ok (.invokevirtual 81, 3) := by decide +kernel
theorem dL_law_574 : decode cL_law 574 = .ok (.istore 14, 2) := by decide +kernel
theorem dL_law_576 : decode cL_law 576 = .ok (.aload_n 1, 1) := by decide +kernel
theorem dL_law_577 : decode cL_law 577 = .ok (.iload 14, 2) := by decide +kernel
theorem dL_law_579 : decode cL_law 579 = .ok (.invokestatic 84, 3) := by decide +kernel
theorem dL_law_582 : decode cL_law 582 = .ok (.istore 15, 2) := by decide +kernel
theorem dL_law_584 : decode cL_law 584 = .ok (.iload 14, 2) := by decide +kernel
theorem dL_law_586 : decode cL_law 586 = .ok (.bipush (-9), 2) := by decide +kernel
theorem dL_law_588 : decode cL_law 588 = .ok (.if_icmp .ne 17, 3) := by decide +kernel
theorem dL_law_591 : decode cL_law 591 = .ok (.iload 8, 2) := by decide +kernel
theorem dL_law_593 : decode cL_law 593 = .ok (.iload 12, 2) := by decide +kernel
theorem dL_law_595 : decode cL_law 595 = .ok (.ishr, 1) := by decide +kernel
theorem dL_law_596 : decode cL_law 596 = .ok (.iconst 1, 1) := by decide +kernel
theorem dL_law_597 : decode cL_law 597 = .ok (.iand, 1) := by decide +kernel
theorem dL_law_598 : decode cL_law 598 = .ok (.iconst 1, 1) := by decide +kernel
theorem dL_law_599 : decode cL_law 599 = .ok (.if_icmp .ne 46, 3) := by decide +kernel
theorem dL_law_602 : decode cL_law 602 = .ok (.goto 41, 3) := by decide +kernel
theorem dL_law_605 : decode cL_law 605 = .ok (.iload 14, 2) := by decide +kernel
theorem dL_law_607 : decode cL_law 607 = .ok (.iconst 1, 1) := by decide +kernel
theorem dL_law_608 : decode cL_law 608 = .ok (.if_icmp .lt 35, 3) := by decide +kernel
theorem dL_law_611 : decode cL_law 611 = .ok (.iload 14, 2) := by decide +kernel
theorem dL_law_613 : decode cL_law 613 = .ok (.iload 15, 2) := by decide +kernel
theorem dL_law_615 : decode cL_law 615 = .ok (.invokestatic 62, 3) := by decide +kernel
theorem dL_law_618 : decode cL_law 618 = .ok (.if_icmp .ne 25, 3) := by decide +kernel
theorem dL_law_621 : decode cL_law 621 = .ok (.iload 15, 2) := by decide +kernel
theorem dL_law_623 : decode cL_law 623 = .ok (.iload 4, 2) := by decide +kernel
theorem dL_law_625 : decode cL_law 625 = .ok (.if_icmp .gt 18, 3) := by decide +kernel
theorem dL_law_628 : decode cL_law 628 = .ok (.aload_n 1, 1) := by decide +kernel
theorem dL_law_629 : decode cL_law 629 = .ok (.iload 15, 2) := by decide +kernel
theorem dL_law_631 : decode cL_law 631 = .ok (.invokevirtual 75, 3) := by decide +kernel
theorem dL_law_634 : decode cL_law 634 = .ok (.iload 12, 2) := by decide +kernel
theorem dL_law_636 : decode cL_law 636 = .ok (.ishr, 1) := by decide +kernel
theorem dL_law_637 : decode cL_law 637 = .ok (.iconst 1, 1) := by decide +kernel
theorem dL_law_638 : decode cL_law 638 = .ok (.iand, 1) := by decide +kernel
theorem dL_law_639 : decode cL_law 639 = .ok (.iconst 1, 1) := by decide +kernel
theorem dL_law_640 : decode cL_law 640 = .ok (.if_icmp .eq 5, 3) := by decide +kernel
theorem dL_law_643 : decode cL_law 643 = .ok (.iconst 0, 1) := by decide +kernel
theorem dL_law_644 : decode cL_law 644 = .ok (.ireturn, 1) := by decide +kernel
theorem dL_law_645 : decode cL_law 645 = .ok (.iconst 0, 1) := by decide +kernel
theorem dL_law_646 : decode cL_law 646 = .ok (.istore 16, 2) := by decide +kernel
theorem dL_law_648 : decode cL_law 648 = .ok (.iload 16, 2) := by decide +kernel
theorem dL_law_650 : decode cL_law 650 = .ok (.iload_n 3, 1) := by decide +kernel
theorem dL_law_651 : decode cL_law 651 = .ok (.if_icmp .ge 61, 3) := by decide +kernel
theorem dL_law_654 : decode cL_law 654 = .ok (.iload 14, 2) := by decide +kernel
theorem dL_law_656 : decode cL_law 656 = .ok (.ifCond .le 56, 3) := by decide +kernel
theorem dL_law_659 : decode cL_law 659 = .ok (.iload 15, 2) := by decide +kernel
theorem dL_law_661 : decode cL_law 661 = .ok (.iload 16, 2) := by decide +kernel
theorem dL_law_663 : decode cL_law 663 = .ok (.ishr, 1) := by decide +kernel
theorem dL_law_664 : decode cL_law 664 = .ok (.iconst 1, 1) := by decide +kernel
theorem dL_law_665 : decode cL_law 665 = .ok (.iand, 1) := by decide +kernel
theorem dL_law_666 : decode cL_law 666 = .ok (.iconst 1, 1) := by decide +kernel
theorem dL_law_667 : decode cL_law 667 = .ok (.if_icmp .ne 39, 3) := by decide +kernel
theorem dL_law_670 : decode cL_law 670 = .ok (.aload_n 1, 1) := by decide +kernel
theorem dL_law_671 : decode cL_law 671 = .ok (.iload 16, 2) := by decide +kernel
theorem dL_law_673 : decode cL_law 673 = .ok (.iload 12, 2) := by decide +kernel
theorem dL_law_675 : decode cL_law 675 = .ok (.invokevirtual 72, 3) := by decide +kernel
theorem dL_law_678 : decode cL_law 678 = .ok (.iconst 1, 1) := by decide +kernel
theorem dL_law_679 : decode cL_law 679 = .ok (.if_icmp .ne 25, 3) := by decide +kernel
theorem dL_law_682 : decode cL_law 682 = .ok (.aload_n 1, 1) := by decide +kernel
theorem dL_law_683 : decode cL_law 683 = .ok (.iload 15, 2) := by decide +kernel
theorem dL_law_685 : decode cL_law 685 = .ok (.iconst 1, 1) := by decide +kernel
theorem dL_law_686 : decode cL_law 686 = .ok (.iload 16, 2) := by decide +kernel
theorem dL_law_688 : decode cL_law 688 = .ok (.ishl, 1) := by decide +kernel
theorem dL_law_689 : decode cL_law 689 = .ok (.iconst (-1), 1) := by decide +kernel
theorem dL_law_690 : decode cL_law 690 = .ok (.ixor, 1) := by decide +kernel
theorem dL_law_691 : decode cL_law 691 = .ok (.iand, 1) := by decide +kernel
theorem dL_law_692 : decode cL_law 692 = .ok (.invokevirtual 75, 3) := by decide +kernel
theorem dL_law_695 : decode cL_law 695 = .ok (.iload 12, 2) := by decide +kernel
theorem dL_law_697 : decode cL_law 697 = .ok (.ishr, 1) := by decide +kernel
theorem dL_law_698 : decode cL_law 698 = .ok (.iconst 1, 1) := by decide +kernel
theorem dL_law_699 : decode cL_law 699 = .ok (.iand, 1) := by decide +kernel
theorem dL_law_700 : decode cL_law 700 = .ok (.iconst 1, 1) := by decide +kernel
theorem dL_law_701 : decode cL_law 701 = .ok (.if_icmp .ne 5, 3) := by decide +kernel
theorem dL_law_704 : decode cL_law 704 = .ok (.iconst 0, 1) := by decide +kernel
theorem dL_law_705 : decode cL_law 705 = .ok (.ireturn, 1) := by decide +kernel
theorem dL_law_706 : decode cL_law 706 = .ok (.iinc 16 1, 3) := by decide +kernel
theorem dL_law_709 : decode cL_law 709 = .ok (.goto (-61), 3) := by decide +kernel
theorem dL_law_712 : decode cL_law 712 = .ok (.iinc 12 1, 3) := by decide +kernel
theorem dL_law_715 : decode cL_law 715 = .ok (.goto (-253), 3) := by decide +kernel
theorem dL_law_718 : decode cL_law 718 = .ok (.aload_n 0, 1) := by decide +kernel
theorem dL_law_719 : decode cL_law 719 = .ok (.bipush 9, 2) := by decide +kernel
theorem dL_law_721 : decode cL_law 721 = .ok (.invokestatic 9, 3) := by decide +kernel
theorem dL_law_724 : decode cL_law 724 = .ok (.bipush 6, 2) := by decide +kernel
theorem dL_law_726 : decode cL_law 726 = .ok (.invokestatic 15, 3) := by decide +kernel
theorem dL_law_729 : decode cL_law 729 = .ok (.istore 12, 2) := by decide +kernel
theorem dL_law_731 : decode cL_law 731 = .ok (.aload_n 0, 1) := by decide +kernel
theorem dL_law_732 : decode cL_law 732 = .ok (.bipush 10, 2) := by decide +kernel
theorem dL_law_734 : decode cL_law 734 = .ok (.invokestatic 9, 3) := by decide +kernel
theorem dL_law_737 : decode cL_law 737 = .ok (.iconst 1, 1) := by decide +kernel
theorem dL_law_738 : decode cL_law 738 = .ok (.iload_n 3, 1) := by decide +kernel
theorem dL_law_739 : decode cL_law 739 = .ok (.ishl, 1) := by decide +kernel
theorem dL_law_740 : decode cL_law 740 = .ok (.invokestatic 15, 3) := by decide +kernel
theorem dL_law_743 : decode cL_law 743 = .ok (.istore 13, 2) := by decide +kernel
theorem dL_law_745 : decode cL_law 745 = .ok (.aload_n 1, 1) := by decide +kernel
theorem dL_law_746 : decode cL_law 746 = .ok (.iload 12, 2) := by decide +kernel
theorem dL_law_748 : decode cL_law 748 = .ok (.iload 13, 2) := by decide +kernel
theorem dL_law_750 : decode cL_law 750 = .ok (.iconst 5, 1) := by decide +kernel
theorem dL_law_751 : decode cL_law 751 = .ok (.invokevirtual 87, 3) := by decide +kernel
theorem dL_law_754 : decode cL_law 754 = .ok (.istore 14, 2) := by decide +kernel
theorem dL_law_756 : decode cL_law 756 = .ok (.aload_n 1, 1) := by decide +kernel
theorem dL_law_757 : decode cL_law 757 = .ok (.iload 13, 2) := by decide +kernel
theorem dL_law_759 : decode cL_law 759 = .ok (.invokevirtual 75, 3) := by decide +kernel
theorem dL_law_762 : decode cL_law 762 = .ok (.iload 12, 2) := by decide +kernel
theorem dL_law_764 : decode cL_law 764 = .ok (.ishr, 1) := by decide +kernel
theorem dL_law_765 : decode cL_law 765 = .ok (.iconst 1, 1) := by decide +kernel
theorem dL_law_766 : decode cL_law 766 = .ok (.iand, 1) := by decide +kernel
theorem dL_law_767 : decode cL_law 767 = .ok (.iconst 1, 1) := by decide +kernel
theorem dL_law_768 : decode cL_law 768 = .ok (.if_icmp .ne 7, 3) := by decide +kernel
theorem dL_law_771 : decode cL_law 771 = .ok (.iconst 1, 1) := by decide +kernel
theorem dL_law_772 : decode cL_law 772 = .ok (.goto 4, 3) := by decide +kernel
theorem dL_law_775 : decode cL_law 775 = .ok (.iconst 0, 1) := by decide +kernel
theorem dL_law_776 : decode cL_law 776 = .ok (.istore 15, 2) := by decide +kernel
theorem dL_law_778 : decode cL_law 778 = .ok (.iload 14, 2) := by decide +kernel
theorem dL_law_780 : decode cL_law 780 = .ok (.bipush (-9), 2) := by decide +kernel
theorem dL_law_782 : decode cL_law 782 = .ok (.if_icmp .lt 44, 3) := by decide +kernel
theorem dL_law_785 : decode cL_law 785 = .ok (.iload 14, 2) := by decide +kernel
theorem dL_law_787 : decode cL_law 787 = .ok (.iconst 4, 1) := by decide +kernel
theorem dL_law_788 : decode cL_law 788 = .ok (.if_icmp .gt 38, 3) := by decide +kernel
theorem dL_law_791 : decode cL_law 791 = .ok (.iload 14, 2) := by decide +kernel
theorem dL_law_793 : decode cL_law 793 = .ok (.ifCond .ge 10, 3) := by decide +kernel
theorem dL_law_796 : decode cL_law 796 = .ok (.iload 14, 2) := by decide +kernel
theorem dL_law_798 : decode cL_law 798 = .ok (.bipush (-9), 2) := by decide +kernel
theorem dL_law_800 : decode cL_law 800 = .ok (.if_icmp .ne 26, 3) := by decide +kernel
theorem dL_law_803 : decode cL_law 803 = .ok (.iload 14, 2) := by decide +kernel
theorem dL_law_805 : decode cL_law 805 = .ok (.ifCond .ne 7, 3) := by decide +kernel
theorem dL_law_808 : decode cL_law 808 = .ok (.iconst 1, 1) := by decide +kernel
theorem dL_law_809 : decode cL_law 809 = .ok (.goto 4, 3) := by decide +kernel
theorem dL_law_812 : decode cL_law 812 = .ok (.iconst 0, 1) := by decide +kernel
theorem dL_law_813 : decode cL_law 813 = .ok (.iload 15, 2) := by decide +kernel
theorem dL_law_815 : decode cL_law 815 = .ok (.ifCond .ne 7, 3) := by decide +kernel
theorem dL_law_818 : decode cL_law 818 = .ok (.iconst 1, 1) := by decide +kernel
theorem dL_law_819 : decode cL_law 819 = .ok (.goto 4, 3) := by decide +kernel
theorem dL_law_822 : decode cL_law 822 = .ok (.iconst 0, 1) := by decide +kernel
theorem dL_law_823 : decode cL_law 823 = .ok (.if_icmp .eq 5, 3) := by decide +kernel
theorem dL_law_826 : decode cL_law 826 = .ok (.iconst 0, 1) := by decide +kernel
theorem dL_law_827 : decode cL_law 827 = .ok (.ireturn, 1) := by decide +kernel
theorem dL_law_828 : decode cL_law 828 = .ok (.iconst 0, 1) := by decide +kernel
theorem dL_law_829 : decode cL_law 829 = .ok (.istore 16, 2) := by decide +kernel
theorem dL_law_831 : decode cL_law 831 = .ok (.iconst 0, 1) := by decide +kernel
theorem dL_law_832 : decode cL_law 832 = .ok (.istore 17, 2) := by decide +kernel
theorem dL_law_834 : decode cL_law 834 = .ok (.iload 17, 2) := by decide +kernel
theorem dL_law_836 : decode cL_law 836 = .ok (.iload 14, 2) := by decide +kernel
theorem dL_law_838 : decode cL_law 838 = .ok (.if_icmp .ge 79, 3) := by decide +kernel
theorem dL_law_841 : decode cL_law 841 = .ok (.aload_n 1, 1) := by decide +kernel
theorem dL_law_842 : decode cL_law 842 = .ok (.iconst 5, 1) := by decide +kernel
theorem dL_law_843 : decode cL_law 843 = .ok (.iload 17, 2) := by decide +kernel
theorem dL_law_845 : decode cL_law 845 = .ok (.invokevirtual 90, 3) := by decide +kernel
theorem dL_law_848 : decode cL_law 848 = .ok (.istore 18, 2) := by decide +kernel
theorem dL_law_850 : decode cL_law 850 = .ok (.aload_n 1, 1) := by decide +kernel
theorem dL_law_851 : decode cL_law 851 = .ok (.invokevirtual 42, 3) := by decide +kernel
theorem dL_law_854 : decode cL_law 854 = .ok (.istore 19, 2) := by decide +kernel
theorem dL_law_856 : decode cL_law 856 = .ok (.iload 18, 2) := by decide +kernel
theorem dL_law_858 : decode cL_law 858 = .ok (.iconst 1, 1) := by decide +kernel
theorem dL_law_859 : decode cL_law 859 = .ok (.if_icmp .ne 46, 3) := by decide +kernel
theorem dL_law_862 : decode cL_law 862 = .ok (.iload 19, 2) := by decide +kernel
theorem dL_law_864 : decode cL_law 864 = .ok (.iload 16, 2) := by decide +kernel
theorem dL_law_866 : decode cL_law 866 = .ok (.if_icmp .lt 39, 3) := by decide +kernel
theorem dL_law_869 : decode cL_law 869 = .ok (.iload 13, 2) := by decide +kernel
theorem dL_law_871 : decode cL_law 871 = .ok (.iload 19, 2) := by decide +kernel
theorem dL_law_873 : decode cL_law 873 = .ok (.ishr, 1) := by decide +kernel
theorem dL_law_874 : decode cL_law 874 = .ok (.iconst 1, 1) := by decide +kernel
theorem dL_law_875 : decode cL_law 875 = .ok (.iand, 1) := by decide +kernel
theorem dL_law_876 : decode cL_law 876 = .ok (.iconst 1, 1) := by decide +kernel
theorem dL_law_877 : decode cL_law 877 = .ok (.if_icmp .ne 28, 3) := by decide +kernel
theorem dL_law_880 : decode cL_law 880 = .ok (.aload_n 1, 1) := by decide +kernel
theorem dL_law_881 : decode cL_law 881 = .ok (.iload 13, 2) := by decide +kernel
theorem dL_law_883 : decode cL_law 883 = .ok (.invokevirtual 75, 3) := by decide +kernel
theorem dL_law_886 : decode cL_law 886 = .ok (.iload 12, 2) := by decide +kernel
theorem dL_law_888 : decode cL_law 888 = .ok (.ishr, 1) := by decide +kernel
theorem dL_law_889 : decode cL_law 889 = .ok (.iconst 1, 1) := by decide +kernel
theorem dL_law_890 : decode cL_law 890 = .ok (.iand, 1) := by decide +kernel
theorem dL_law_891 : decode cL_law 891 = .ok (.iconst 1, 1) := by decide +kernel
theorem dL_law_892 : decode cL_law 892 = .ok (.if_icmp .ne 13, 3) := by decide +kernel
theorem dL_law_895 : decode cL_law 895 = .ok (.aload_n 1, 1) := by decide +kernel
theorem dL_law_896 : decode cL_law 896 = .ok (.iload 19, 2) := by decide +kernel
theorem dL_law_898 : decode cL_law 898 = .ok (.invokevirtual 93, 3) := by decide +kernel
theorem dL_law_901 : decode cL_law 901 = .ok (.iconst 1, 1) := by decide +kernel
theorem dL_law_902 : decode cL_law 902 = .ok (.if_icmp .ge 5, 3) := by decide +kernel
theorem dL_law_905 : decode cL_law 905 = .ok (.iconst 0, 1) := by decide +kernel
theorem dL_law_906 : decode cL_law 906 = .ok (.ireturn, 1) := by decide +kernel
theorem dL_law_907 : decode cL_law 907 = .ok (.iload 19, 2) := by decide +kernel
theorem dL_law_909 : decode cL_law 909 = .ok (.istore 16, 2) := by decide +kernel
theorem dL_law_911 : decode cL_law 911 = .ok (.iinc 17 1, 3) := by decide +kernel
theorem dL_law_914 : decode cL_law 914 = .ok (.goto (-80), 3) := by decide +kernel
theorem dL_law_917 : decode cL_law 917 = .ok (.iload 14, 2) := by decide +kernel
theorem dL_law_919 : decode cL_law 919 = .ok (.ifCond .lt 30, 3) := by decide +kernel
theorem dL_law_922 : decode cL_law 922 = .ok (.aload_n 1, 1) := by decide +kernel
theorem dL_law_923 : decode cL_law 923 = .ok (.iload 13, 2) := by decide +kernel
theorem dL_law_925 : decode cL_law 925 = .ok (.invokevirtual 75, 3) := by decide +kernel
theorem dL_law_928 : decode cL_law 928 = .ok (.iload 12, 2) := by decide +kernel
theorem dL_law_930 : decode cL_law 930 = .ok (.ishr, 1) := by decide +kernel
theorem dL_law_931 : decode cL_law 931 = .ok (.iconst 1, 1) := by decide +kernel
theorem dL_law_932 : decode cL_law 932 = .ok (.iand, 1) := by decide +kernel
theorem dL_law_933 : decode cL_law 933 = .ok (.iconst 1, 1) := by decide +kernel
theorem dL_law_934 : decode cL_law 934 = .ok (.if_icmp .eq 25, 3) := by decide +kernel
theorem dL_law_937 : decode cL_law 937 = .ok (.aload_n 1, 1) := by decide +kernel
theorem dL_law_938 : decode cL_law 938 = .ok (.iload 12, 2) := by decide +kernel
theorem dL_law_940 : decode cL_law 940 = .ok (.iload 13, 2) := by decide +kernel
theorem dL_law_942 : decode cL_law 942 = .ok (.iconst 5, 1) := by decide +kernel
theorem dL_law_943 : decode cL_law 943 = .ok (.invokevirtual 87, 3) := by decide +kernel
theorem dL_law_946 : decode cL_law 946 = .ok (.ifCond .ne 13, 3) := by decide +kernel
theorem dL_law_949 : decode cL_law 949 = .ok (.aload_n 1, 1) := by decide +kernel
theorem dL_law_950 : decode cL_law 950 = .ok (.iconst 0, 1) := by decide +kernel
theorem dL_law_951 : decode cL_law 951 = .ok (.invokevirtual 96, 3) := by decide +kernel
theorem dL_law_954 : decode cL_law 954 = .ok (.iload 5, 2) := by decide +kernel
theorem dL_law_956 : decode cL_law 956 = .ok (.if_icmp .eq 5, 3) := by decide +kernel
theorem dL_law_959 : decode cL_law 959 = .ok (.iconst 0, 1) := by decide +kernel
theorem dL_law_960 : decode cL_law 960 = .ok (.ireturn, 1) := by decide +kernel
theorem dL_law_961 : decode cL_law 961 = .ok (.aload_n 0, 1) := by decide +kernel
theorem dL_law_962 : decode cL_law 962 = .ok (.bipush 11, 2) := by decide +kernel
theorem dL_law_964 : decode cL_law 964 = .ok (.invokestatic 9, 3) := by decide +kernel
theorem dL_law_967 : decode cL_law 967 = .ok (.bipush 64, 2) := by decide +kernel
theorem dL_law_969 : decode cL_law 969 = .ok (.invokestatic 15, 3) := by decide +kernel
theorem dL_law_972 : decode cL_law 972 = .ok (.istore 17, 2) := by decide +kernel
theorem dL_law_974 : decode cL_law 974 = .ok (.aload_n 1, 1) := by decide +kernel
theorem dL_law_975 : decode cL_law 975 = .ok (.iload 17, 2) := by decide +kernel
theorem dL_law_977 : decode cL_law 977 = .ok (.invokevirtual 99, 3) := by decide +kernel
theorem dL_law_980 : decode cL_law 980 = .ok (.istore 18, 2) := by decide +kernel
theorem dL_law_982 : decode cL_law 982 = .ok (.aload_n 1, 1) := by decide +kernel
theorem dL_law_983 : decode cL_law 983 = .ok (.iload 18, 2) := by decide +kernel
theorem dL_law_985 : decode cL_law 985 = .ok (.invokestatic 84, 3) := by decide +kernel
theorem dL_law_988 : decode cL_law 988 = .ok (.istore 19, 2) := by decide +kernel
theorem dL_law_990 : decode cL_law 990 = .ok (.iconst 0, 1) := by decide +kernel
theorem dL_law_991 : decode cL_law 991 = .ok (.istore 20, 2) := by decide +kernel
theorem dL_law_993 : decode cL_law 993 = .ok (.iconst 0, 1) := by decide +kernel
theorem dL_law_994 : decode cL_law 994 = .ok (.istore 21, 2) := by decide +kernel
theorem dL_law_996 : decode cL_law 996 = .ok (.iconst 0, 1) := by decide +kernel
theorem dL_law_997 : decode cL_law 997 = .ok (.istore 22, 2) := by decide +kernel
theorem dL_law_999 : decode cL_law 999 = .ok (.iload 22, 2) := by decide +kernel
theorem dL_law_1001 : decode cL_law 1001 = .ok (.iload_n 3, 1) := by decide +kernel
theorem dL_law_1002 : decode cL_law 1002 = .ok (.if_icmp .ge 49, 3) := by decide +kernel
theorem dL_law_1005 : decode cL_law 1005 = .ok (.iload 20, 2) := by decide +kernel
theorem dL_law_1007 : decode cL_law 1007 = .ok (.iload 18, 2) := by decide +kernel
theorem dL_law_1009 : decode cL_law 1009 = .ok (.ifCond .lt 22, 3) := by decide +kernel
theorem dL_law_1012 : decode cL_law 1012 = .ok (.iload 19, 2) := by decide +kernel
theorem dL_law_1014 : decode cL_law 1014 = .ok (.iload 22, 2) := by decide +kernel
theorem dL_law_1016 : decode cL_law 1016 = .ok (.ishr, 1) := by decide +kernel
theorem dL_law_1017 : decode cL_law 1017 = .ok (.iconst 1, 1) := by decide +kernel
theorem dL_law_1018 : decode cL_law 1018 = .ok (.iand, 1) := by decide +kernel
theorem dL_law_1019 : decode cL_law 1019 = .ok (.iconst 1, 1) := by decide +kernel
theorem dL_law_1020 : decode cL_law 1020 = .ok (.if_icmp .ne 11, 3) := by decide +kernel
theorem dL_law_1023 : decode cL_law 1023 = .ok (.aload 11, 2) := by decide +kernel
theorem dL_law_1025 : decode cL_law 1025 = .ok (.iload 22, 2) := by decide +kernel
theorem dL_law_1027 : decode cL_law 1027 = .ok (.iaload, 1) := by decide +kernel
theorem dL_law_1028 : decode cL_law 1028 = .ok (.goto 4, 3) := by decide +kernel
theorem dL_law_1031 : decode cL_law 1031 = .ok (.iconst 0, 1) := by decide +kernel
theorem dL_law_1032 : decode cL_law 1032 = .ok (.ior, 1) := by decide +kernel
theorem dL_law_1033 : decode cL_law 1033 = .ok (.istore 20, 2) := by decide +kernel
theorem dL_law_1035 : decode cL_law 1035 = .ok (.iload 21, 2) := by decide +kernel
theorem dL_law_1037 : decode cL_law 1037 = .ok (.aload 11, 2) := by decide +kernel
theorem dL_law_1039 : decode cL_law 1039 = .ok (.iload 22, 2) := by decide +kernel
theorem dL_law_1041 : decode cL_law 1041 = .ok (.iaload, 1) := by decide +kernel
theorem dL_law_1042 : decode cL_law 1042 = .ok (.ior, 1) := by decide +kernel
theorem dL_law_1043 : decode cL_law 1043 = .ok (.istore 21, 2) := by decide +kernel
theorem dL_law_1045 : decode cL_law 1045 = .ok (.iinc 22 1, 3) := by decide +kernel
theorem dL_law_1048 : decode cL_law 1048 = .ok (.goto (-49), 3) := by decide +kernel
theorem dL_law_1051 : decode cL_law 1051 = .ok (.iload 18, 2) := by decide +kernel
theorem dL_law_1053 : decode cL_law 1053 = .ok (.bipush (-9), 2) := by decide +kernel
theorem dL_law_1055 : decode cL_law 1055 = .ok (.if_icmp .ne 7, 3) := by decide +kernel
theorem dL_law_1058 : decode cL_law 1058 = .ok (.iconst 1, 1) := by decide +kernel
theorem dL_law_1059 : decode cL_law 1059 = .ok (.goto 4, 3) := by decide +kernel
theorem dL_law_1062 : decode cL_law 1062 = .ok (.iconst 0, 1) := by decide +kernel
theorem dL_law_1063 : decode cL_law 1063 = .ok (.iload 17, 2) := by decide +kernel
theorem dL_law_1065 : decode cL_law 1065 = .ok (.iload 21, 2) := by decide +kernel
theorem dL_law_1067 : decode cL_law 1067 = .ok (.iconst (-1), 1) := by decide +kernel
theorem dL_law_1068 : decode cL_law 1068 = .ok (.ixor, 1) := by decide +kernel
theorem dL_law_1069 : decode cL_law 1069 = .ok (.iand, 1) := by decide +kernel
theorem dL_law_1070 : decode cL_law 1070 = .ok (.ifCond .eq 7, 3) := by decide +kernel
theorem dL_law_1073 : decode cL_law 1073 = .ok (.iconst 1, 1) := by decide +kernel
theorem dL_law_1074 : decode cL_law 1074 = .ok (.goto 4, 3) := by decide +kernel
theorem dL_law_1077 : decode cL_law 1077 = .ok (.iconst 0, 1) := by decide +kernel
theorem dL_law_1078 : decode cL_law 1078 = .ok (.if_icmp .ne 51, 3) := by decide +kernel
theorem dL_law_1081 : decode cL_law 1081 = .ok (.iload 18, 2) := by decide +kernel
theorem dL_law_1083 : decode cL_law 1083 = .ok (.ifCond .lt 48, 3) := by decide +kernel
theorem dL_law_1086 : decode cL_law 1086 = .ok (.iload 18, 2) := by decide +kernel
theorem dL_law_1088 : decode cL_law 1088 = .ok (.iload 19, 2) := by decide +kernel
theorem dL_law_1090 : decode cL_law 1090 = .ok (.invokestatic 62, 3) := by decide +kernel
theorem dL_law_1093 : decode cL_law 1093 = .ok (.if_icmp .ne 36, 3) := by decide +kernel
theorem dL_law_1096 : decode cL_law 1096 = .ok (.iload 17, 2) := by decide +kernel
theorem dL_law_1098 : decode cL_law 1098 = .ok (.iload 20, 2) := by decide +kernel
theorem dL_law_1100 : decode cL_law 1100 = .ok (.iconst (-1), 1) := by decide +kernel
theorem dL_law_1101 : decode cL_law 1101 = .ok (.ixor, 1) := by decide +kernel
theorem dL_law_1102 : decode cL_law 1102 = .ok (.iand, 1) := by decide +kernel
theorem dL_law_1103 : decode cL_law 1103 = .ok (.ifCond .ne 26, 3) := by decide +kernel
theorem dL_law_1106 : decode cL_law 1106 = .ok (.iload 18, 2) := by decide +kernel
theorem dL_law_1108 : decode cL_law 1108 = .ok (.ifCond .ne 7, 3) := by decide +kernel
theorem dL_law_1111 : decode cL_law 1111 = .ok (.iconst 1, 1) := by decide +kernel
theorem dL_law_1112 : decode cL_law 1112 = .ok (.goto 4, 3) := by decide +kernel
theorem dL_law_1115 : decode cL_law 1115 = .ok (.iconst 0, 1) := by decide +kernel
theorem dL_law_1116 : decode cL_law 1116 = .ok (.iload 17, 2) := by decide +kernel
theorem dL_law_1118 : decode cL_law 1118 = .ok (.ifCond .ne 7, 3) := by decide +kernel
theorem dL_law_1121 : decode cL_law 1121 = .ok (.iconst 1, 1) := by decide +kernel
theorem dL_law_1122 : decode cL_law 1122 = .ok (.goto 4, 3) := by decide +kernel
theorem dL_law_1125 : decode cL_law 1125 = .ok (.iconst 0, 1) := by decide +kernel
theorem dL_law_1126 : decode cL_law 1126 = .ok (.if_icmp .eq 5, 3) := by decide +kernel
theorem dL_law_1129 : decode cL_law 1129 = .ok (.iconst 0, 1) := by decide +kernel
theorem dL_law_1130 : decode cL_law 1130 = .ok (.ireturn, 1) := by decide +kernel
theorem dL_law_1131 : decode cL_law 1131 = .ok (.aload_n 1, 1) := by decide +kernel
theorem dL_law_1132 : decode cL_law 1132 = .ok (.invokevirtual 102, 3) := by decide +kernel
theorem dL_law_1135 : decode cL_law 1135 = .ok (.istore 22, 2) := by decide +kernel
theorem dL_law_1137 : decode cL_law 1137 = .ok (.aload_n 1, 1) := by decide +kernel
theorem dL_law_1138 : decode cL_law 1138 = .ok (.invokevirtual 42, 3) := by decide +kernel
theorem dL_law_1141 : decode cL_law 1141 = .ok (.istore 23, 2) := by decide +kernel
theorem dL_law_1143 : decode cL_law 1143 = .ok (.iconst 0, 1) := by decide +kernel
theorem dL_law_1144 : decode cL_law 1144 = .ok (.istore 24, 2) := by decide +kernel
theorem dL_law_1146 : decode cL_law 1146 = .ok (.iconst 0, 1) := by decide +kernel
theorem dL_law_1147 : decode cL_law 1147 = .ok (.istore 25, 2) := by decide +kernel
theorem dL_law_1149 : decode cL_law 1149 = .ok (.iload 25, 2) := by decide +kernel
theorem dL_law_1151 : decode cL_law 1151 = .ok (.iload_n 3, 1) := by decide +kernel
theorem dL_law_1152 : decode cL_law 1152 = .ok (.if_icmp .ge 109, 3) := by decide +kernel
theorem dL_law_1155 : decode cL_law 1155 = .ok (.iconst 0, 1) := by decide +kernel
theorem dL_law_1156 : decode cL_law 1156 = .ok (.istore 26, 2) := by decide +kernel
theorem dL_law_1158 : decode cL_law 1158 = .ok (.iload 26, 2) := by decide +kernel
theorem dL_law_1160 : decode cL_law 1160 = .ok (.iload 25, 2) := by decide +kernel
theorem dL_law_1162 : decode cL_law 1162 = .ok (.if_icmp .ge 93, 3) := by decide +kernel
theorem dL_law_1165 : decode cL_law 1165 = .ok (.aload_n 1, 1) := by decide +kernel
theorem dL_law_1166 : decode cL_law 1166 = .ok (.iload 25, 2) := by decide +kernel
theorem dL_law_1168 : decode cL_law 1168 = .ok (.iload 26, 2) := by decide +kernel
theorem dL_law_1170 : decode cL_law 1170 = .ok (.invokevirtual 105, 3) := by decide +kernel
theorem dL_law_1173 : decode cL_law 1173 = .ok (.istore 27, 2) := by decide +kernel
theorem dL_law_1175 : decode cL_law 1175 = .ok (.iload 24, 2) := by decide +kernel
theorem dL_law_1177 : decode cL_law 1177 = .ok (.iload 27, 2) := by decide +kernel
theorem dL_law_1179 : decode cL_law 1179 = .ok (.ifCond .ne 7, 3) := by decide +kernel
theorem dL_law_1182 : decode cL_law 1182 = .ok (.iconst 0, 1) := by decide +kernel
theorem dL_law_1183 : decode cL_law 1183 = .ok (.goto 4, 3) := by decide +kernel
theorem dL_law_1186 : decode cL_law 1186 = .ok (.iconst 1, 1) := by decide +kernel
theorem dL_law_1187 : decode cL_law 1187 = .ok (.iadd, 1) := by decide +kernel
theorem dL_law_1188 : decode cL_law 1188 = .ok (.istore 24, 2) := by decide +kernel
theorem dL_law_1190 : decode cL_law 1190 = .ok (.iload 27, 2) := by decide +kernel
theorem dL_law_1192 : decode cL_law 1192 = .ok (.aload_n 1, 1) := by decide +kernel
theorem dL_law_1193 : decode cL_law 1193 = .ok (.iload 26, 2) := by decide +kernel
theorem dL_law_1195 : decode cL_law 1195 = .ok (.iload 25, 2) := by decide +kernel
theorem dL_law_1197 : decode cL_law 1197 = .ok (.invokevirtual 105, 3) := by decide +kernel
theorem dL_law_1200 : decode cL_law 1200 = .ok (.if_icmp .ne 47, 3) := by decide +kernel
theorem dL_law_1203 : decode cL_law 1203 = .ok (.iload 27, 2) := by decide +kernel
theorem dL_law_1205 : decode cL_law 1205 = .ok (.aload 11, 2) := by decide +kernel
theorem dL_law_1207 : decode cL_law 1207 = .ok (.iload 25, 2) := by decide +kernel
theorem dL_law_1209 : decode cL_law 1209 = .ok (.iaload, 1) := by decide +kernel
theorem dL_law_1210 : decode cL_law 1210 = .ok (.aload 11, 2) := by decide +kernel
theorem dL_law_1212 : decode cL_law 1212 = .ok (.iload 26, 2) := by decide +kernel
theorem dL_law_1214 : decode cL_law 1214 = .ok (.iaload, 1) := by decide +kernel
theorem dL_law_1215 : decode cL_law 1215 = .ok (.iand, 1) := by decide +kernel
theorem dL_law_1216 : decode cL_law 1216 = .ok (.iconst (-1), 1) := by decide +kernel
theorem dL_law_1217 : decode cL_law 1217 = .ok (.ixor, 1) := by decide +kernel
theorem dL_law_1218 : decode cL_law 1218 = .ok (.iand, 1) := by decide +kernel
theorem dL_law_1219 : decode cL_law 1219 = .ok (.ifCond .ne 28, 3) := by decide +kernel
theorem dL_law_1222 : decode cL_law 1222 = .ok (.iload 27, 2) := by decide +kernel
theorem dL_law_1224 : decode cL_law 1224 = .ok (.ifCond .eq 25, 3) := by decide +kernel
theorem dL_law_1227 : decode cL_law 1227 = .ok (.iload 23, 2) := by decide +kernel
theorem dL_law_1229 : decode cL_law 1229 = .ok (.iload 25, 2) := by decide +kernel
theorem dL_law_1231 : decode cL_law 1231 = .ok (.ishr, 1) := by decide +kernel
theorem dL_law_1232 : decode cL_law 1232 = .ok (.iconst 1, 1) := by decide +kernel
theorem dL_law_1233 : decode cL_law 1233 = .ok (.iand, 1) := by decide +kernel
theorem dL_law_1234 : decode cL_law 1234 = .ok (.ifCond .ne 15, 3) := by decide +kernel
theorem dL_law_1237 : decode cL_law 1237 = .ok (.iload 23, 2) := by decide +kernel
theorem dL_law_1239 : decode cL_law 1239 = .ok (.iload 26, 2) := by decide +kernel
theorem dL_law_1241 : decode cL_law 1241 = .ok (.ishr, 1) := by decide +kernel
theorem dL_law_1242 : decode cL_law 1242 = .ok (.iconst 1, 1) := by decide +kernel
theorem dL_law_1243 : decode cL_law 1243 = .ok (.iand, 1) := by decide +kernel
theorem dL_law_1244 : decode cL_law 1244 = .ok (.ifCond .ne 5, 3) := by decide +kernel
theorem dL_law_1247 : decode cL_law 1247 = .ok (.iconst 0, 1) := by decide +kernel
theorem dL_law_1248 : decode cL_law 1248 = .ok (.ireturn, 1) := by decide +kernel
theorem dL_law_1249 : decode cL_law 1249 = .ok (.iinc 26 1, 3) := by decide +kernel
theorem dL_law_1252 : decode cL_law 1252 = .ok (.goto (-94), 3) := by decide +kernel
theorem dL_law_1255 : decode cL_law 1255 = .ok (.iinc 25 1, 3) := by decide +kernel
theorem dL_law_1258 : decode cL_law 1258 = .ok (.goto (-109), 3) := by decide +kernel
theorem dL_law_1261 : decode cL_law 1261 = .ok (.iload 22, 2) := by decide +kernel
theorem dL_law_1263 : decode cL_law 1263 = .ok (.iload 23, 2) := by decide +kernel
theorem dL_law_1265 : decode cL_law 1265 = .ok (.invokestatic 62, 3) := by decide +kernel
theorem dL_law_1268 : decode cL_law 1268 = .ok (.if_icmp .ne 32, 3) := by decide +kernel
theorem dL_law_1271 : decode cL_law 1271 = .ok (.iload 22, 2) := by decide +kernel
theorem dL_law_1273 : decode cL_law 1273 = .ok (.iload_n 3, 1) := by decide +kernel
theorem dL_law_1274 : decode cL_law 1274 = .ok (.if_icmp .ge 26, 3) := by decide +kernel
theorem dL_law_1277 : decode cL_law 1277 = .ok (.iload 22, 2) := by decide +kernel
theorem dL_law_1279 : decode cL_law 1279 = .ok (.ifCond .ne 7, 3) := by decide +kernel
theorem dL_law_1282 : decode cL_law 1282 = .ok (.iconst 1, 1) := by decide +kernel
theorem dL_law_1283 : decode cL_law 1283 = .ok (.goto 4, 3) := by decide +kernel
theorem dL_law_1286 : decode cL_law 1286 = .ok (.iconst 0, 1) := by decide +kernel
theorem dL_law_1287 : decode cL_law 1287 = .ok (.iload 24, 2) := by decide +kernel
theorem dL_law_1289 : decode cL_law 1289 = .ok (.ifCond .ne 7, 3) := by decide +kernel
theorem dL_law_1292 : decode cL_law 1292 = .ok (.iconst 1, 1) := by decide +kernel
theorem dL_law_1293 : decode cL_law 1293 = .ok (.goto 4, 3) := by decide +kernel
theorem dL_law_1296 : decode cL_law 1296 = .ok (.iconst 0, 1) := by decide +kernel
theorem dL_law_1297 : decode cL_law 1297 = .ok (.if_icmp .eq 5, 3) := by decide +kernel
theorem dL_law_1300 : decode cL_law 1300 = .ok (.iconst 0, 1) := by decide +kernel
theorem dL_law_1301 : decode cL_law 1301 = .ok (.ireturn, 1) := by decide +kernel
theorem dL_law_1302 : decode cL_law 1302 = .ok (.aload_n 0, 1) := by decide +kernel
theorem dL_law_1303 : decode cL_law 1303 = .ok (.bipush 12, 2) := by decide +kernel
theorem dL_law_1305 : decode cL_law 1305 = .ok (.invokestatic 9, 3) := by decide +kernel
theorem dL_law_1308 : decode cL_law 1308 = .ok (.bipush 9, 2) := by decide +kernel
theorem dL_law_1310 : decode cL_law 1310 = .ok (.invokestatic 15, 3) := by decide +kernel
theorem dL_law_1313 : decode cL_law 1313 = .ok (.istore 25, 2) := by decide +kernel
theorem dL_law_1315 : decode cL_law 1315 = .ok (.aload_n 1, 1) := by decide +kernel
theorem dL_law_1316 : decode cL_law 1316 = .ok (.iconst 3, 1) := by decide +kernel
theorem dL_law_1317 : decode cL_law 1317 = .ok (.iconst 2, 1) := by decide +kernel
theorem dL_law_1318 : decode cL_law 1318 = .ok (.iload 25, 2) := by decide +kernel
theorem dL_law_1320 : decode cL_law 1320 = .ok (.imul, 1) := by decide +kernel
theorem dL_law_1321 : decode cL_law 1321 = .ok (.invokevirtual 108, 3) := by decide +kernel
theorem dL_law_1324 : decode cL_law 1324 = .ok (.iconst 2, 1) := by decide +kernel
theorem dL_law_1325 : decode cL_law 1325 = .ok (.iload 25, 2) := by decide +kernel
theorem dL_law_1327 : decode cL_law 1327 = .ok (.imul, 1) := by decide +kernel
theorem dL_law_1328 : decode cL_law 1328 = .ok (.if_icmp .eq 5, 3) := by decide +kernel
theorem dL_law_1331 : decode cL_law 1331 = .ok (.iconst 0, 1) := by decide +kernel
theorem dL_law_1332 : decode cL_law 1332 = .ok (.ireturn, 1) := by decide +kernel
theorem dL_law_1333 : decode cL_law 1333 = .ok (.iconst 0, 1) := by decide +kernel
theorem dL_law_1334 : decode cL_law 1334 = .ok (.istore 26, 2) := by decide +kernel
theorem dL_law_1336 : decode cL_law 1336 = .ok (.iconst 0, 1) := by decide +kernel
theorem dL_law_1337 : decode cL_law 1337 = .ok (.istore 27, 2) := by decide +kernel
theorem dL_law_1339 : decode cL_law 1339 = .ok (.iload 27, 2) := by decide +kernel
theorem dL_law_1341 : decode cL_law 1341 = .ok (.iload 25, 2) := by decide +kernel
theorem dL_law_1343 : decode cL_law 1343 = .ok (.if_icmp .ge 119, 3) := by decide +kernel
theorem dL_law_1346 : decode cL_law 1346 = .ok (.aload_n 0, 1) := by decide +kernel
theorem dL_law_1347 : decode cL_law 1347 = .ok (.bipush 13, 2) := by decide +kernel
theorem dL_law_1349 : decode cL_law 1349 = .ok (.iload 27, 2) := by decide +kernel
theorem dL_law_1351 : decode cL_law 1351 = .ok (.iadd, 1) := by decide +kernel
theorem dL_law_1352 : decode cL_law 1352 = .ok (.invokestatic 9, 3) := by decide +kernel
theorem dL_law_1355 : decode cL_law 1355 = .ok (.iload_n 3, 1) := by decide +kernel
theorem dL_law_1356 : decode cL_law 1356 = .ok (.invokestatic 15, 3) := by decide +kernel
theorem dL_law_1359 : decode cL_law 1359 = .ok (.istore 28, 2) := by decide +kernel
theorem dL_law_1361 : decode cL_law 1361 = .ok (.aload_n 0, 1) := by decide +kernel
theorem dL_law_1362 : decode cL_law 1362 = .ok (.bipush 13, 2) := by decide +kernel
theorem dL_law_1364 : decode cL_law 1364 = .ok (.iload 27, 2) := by decide +kernel
theorem dL_law_1366 : decode cL_law 1366 = .ok (.iadd, 1) := by decide +kernel
theorem dL_law_1367 : decode cL_law 1367 = .ok (.invokestatic 9, 3) := by decide +kernel
theorem dL_law_1370 : decode cL_law 1370 = .ok (.iconst 3, 1) := by decide +kernel
theorem dL_law_1371 : decode cL_law 1371 = .ok (.ishr, 1) := by decide +kernel
theorem dL_law_1372 : decode cL_law 1372 = .ok (.bipush 6, 2) := by decide +kernel
theorem dL_law_1374 : decode cL_law 1374 = .ok (.invokestatic 15, 3) := by decide +kernel
theorem dL_law_1377 : decode cL_law 1377 = .ok (.istore 29, 2) := by decide +kernel
theorem dL_law_1379 : decode cL_law 1379 = .ok (.aload_n 1, 1) := by decide +kernel
theorem dL_law_1380 : decode cL_law 1380 = .ok (.iload 28, 2) := by decide +kernel
theorem dL_law_1382 : decode cL_law 1382 = .ok (.iload 29, 2) := by decide +kernel
theorem dL_law_1384 : decode cL_law 1384 = .ok (.invokevirtual 72, 3) := by decide +kernel
theorem dL_law_1387 : decode cL_law 1387 = .ok (.istore 30, 2) := by decide +kernel
theorem dL_law_1389 : decode cL_law 1389 = .ok (.iload 26, 2) := by decide +kernel
theorem dL_law_1391 : decode cL_law 1391 = .ok (.iload 30, 2) := by decide +kernel
theorem dL_law_1393 : decode cL_law 1393 = .ok (.ifCond .lt 10, 3) := by decide +kernel
theorem dL_law_1396 : decode cL_law 1396 = .ok (.iconst 1, 1) := by decide +kernel
theorem dL_law_1397 : decode cL_law 1397 = .ok (.iload 28, 2) := by decide +kernel
theorem dL_law_1399 : decode cL_law 1399 = .ok (.ishl, 1) := by decide +kernel
theorem dL_law_1400 : decode cL_law 1400 = .ok (.goto 4, 3) := by decide +kernel
theorem dL_law_1403 : decode cL_law 1403 = .ok (.iconst 0, 1) := by decide +kernel
theorem dL_law_1404 : decode cL_law 1404 = .ok (.ior, 1) := by decide +kernel
theorem dL_law_1405 : decode cL_law 1405 = .ok (.istore 26, 2) := by decide +kernel
theorem dL_law_1407 : decode cL_law 1407 = .ok (.aload_n 1, 1) := by decide +kernel
theorem dL_law_1408 : decode cL_law 1408 = .ok (.iconst 3, 1) := by decide +kernel
theorem dL_law_1409 : decode cL_law 1409 = .ok (.iconst 2, 1) := by decide +kernel
theorem dL_law_1410 : decode cL_law 1410 = .ok (.iload 27, 2) := by decide +kernel
theorem dL_law_1412 : decode cL_law 1412 = .ok (.imul, 1) := by decide +kernel
theorem dL_law_1413 : decode cL_law 1413 = .ok (.bipush 8, 2) := by decide +kernel
theorem dL_law_1415 : decode cL_law 1415 = .ok (.iload 28, 2) := by decide +kernel
theorem dL_law_1417 : decode cL_law 1417 = .ok (.imul, 1) := by decide +kernel
theorem dL_law_1418 : decode cL_law 1418 = .ok (.iload 29, 2) := by decide +kernel
theorem dL_law_1420 : decode cL_law 1420 = .ok (.iadd, 1) := by decide +kernel
theorem dL_law_1421 : decode cL_law 1421 = .ok (.invokevirtual 111, 3) := by decide +kernel
theorem dL_law_1424 : decode cL_law 1424 = .ok (.iconst 1, 1) := by decide +kernel
theorem dL_law_1425 : decode cL_law 1425 = .ok (.if_icmp .ne 29, 3) := by decide +kernel
theorem dL_law_1428 : decode cL_law 1428 = .ok (.aload_n 1, 1) := by decide +kernel
theorem dL_law_1429 : decode cL_law 1429 = .ok (.iconst 3, 1) := by decide +kernel
theorem dL_law_1430 : decode cL_law 1430 = .ok (.iconst 2, 1) := by decide +kernel
theorem dL_law_1431 : decode cL_law 1431 = .ok (.iload 27, 2) := by decide +kernel
theorem dL_law_1433 : decode cL_law 1433 = .ok (.imul, 1) := by decide +kernel
theorem dL_law_1434 : decode cL_law 1434 = .ok (.iconst 1, 1) := by decide +kernel
theorem dL_law_1435 : decode cL_law 1435 = .ok (.iadd, 1) := by decide +kernel
theorem dL_law_1436 : decode cL_law 1436 = .ok (.iload 30, 2) := by decide +kernel
theorem dL_law_1438 : decode cL_law 1438 = .ok (.ifCond .ge 7, 3) := by decide +kernel
theorem dL_law_1441 : decode cL_law 1441 = .ok (.iconst 2, 1) := by decide +kernel
theorem dL_law_1442 : decode cL_law 1442 = .ok (.goto 5, 3) := by decide +kernel
theorem dL_law_1445 : decode cL_law 1445 = .ok (.iload 30, 2) := by decide +kernel
theorem dL_law_1447 : decode cL_law 1447 = .ok (.invokevirtual 111, 3) := by decide +kernel
theorem dL_law_1450 : decode cL_law 1450 = .ok (.iconst 1, 1) := by decide +kernel
theorem dL_law_1451 : decode cL_law 1451 = .ok (.if_icmp .eq 5, 3) := by decide +kernel
theorem dL_law_1454 : decode cL_law 1454 = .ok (.iconst 0, 1) := by decide +kernel
theorem dL_law_1455 : decode cL_law 1455 = .ok (.ireturn, 1) := by decide +kernel
theorem dL_law_1456 : decode cL_law 1456 = .ok (.iinc 27 1, 3) := by decide +kernel
theorem dL_law_1459 : decode cL_law 1459 = .ok (.goto (-120), 3) := by decide +kernel
theorem dL_law_1462 : decode cL_law 1462 = .ok (.aload_n 1, 1) := by decide +kernel
theorem dL_law_1463 : decode cL_law 1463 = .ok (.iconst 3, 1) := by decide +kernel
theorem dL_law_1464 : decode cL_law 1464 = .ok (.invokevirtual 113, 3) := by decide +kernel
theorem dL_law_1467 : decode cL_law 1467 = .ok (.iconst 1, 1) := by decide +kernel
theorem dL_law_1468 : decode cL_law 1468 = .ok (.if_icmp .ne 32, 3) := by decide +kernel
theorem dL_law_1471 : decode cL_law 1471 = .ok (.aload_n 1, 1) := by decide +kernel
theorem dL_law_1472 : decode cL_law 1472 = .ok (.invokevirtual 116, 3) := by decide +kernel
theorem dL_law_1475 : decode cL_law 1475 = .ok (.lconst 1, 1) := by decide +kernel
theorem dL_law_1476 : decode cL_law 1476 = .ok (.lcmp, 1) := by decide +kernel
theorem dL_law_1477 : decode cL_law 1477 = .ok (.ifCond .lt 23, 3) := by decide +kernel
theorem dL_law_1480 : decode cL_law 1480 = .ok (.aload_n 1, 1) := by decide +kernel
theorem dL_law_1481 : decode cL_law 1481 = .ok (.invokevirtual 116, 3) := by decide +kernel
theorem dL_law_1484 : decode cL_law 1484 = .ok (.ldc2_w 120, 3) := by decide +kernel
theorem dL_law_1487 : decode cL_law 1487 = .ok (.lcmp, 1) := by decide +kernel
theorem dL_law_1488 : decode cL_law 1488 = .ok (.ifCond .gt 12, 3) := by decide +kernel
theorem dL_law_1491 : decode cL_law 1491 = .ok (.aload_n 1, 1) := by decide +kernel
theorem dL_law_1492 : decode cL_law 1492 = .ok (.invokevirtual 42, 3) := by decide +kernel
theorem dL_law_1495 : decode cL_law 1495 = .ok (.iload 6, 2) := by decide +kernel
theorem dL_law_1497 : decode cL_law 1497 = .ok (.if_icmp .le 5, 3) := by decide +kernel
theorem dL_law_1500 : decode cL_law 1500 = .ok (.iconst 0, 1) := by decide +kernel
theorem dL_law_1501 : decode cL_law 1501 = .ok (.ireturn, 1) := by decide +kernel
theorem dL_law_1502 : decode cL_law 1502 = .ok (.aload_n 1, 1) := by decide +kernel
theorem dL_law_1503 : decode cL_law 1503 = .ok (.invokevirtual 116, 3) := by decide +kernel
theorem dL_law_1506 : decode cL_law 1506 = .ok (.lstore 27, 2) := by decide +kernel
theorem dL_law_1508 : decode cL_law 1508 = .ok (.aload_n 1, 1) := by decide +kernel
theorem dL_law_1509 : decode cL_law 1509 = .ok (.iconst 3, 1) := by decide +kernel
theorem dL_law_1510 : decode cL_law 1510 = .ok (.invokevirtual 122, 3) := by decide +kernel
theorem dL_law_1513 : decode cL_law 1513 = .ok (.istore 29, 2) := by decide +kernel
theorem dL_law_1515 : decode cL_law 1515 = .ok (.aload_n 1, 1) := by decide +kernel
theorem dL_law_1516 : decode cL_law 1516 = .ok (.invokevirtual 42, 3) := by decide +kernel
theorem dL_law_1519 : decode cL_law 1519 = .ok (.istore 30, 2) := by decide +kernel
theorem dL_law_1521 : decode cL_law 1521 = .ok (.aload_n 1, 1) := by decide +kernel
theorem dL_law_1522 : decode cL_law 1522 = .ok (.iconst 3, 1) := by decide +kernel
theorem dL_law_1523 : decode cL_law 1523 = .ok (.invokevirtual 125, 3) := by decide +kernel
theorem dL_law_1526 : decode cL_law 1526 = .ok (.istore 31, 2) := by decide +kernel
theorem dL_law_1528 : decode cL_law 1528 = .ok (.aload_n 1, 1) := by decide +kernel
theorem dL_law_1529 : decode cL_law 1529 = .ok (.invokevirtual 42, 3) := by decide +kernel
theorem dL_law_1532 : decode cL_law 1532 = .ok (.istore 32, 2) := by decide +kernel
theorem dL_law_1534 : decode cL_law 1534 = .ok (.aload_n 1, 1) := by decide +kernel
theorem dL_law_1535 : decode cL_law 1535 = .ok (.iconst 3, 1) := by decide +kernel
theorem dL_law_1536 : decode cL_law 1536 = .ok (.invokevirtual 128, 3) := by decide +kernel
theorem dL_law_1539 : decode cL_law 1539 = .ok (.istore 33, 2) := by decide +kernel
theorem dL_law_1541 : decode cL_law 1541 = .ok (.aload_n 1, 1) := by decide +kernel
theorem dL_law_1542 : decode cL_law 1542 = .ok (.invokevirtual 42, 3) := by decide +kernel
theorem dL_law_1545 : decode cL_law 1545 = .ok (.istore 34, 2) := by decide +kernel
theorem dL_law_1547 : decode cL_law 1547 = .ok (.iload 29, 2) := by decide +kernel
theorem dL_law_1549 : decode cL_law 1549 = .ok (.iload 6, 2) := by decide +kernel
theorem dL_law_1551 : decode cL_law 1551 = .ok (.iconst (-1), 1) := by decide +kernel
theorem dL_law_1552 : decode cL_law 1552 = .ok (.ixor, 1) := by decide +kernel
theorem dL_law_1553 : decode cL_law 1553 = .ok (.iand, 1) := by decide +kernel
theorem dL_law_1554 : decode cL_law 1554 = .ok (.ifCond .ne 87, 3) := by decide +kernel
theorem dL_law_1557 : decode cL_law 1557 = .ok (.iload 30, 2) := by decide +kernel
theorem dL_law_1559 : decode cL_law 1559 = .ok (.iload 6, 2) := by decide +kernel
theorem dL_law_1561 : decode cL_law 1561 = .ok (.iand, 1) := by decide +kernel
theorem dL_law_1562 : decode cL_law 1562 = .ok (.ifCond .ne 79, 3) := by decide +kernel
theorem dL_law_1565 : decode cL_law 1565 = .ok (.iload 31, 2) := by decide +kernel
theorem dL_law_1567 : decode cL_law 1567 = .ok (.ifCond .lt 74, 3) := by decide +kernel
theorem dL_law_1570 : decode cL_law 1570 = .ok (.iload 31, 2) := by decide +kernel
theorem dL_law_1572 : decode cL_law 1572 = .ok (.bipush 8, 2) := by decide +kernel
theorem dL_law_1574 : decode cL_law 1574 = .ok (.iload_n 3, 1) := by decide +kernel
theorem dL_law_1575 : decode cL_law 1575 = .ok (.imul, 1) := by decide +kernel
theorem dL_law_1576 : decode cL_law 1576 = .ok (.if_icmp .ge 65, 3) := by decide +kernel
theorem dL_law_1579 : decode cL_law 1579 = .ok (.iload 31, 2) := by decide +kernel
theorem dL_law_1581 : decode cL_law 1581 = .ok (.bipush 8, 2) := by decide +kernel
theorem dL_law_1583 : decode cL_law 1583 = .ok (.irem, 1) := by decide +kernel
theorem dL_law_1584 : decode cL_law 1584 = .ok (.iconst 5, 1) := by decide +kernel
theorem dL_law_1585 : decode cL_law 1585 = .ok (.if_icmp .gt 56, 3) := by decide +kernel
theorem dL_law_1588 : decode cL_law 1588 = .ok (.iload 32, 2) := by decide +kernel
theorem dL_law_1590 : decode cL_law 1590 = .ok (.iconst 1, 1) := by decide +kernel
theorem dL_law_1591 : decode cL_law 1591 = .ok (.if_icmp .lt 50, 3) := by decide +kernel
theorem dL_law_1594 : decode cL_law 1594 = .ok (.iload 32, 2) := by decide +kernel
theorem dL_law_1596 : decode cL_law 1596 = .ok (.i2l, 1) := by decide +kernel
theorem dL_law_1597 : decode cL_law 1597 = .ok (.lload 27, 2) := by decide +kernel
theorem dL_law_1599 : decode cL_law 1599 = .ok (.lcmp, 1) := by decide +kernel
theorem dL_law_1600 : decode cL_law 1600 = .ok (.ifCond .gt 41, 3) := by decide +kernel
theorem dL_law_1603 : decode cL_law 1603 = .ok (.ldc2_w 131, 3) := by decide +kernel
theorem dL_law_1606 : decode cL_law 1606 = .ok (.iload 32, 2) := by decide +kernel
theorem dL_law_1608 : decode cL_law 1608 = .ok (.i2l, 1) := by decide +kernel
theorem dL_law_1609 : decode cL_law 1609 = .ok (.lmul, 1) := by decide +kernel
theorem dL_law_1610 : decode cL_law 1610 = .ok (.lload 27, 2) := by decide +kernel
theorem dL_law_1612 : decode cL_law 1612 = .ok (.lcmp, 1) := by decide +kernel
theorem dL_law_1613 : decode cL_law 1613 = .ok (.ifCond .lt 28, 3) := by decide +kernel
theorem dL_law_1616 : decode cL_law 1616 = .ok (.iload 33, 2) := by decide +kernel
theorem dL_law_1618 : decode cL_law 1618 = .ok (.iload 7, 2) := by decide +kernel
theorem dL_law_1620 : decode cL_law 1620 = .ok (.iconst (-1), 1) := by decide +kernel
theorem dL_law_1621 : decode cL_law 1621 = .ok (.ixor, 1) := by decide +kernel
theorem dL_law_1622 : decode cL_law 1622 = .ok (.iand, 1) := by decide +kernel
theorem dL_law_1623 : decode cL_law 1623 = .ok (.ifCond .ne 18, 3) := by decide +kernel
theorem dL_law_1626 : decode cL_law 1626 = .ok (.iload 34, 2) := by decide +kernel
theorem dL_law_1628 : decode cL_law 1628 = .ok (.iload 26, 2) := by decide +kernel
theorem dL_law_1630 : decode cL_law 1630 = .ok (.if_icmp .ne 11, 3) := by decide +kernel
theorem dL_law_1633 : decode cL_law 1633 = .ok (.iload 33, 2) := by decide +kernel
theorem dL_law_1635 : decode cL_law 1635 = .ok (.iload 34, 2) := by decide +kernel
theorem dL_law_1637 : decode cL_law 1637 = .ok (.iand, 1) := by decide +kernel
theorem dL_law_1638 : decode cL_law 1638 = .ok (.ifCond .eq 5, 3) := by decide +kernel
theorem dL_law_1641 : decode cL_law 1641 = .ok (.iconst 0, 1) := by decide +kernel
theorem dL_law_1642 : decode cL_law 1642 = .ok (.ireturn, 1) := by decide +kernel
theorem dL_law_1643 : decode cL_law 1643 = .ok (.iconst 0, 1) := by decide +kernel
theorem dL_law_1644 : decode cL_law 1644 = .ok (.istore 35, 2) := by decide +kernel
theorem dL_law_1646 : decode cL_law 1646 = .ok (.iload 35, 2) := by decide +kernel
theorem dL_law_1648 : decode cL_law 1648 = .ok (.iload_n 3, 1) := by decide +kernel
theorem dL_law_1649 : decode cL_law 1649 = .ok (.if_icmp .ge 31, 3) := by decide +kernel
theorem dL_law_1652 : decode cL_law 1652 = .ok (.aload_n 1, 1) := by decide +kernel
theorem dL_law_1653 : decode cL_law 1653 = .ok (.iload 35, 2) := by decide +kernel
theorem dL_law_1655 : decode cL_law 1655 = .ok (.iconst 3, 1) := by decide +kernel
theorem dL_law_1656 : decode cL_law 1656 = .ok (.invokevirtual 133, 3) := by decide +kernel
theorem dL_law_1659 : decode cL_law 1659 = .ok (.aload_n 2, 1) := by decide +kernel
theorem dL_law_1660 : decode cL_law 1660 = .ok (.iconst 2, 1) := by decide +kernel
theorem dL_law_1661 : decode cL_law 1661 = .ok (.iload 35, 2) := by decide +kernel
theorem dL_law_1663 : decode cL_law 1663 = .ok (.iadd, 1) := by decide +kernel
theorem dL_law_1664 : decode cL_law 1664 = .ok (.iaload, 1) := by decide +kernel
theorem dL_law_1665 : decode cL_law 1665 = .ok (.ishr, 1) := by decide +kernel
theorem dL_law_1666 : decode cL_law 1666 = .ok (.iconst 1, 1) := by decide +kernel
theorem dL_law_1667 : decode cL_law 1667 = .ok (.iand, 1) := by decide +kernel
theorem dL_law_1668 : decode cL_law 1668 = .ok (.iconst 1, 1) := by decide +kernel
theorem dL_law_1669 : decode cL_law 1669 = .ok (.if_icmp .eq 5, 3) := by decide +kernel
theorem dL_law_1672 : decode cL_law 1672 = .ok (.iconst 0, 1) := by decide +kernel
theorem dL_law_1673 : decode cL_law 1673 = .ok (.ireturn, 1) := by decide +kernel
theorem dL_law_1674 : decode cL_law 1674 = .ok (.iinc 35 1, 3) := by decide +kernel
theorem dL_law_1677 : decode cL_law 1677 = .ok (.goto (-31), 3) := by decide +kernel
theorem dL_law_1680 : decode cL_law 1680 = .ok (.aload_n 0, 1) := by decide +kernel
theorem dL_law_1681 : decode cL_law 1681 = .ok (.bipush 21, 2) := by decide +kernel
theorem dL_law_1683 : decode cL_law 1683 = .ok (.invokestatic 9, 3) := by decide +kernel
theorem dL_law_1686 : decode cL_law 1686 = .ok (.bipush 13, 2) := by decide +kernel
theorem dL_law_1688 : decode cL_law 1688 = .ok (.invokestatic 15, 3) := by decide +kernel
theorem dL_law_1691 : decode cL_law 1691 = .ok (.istore 35, 2) := by decide +kernel
theorem dL_law_1693 : decode cL_law 1693 = .ok (.iload 8, 2) := by decide +kernel
theorem dL_law_1695 : decode cL_law 1695 = .ok (.invokestatic 62, 3) := by decide +kernel
theorem dL_law_1698 : decode cL_law 1698 = .ok (.istore 36, 2) := by decide +kernel
theorem dL_law_1700 : decode cL_law 1700 = .ok (.aload_n 1, 1) := by decide +kernel
theorem dL_law_1701 : decode cL_law 1701 = .ok (.iload 12, 2) := by decide +kernel
theorem dL_law_1703 : decode cL_law 1703 = .ok (.iconst 0, 1) := by decide +kernel
theorem dL_law_1704 : decode cL_law 1704 = .ok (.invokevirtual 78, 3) := by decide +kernel
theorem dL_law_1707 : decode cL_law 1707 = .ok (.iconst 1, 1) := by decide +kernel
theorem dL_law_1708 : decode cL_law 1708 = .ok (.if_icmp .ne 10, 3) := by decide +kernel
theorem dL_law_1711 : decode cL_law 1711 = .ok (.aload_n 1, 1) := by decide +kernel
theorem dL_law_1712 : decode cL_law 1712 = .ok (.invokevirtual 42, 3) := by decide +kernel
theorem dL_law_1715 : decode cL_law 1715 = .ok (.goto 5, 3) := by decide +kernel
theorem dL_law_1718 : decode cL_law 1718 = .ok (.bipush (-100), 2) := by decide +kernel
theorem dL_law_1720 : decode cL_law 1720 = .ok (.istore 37, 2) := by decide +kernel
theorem dL_law_1722 : decode cL_law 1722 = .ok (.aload_n 1, 1) := by decide +kernel
theorem dL_law_1723 : decode cL_law 1723 = .ok (.iload 12, 2) := by decide +kernel
theorem dL_law_1725 : decode cL_law 1725 = .ok (.iconst 1, 1) := by decide +kernel
theorem dL_law_1726 : decode cL_law 1726 = .ok (.invokevirtual 78, 3) := by decide +kernel
theorem dL_law_1729 : decode cL_law 1729 = .ok (.iconst 1, 1) := by decide +kernel
theorem dL_law_1730 : decode cL_law 1730 = .ok (.if_icmp .ne 10, 3) := by decide +kernel
theorem dL_law_1733 : decode cL_law 1733 = .ok (.aload_n 1, 1) := by decide +kernel
theorem dL_law_1734 : decode cL_law 1734 = .ok (.invokevirtual 42, 3) := by decide +kernel
theorem dL_law_1737 : decode cL_law 1737 = .ok (.goto 5, 3) := by decide +kernel
theorem dL_law_1740 : decode cL_law 1740 = .ok (.bipush (-100), 2) := by decide +kernel
theorem dL_law_1742 : decode cL_law 1742 = .ok (.istore 38, 2) := by decide +kernel
theorem dL_law_1744 : decode cL_law 1744 = .ok (.iload 38, 2) := by decide +kernel
theorem dL_law_1746 : decode cL_law 1746 = .ok (.iload 37, 2) := by decide +kernel
theorem dL_law_1748 : decode cL_law 1748 = .ok (.iconst 2, 1) := by decide +kernel
theorem dL_law_1749 : decode cL_law 1749 = .ok (.iadd, 1) := by decide +kernel
theorem dL_law_1750 : decode cL_law 1750 = .ok (.if_icmp .gt 157, 3) := by decide +kernel
theorem dL_law_1753 : decode cL_law 1753 = .ok (.iload 38, 2) := by decide +kernel
theorem dL_law_1755 : decode cL_law 1755 = .ok (.iload 37, 2) := by decide +kernel
theorem dL_law_1757 : decode cL_law 1757 = .ok (.iconst 2, 1) := by decide +kernel
theorem dL_law_1758 : decode cL_law 1758 = .ok (.isub, 1) := by decide +kernel
theorem dL_law_1759 : decode cL_law 1759 = .ok (.if_icmp .lt 148, 3) := by decide +kernel
theorem dL_law_1762 : decode cL_law 1762 = .ok (.aload_n 1, 1) := by decide +kernel
theorem dL_law_1763 : decode cL_law 1763 = .ok (.iload 12, 2) := by decide +kernel
theorem dL_law_1765 : decode cL_law 1765 = .ok (.iconst 0, 1) := by decide +kernel
theorem dL_law_1766 : decode cL_law 1766 = .ok (.invokevirtual 136, 3) := by decide +kernel
theorem dL_law_1769 : decode cL_law 1769 = .ok (.iconst 1, 1) := by decide +kernel
theorem dL_law_1770 : decode cL_law 1770 = .ok (.if_icmp .ne 137, 3) := by decide +kernel
theorem dL_law_1773 : decode cL_law 1773 = .ok (.aload_n 1, 1) := by decide +kernel
theorem dL_law_1774 : decode cL_law 1774 = .ok (.invokevirtual 116, 3) := by decide +kernel
theorem dL_law_1777 : decode cL_law 1777 = .ok (.iload 8, 2) := by decide +kernel
theorem dL_law_1779 : decode cL_law 1779 = .ok (.iload 12, 2) := by decide +kernel
theorem dL_law_1781 : decode cL_law 1781 = .ok (.ishr, 1) := by decide +kernel
theorem dL_law_1782 : decode cL_law 1782 = .ok (.iconst 1, 1) := by decide +kernel
theorem dL_law_1783 : decode cL_law 1783 = .ok (.iand, 1) := by decide +kernel
theorem dL_law_1784 : decode cL_law 1784 = .ok (.i2l, 1) := by decide +kernel
theorem dL_law_1785 : decode cL_law 1785 = .ok (.lcmp, 1) := by decide +kernel
theorem dL_law_1786 : decode cL_law 1786 = .ok (.ifCond .ne 121, 3) := by decide +kernel
theorem dL_law_1789 : decode cL_law 1789 = .ok (.aload_n 1, 1) := by decide +kernel
theorem dL_law_1790 : decode cL_law 1790 = .ok (.invokevirtual 139, 3) := by decide +kernel
theorem dL_law_1793 : decode cL_law 1793 = .ok (.lconst 1, 1) := by decide +kernel
theorem dL_law_1794 : decode cL_law 1794 = .ok (.lcmp, 1) := by decide +kernel
theorem dL_law_1795 : decode cL_law 1795 = .ok (.ifCond .ne 112, 3) := by decide +kernel
theorem dL_law_1798 : decode cL_law 1798 = .ok (.aload_n 1, 1) := by decide +kernel
theorem dL_law_1799 : decode cL_law 1799 = .ok (.iload 12, 2) := by decide +kernel
theorem dL_law_1801 : decode cL_law 1801 = .ok (.bipush 12, 2) := by decide +kernel
theorem dL_law_1803 : decode cL_law 1803 = .ok (.invokevirtual 136, 3) := by decide +kernel
theorem dL_law_1806 : decode cL_law 1806 = .ok (.iconst 1, 1) := by decide +kernel
theorem dL_law_1807 : decode cL_law 1807 = .ok (.if_icmp .ne 100, 3) := by decide +kernel
theorem dL_law_1810 : decode cL_law 1810 = .ok (.aload_n 1, 1) := by decide +kernel
theorem dL_law_1811 : decode cL_law 1811 = .ok (.invokevirtual 116, 3) := by decide +kernel
theorem dL_law_1814 : decode cL_law 1814 = .ok (.lconst 0, 1) := by decide +kernel
theorem dL_law_1815 : decode cL_law 1815 = .ok (.lcmp, 1) := by decide +kernel
theorem dL_law_1816 : decode cL_law 1816 = .ok (.ifCond .ne 91, 3) := by decide +kernel
theorem dL_law_1819 : decode cL_law 1819 = .ok (.aload_n 1, 1) := by decide +kernel
theorem dL_law_1820 : decode cL_law 1820 = .ok (.iload 12, 2) := by decide +kernel
theorem dL_law_1822 : decode cL_law 1822 = .ok (.iload 35, 2) := by decide +kernel
theorem dL_law_1824 : decode cL_law 1824 = .ok (.invokevirtual 136, 3) := by decide +kernel
theorem dL_law_1827 : decode cL_law 1827 = .ok (.iconst 1, 1) := by decide +kernel
theorem dL_law_1828 : decode cL_law 1828 = .ok (.if_icmp .ne 79, 3) := by decide +kernel
theorem dL_law_1831 : decode cL_law 1831 = .ok (.aload_n 1, 1) := by decide +kernel
theorem dL_law_1832 : decode cL_law 1832 = .ok (.invokevirtual 116, 3) := by decide +kernel
theorem dL_law_1835 : decode cL_law 1835 = .ok (.lconst 0, 1) := by decide +kernel
theorem dL_law_1836 : decode cL_law 1836 = .ok (.lcmp, 1) := by decide +kernel
theorem dL_law_1837 : decode cL_law 1837 = .ok (.ifCond .lt 70, 3) := by decide +kernel
theorem dL_law_1840 : decode cL_law 1840 = .ok (.aload_n 1, 1) := by decide +kernel
theorem dL_law_1841 : decode cL_law 1841 = .ok (.invokevirtual 116, 3) := by decide +kernel
theorem dL_law_1844 : decode cL_law 1844 = .ok (.aload_n 1, 1) := by decide +kernel
theorem dL_law_1845 : decode cL_law 1845 = .ok (.invokevirtual 139, 3) := by decide +kernel
theorem dL_law_1848 : decode cL_law 1848 = .ok (.lcmp, 1) := by decide +kernel
theorem dL_law_1849 : decode cL_law 1849 = .ok (.ifCond .gt 58, 3) := by decide +kernel
theorem dL_law_1852 : decode cL_law 1852 = .ok (.aload_n 1, 1) := by decide +kernel
theorem dL_law_1853 : decode cL_law 1853 = .ok (.iconst 0, 1) := by decide +kernel
theorem dL_law_1854 : decode cL_law 1854 = .ok (.invokevirtual 142, 3) := by decide +kernel
theorem dL_law_1857 : decode cL_law 1857 = .ok (.iconst 1, 1) := by decide +kernel
theorem dL_law_1858 : decode cL_law 1858 = .ok (.if_icmp .ne 49, 3) := by decide +kernel
theorem dL_law_1861 : decode cL_law 1861 = .ok (.aload_n 1, 1) := by decide +kernel
theorem dL_law_1862 : decode cL_law 1862 = .ok (.invokevirtual 116, 3) := by decide +kernel
theorem dL_law_1865 : decode cL_law 1865 = .ok (.iload 36, 2) := by decide +kernel
theorem dL_law_1867 : decode cL_law 1867 = .ok (.i2l, 1) := by decide +kernel
theorem dL_law_1868 : decode cL_law 1868 = .ok (.lcmp, 1) := by decide +kernel
theorem dL_law_1869 : decode cL_law 1869 = .ok (.ifCond .ne 38, 3) := by decide +kernel
theorem dL_law_1872 : decode cL_law 1872 = .ok (.aload_n 1, 1) := by decide +kernel
theorem dL_law_1873 : decode cL_law 1873 = .ok (.iload 35, 2) := by decide +kernel
theorem dL_law_1875 : decode cL_law 1875 = .ok (.invokevirtual 142, 3) := by decide +kernel
theorem dL_law_1878 : decode cL_law 1878 = .ok (.iconst 1, 1) := by decide +kernel
theorem dL_law_1879 : decode cL_law 1879 = .ok (.if_icmp .ne 28, 3) := by decide +kernel
theorem dL_law_1882 : decode cL_law 1882 = .ok (.aload_n 1, 1) := by decide +kernel
theorem dL_law_1883 : decode cL_law 1883 = .ok (.invokevirtual 116, 3) := by decide +kernel
theorem dL_law_1886 : decode cL_law 1886 = .ok (.ldc2_w 145, 3) := by decide +kernel
theorem dL_law_1889 : decode cL_law 1889 = .ok (.aload_n 1, 1) := by decide +kernel
theorem dL_law_1890 : decode cL_law 1890 = .ok (.invokevirtual 139, 3) := by decide +kernel
theorem dL_law_1893 : decode cL_law 1893 = .ok (.lmul, 1) := by decide +kernel
theorem dL_law_1894 : decode cL_law 1894 = .ok (.lcmp, 1) := by decide +kernel
theorem dL_law_1895 : decode cL_law 1895 = .ok (.ifCond .gt 12, 3) := by decide +kernel
theorem dL_law_1898 : decode cL_law 1898 = .ok (.aload_n 1, 1) := by decide +kernel
theorem dL_law_1899 : decode cL_law 1899 = .ok (.invokevirtual 116, 3) := by decide +kernel
theorem dL_law_1902 : decode cL_law 1902 = .ok (.lconst 0, 1) := by decide +kernel
theorem dL_law_1903 : decode cL_law 1903 = .ok (.lcmp, 1) := by decide +kernel
theorem dL_law_1904 : decode cL_law 1904 = .ok (.ifCond .ge 5, 3) := by decide +kernel
theorem dL_law_1907 : decode cL_law 1907 = .ok (.iconst 0, 1) := by decide +kernel
theorem dL_law_1908 : decode cL_law 1908 = .ok (.ireturn, 1) := by decide +kernel
theorem dL_law_1909 : decode cL_law 1909 = .ok (.aload_n 0, 1) := by decide +kernel
theorem dL_law_1910 : decode cL_law 1910 = .ok (.bipush 22, 2) := by decide +kernel
theorem dL_law_1912 : decode cL_law 1912 = .ok (.invokestatic 9, 3) := by decide +kernel
theorem dL_law_1915 : decode cL_law 1915 = .ok (.bipush 15, 2) := by decide +kernel
theorem dL_law_1917 : decode cL_law 1917 = .ok (.invokestatic 15, 3) := by decide +kernel
theorem dL_law_1920 : decode cL_law 1920 = .ok (.istore 39, 2) := by decide +kernel
theorem dL_law_1922 : decode cL_law 1922 = .ok (.bipush 16, 2) := by decide +kernel
theorem dL_law_1924 : decode cL_law 1924 = .ok (.newarray .int, 2) := by decide +kernel
theorem dL_law_1926 : decode cL_law 1926 = .ok (.astore 40, 2) := by decide +kernel
theorem dL_law_1928 : decode cL_law 1928 = .ok (.bipush 16, 2) := by decide +kernel
theorem dL_law_1930 : decode cL_law 1930 = .ok (.newarray .int, 2) := by decide +kernel
theorem dL_law_1932 : decode cL_law 1932 = .ok (.astore 41, 2) := by decide +kernel
theorem dL_law_1934 : decode cL_law 1934 = .ok (.iconst 0, 1) := by decide +kernel
theorem dL_law_1935 : decode cL_law 1935 = .ok (.istore 42, 2) := by decide +kernel
theorem dL_law_1937 : decode cL_law 1937 = .ok (.aload 40, 2) := by decide +kernel
theorem dL_law_1939 : decode cL_law 1939 = .ok (.iconst 0, 1) := by decide +kernel
theorem dL_law_1940 : decode cL_law 1940 = .ok (.iload 9, 2) := by decide +kernel
theorem dL_law_1942 : decode cL_law 1942 = .ok (.iastore, 1) := by decide +kernel
theorem dL_law_1943 : decode cL_law 1943 = .ok (.aload 41, 2) := by decide +kernel
theorem dL_law_1945 : decode cL_law 1945 = .ok (.iconst 0, 1) := by decide +kernel
theorem dL_law_1946 : decode cL_law 1946 = .ok (.iload 7, 2) := by decide +kernel
theorem dL_law_1948 : decode cL_law 1948 = .ok (.iastore, 1) := by decide +kernel
theorem dL_law_1949 : decode cL_law 1949 = .ok (.iconst 0, 1) := by decide +kernel
theorem dL_law_1950 : decode cL_law 1950 = .ok (.istore 43, 2) := by decide +kernel
theorem dL_law_1952 : decode cL_law 1952 = .ok (.iload 43, 2) := by decide +kernel
theorem dL_law_1954 : decode cL_law 1954 = .ok (.iload 39, 2) := by decide +kernel
theorem dL_law_1956 : decode cL_law 1956 = .ok (.if_icmp .ge 154, 3) := by decide +kernel
theorem dL_law_1959 : decode cL_law 1959 = .ok (.aload_n 0, 1) := by decide +kernel
theorem dL_law_1960 : decode cL_law 1960 = .ok (.bipush 23, 2) := by decide +kernel
theorem dL_law_1962 : decode cL_law 1962 = .ok (.iload 43, 2) := by decide +kernel
theorem dL_law_1964 : decode cL_law 1964 = .ok (.iadd, 1) := by decide +kernel
theorem dL_law_1965 : decode cL_law 1965 = .ok (.invokestatic 9, 3) := by decide +kernel
theorem dL_law_1968 : decode cL_law 1968 = .ok (.istore 44, 2) := by decide +kernel
theorem dL_law_1970 : decode cL_law 1970 = .ok (.iload 44, 2) := by decide +kernel
theorem dL_law_1972 : decode cL_law 1972 = .ok (.iconst 4, 1) := by decide +kernel
theorem dL_law_1973 : decode cL_law 1973 = .ok (.invokestatic 15, 3) := by decide +kernel
theorem dL_law_1976 : decode cL_law 1976 = .ok (.istore 45, 2) := by decide +kernel
theorem dL_law_1978 : decode cL_law 1978 = .ok (.iload 44, 2) := by decide +kernel
theorem dL_law_1980 : decode cL_law 1980 = .ok (.iconst 2, 1) := by decide +kernel
theorem dL_law_1981 : decode cL_law 1981 = .ok (.ishr, 1) := by decide +kernel
theorem dL_law_1982 : decode cL_law 1982 = .ok (.iload_n 3, 1) := by decide +kernel
theorem dL_law_1983 : decode cL_law 1983 = .ok (.invokestatic 15, 3) := by decide +kernel
theorem dL_law_1986 : decode cL_law 1986 = .ok (.istore 46, 2) := by decide +kernel
theorem dL_law_1988 : decode cL_law 1988 = .ok (.iload 45, 2) := by decide +kernel
theorem dL_law_1990 : decode cL_law 1990 = .ok (.ifCond .ne 12, 3) := by decide +kernel
theorem dL_law_1993 : decode cL_law 1993 = .ok (.aload_n 1, 1) := by decide +kernel
theorem dL_law_1994 : decode cL_law 1994 = .ok (.iload 46, 2) := by decide +kernel
theorem dL_law_1996 : decode cL_law 1996 = .ok (.invokevirtual 93, 3) := by decide +kernel
theorem dL_law_1999 : decode cL_law 1999 = .ok (.goto 39, 3) := by decide +kernel
theorem dL_law_2002 : decode cL_law 2002 = .ok (.iload 45, 2) := by decide +kernel
theorem dL_law_2004 : decode cL_law 2004 = .ok (.iconst 1, 1) := by decide +kernel
theorem dL_law_2005 : decode cL_law 2005 = .ok (.if_icmp .ne 12, 3) := by decide +kernel
theorem dL_law_2008 : decode cL_law 2008 = .ok (.aload_n 1, 1) := by decide +kernel
theorem dL_law_2009 : decode cL_law 2009 = .ok (.iload 46, 2) := by decide +kernel
theorem dL_law_2011 : decode cL_law 2011 = .ok (.invokevirtual 147, 3) := by decide +kernel
theorem dL_law_2014 : decode cL_law 2014 = .ok (.goto 24, 3) := by decide +kernel
theorem dL_law_2017 : decode cL_law 2017 = .ok (.iload 45, 2) := by decide +kernel
theorem dL_law_2019 : decode cL_law 2019 = .ok (.iconst 2, 1) := by decide +kernel
theorem dL_law_2020 : decode cL_law 2020 = .ok (.if_icmp .ne 12, 3) := by decide +kernel
theorem dL_law_2023 : decode cL_law 2023 = .ok (.aload_n 1, 1) := by decide +kernel
theorem dL_law_2024 : decode cL_law 2024 = .ok (.iload 46, 2) := by decide +kernel
theorem dL_law_2026 : decode cL_law 2026 = .ok (.invokevirtual 150, 3) := by decide +kernel
theorem dL_law_2029 : decode cL_law 2029 = .ok (.goto 9, 3) := by decide +kernel
theorem dL_law_2032 : decode cL_law 2032 = .ok (.aload_n 1, 1) := by decide +kernel
theorem dL_law_2033 : decode cL_law 2033 = .ok (.iload 46, 2) := by decide +kernel
theorem dL_law_2035 : decode cL_law 2035 = .ok (.invokevirtual 153, 3) := by decide +kernel
theorem dL_law_2038 : decode cL_law 2038 = .ok (.istore 47, 2) := by decide +kernel
theorem dL_law_2040 : decode cL_law 2040 = .ok (.iload 47, 2) := by decide +kernel
theorem dL_law_2042 : decode cL_law 2042 = .ok (.bipush (-4), 2) := by decide +kernel
theorem dL_law_2044 : decode cL_law 2044 = .ok (.if_icmp .eq 26, 3) := by decide +kernel
theorem dL_law_2047 : decode cL_law 2047 = .ok (.iinc 42 1, 3) := by decide +kernel
theorem dL_law_2050 : decode cL_law 2050 = .ok (.aload 40, 2) := by decide +kernel
theorem dL_law_2052 : decode cL_law 2052 = .ok (.iload 42, 2) := by decide +kernel
theorem dL_law_2054 : decode cL_law 2054 = .ok (.aload_n 1, 1) := by decide +kernel
theorem dL_law_2055 : decode cL_law 2055 = .ok (.iconst 5, 1) := by decide +kernel
theorem dL_law_2056 : decode cL_law 2056 = .ok (.invokevirtual 59, 3) := by decide +kernel
theorem dL_law_2059 : decode cL_law 2059 = .ok (.iastore, 1) := by decide +kernel
theorem dL_law_2060 : decode cL_law 2060 = .ok (.aload 41, 2) := by decide +kernel
theorem dL_law_2062 : decode cL_law 2062 = .ok (.iload 42, 2) := by decide +kernel
theorem dL_law_2064 : decode cL_law 2064 = .ok (.aload_n 1, 1) := by decide +kernel
theorem dL_law_2065 : decode cL_law 2065 = .ok (.iconst 3, 1) := by decide +kernel
theorem dL_law_2066 : decode cL_law 2066 = .ok (.invokevirtual 59, 3) := by decide +kernel
theorem dL_law_2069 : decode cL_law 2069 = .ok (.iastore, 1) := by decide +kernel
theorem dL_law_2070 : decode cL_law 2070 = .ok (.iload 47, 2) := by decide +kernel
theorem dL_law_2072 : decode cL_law 2072 = .ok (.bipush (-4), 2) := by decide +kernel
theorem dL_law_2074 : decode cL_law 2074 = .ok (.if_icmp .lt 28, 3) := by decide +kernel
theorem dL_law_2077 : decode cL_law 2077 = .ok (.iload 47, 2) := by decide +kernel
theorem dL_law_2079 : decode cL_law 2079 = .ok (.bipush (-4), 2) := by decide +kernel
theorem dL_law_2081 : decode cL_law 2081 = .ok (.if_icmp .le 8, 3) := by decide +kernel
theorem dL_law_2084 : decode cL_law 2084 = .ok (.iload 47, 2) := by decide +kernel
theorem dL_law_2086 : decode cL_law 2086 = .ok (.ifCond .lt 16, 3) := by decide +kernel
theorem dL_law_2089 : decode cL_law 2089 = .ok (.aload_n 1, 1) := by decide +kernel
theorem dL_law_2090 : decode cL_law 2090 = .ok (.iconst 2, 1) := by decide +kernel
theorem dL_law_2091 : decode cL_law 2091 = .ok (.invokevirtual 59, 3) := by decide +kernel
theorem dL_law_2094 : decode cL_law 2094 = .ok (.iload 5, 2) := by decide +kernel
theorem dL_law_2096 : decode cL_law 2096 = .ok (.iload 42, 2) := by decide +kernel
theorem dL_law_2098 : decode cL_law 2098 = .ok (.iadd, 1) := by decide +kernel
theorem dL_law_2099 : decode cL_law 2099 = .ok (.if_icmp .eq 5, 3) := by decide +kernel
theorem dL_law_2102 : decode cL_law 2102 = .ok (.iconst 0, 1) := by decide +kernel
theorem dL_law_2103 : decode cL_law 2103 = .ok (.ireturn, 1) := by decide +kernel
theorem dL_law_2104 : decode cL_law 2104 = .ok (.iinc 43 1, 3) := by decide +kernel
theorem dL_law_2107 : decode cL_law 2107 = .ok (.goto (-155), 3) := by decide +kernel
theorem dL_law_2110 : decode cL_law 2110 = .ok (.iload 42, 2) := by decide +kernel
theorem dL_law_2112 : decode cL_law 2112 = .ok (.istore 43, 2) := by decide +kernel
theorem dL_law_2114 : decode cL_law 2114 = .ok (.iload 43, 2) := by decide +kernel
theorem dL_law_2116 : decode cL_law 2116 = .ok (.ifCond .lt 61, 3) := by decide +kernel
theorem dL_law_2119 : decode cL_law 2119 = .ok (.aload_n 1, 1) := by decide +kernel
theorem dL_law_2120 : decode cL_law 2120 = .ok (.iload 5, 2) := by decide +kernel
theorem dL_law_2122 : decode cL_law 2122 = .ok (.iload 43, 2) := by decide +kernel
theorem dL_law_2124 : decode cL_law 2124 = .ok (.iadd, 1) := by decide +kernel
theorem dL_law_2125 : decode cL_law 2125 = .ok (.invokevirtual 156, 3) := by decide +kernel
theorem dL_law_2128 : decode cL_law 2128 = .ok (.iload 43, 2) := by decide +kernel
theorem dL_law_2130 : decode cL_law 2130 = .ok (.iload 42, 2) := by decide +kernel
theorem dL_law_2132 : decode cL_law 2132 = .ok (.if_icmp .ne 7, 3) := by decide +kernel
theorem dL_law_2135 : decode cL_law 2135 = .ok (.iconst 0, 1) := by decide +kernel
theorem dL_law_2136 : decode cL_law 2136 = .ok (.goto 4, 3) := by decide +kernel
theorem dL_law_2139 : decode cL_law 2139 = .ok (.iconst 1, 1) := by decide +kernel
theorem dL_law_2140 : decode cL_law 2140 = .ok (.if_icmp .ne 29, 3) := by decide +kernel
theorem dL_law_2143 : decode cL_law 2143 = .ok (.aload_n 1, 1) := by decide +kernel
theorem dL_law_2144 : decode cL_law 2144 = .ok (.iconst 5, 1) := by decide +kernel
theorem dL_law_2145 : decode cL_law 2145 = .ok (.invokevirtual 59, 3) := by decide +kernel
theorem dL_law_2148 : decode cL_law 2148 = .ok (.aload 40, 2) := by decide +kernel
theorem dL_law_2150 : decode cL_law 2150 = .ok (.iload 43, 2) := by decide +kernel
theorem dL_law_2152 : decode cL_law 2152 = .ok (.iaload, 1) := by decide +kernel
theorem dL_law_2153 : decode cL_law 2153 = .ok (.if_icmp .ne 16, 3) := by decide +kernel
theorem dL_law_2156 : decode cL_law 2156 = .ok (.aload_n 1, 1) := by decide +kernel
theorem dL_law_2157 : decode cL_law 2157 = .ok (.iconst 3, 1) := by decide +kernel
theorem dL_law_2158 : decode cL_law 2158 = .ok (.invokevirtual 59, 3) := by decide +kernel
theorem dL_law_2161 : decode cL_law 2161 = .ok (.aload 41, 2) := by decide +kernel
theorem dL_law_2163 : decode cL_law 2163 = .ok (.iload 43, 2) := by decide +kernel
theorem dL_law_2165 : decode cL_law 2165 = .ok (.iaload, 1) := by decide +kernel
theorem dL_law_2166 : decode cL_law 2166 = .ok (.if_icmp .eq 5, 3) := by decide +kernel
theorem dL_law_2169 : decode cL_law 2169 = .ok (.iconst 0, 1) := by decide +kernel
theorem dL_law_2170 : decode cL_law 2170 = .ok (.ireturn, 1) := by decide +kernel
theorem dL_law_2171 : decode cL_law 2171 = .ok (.iinc 43 (-1), 3) := by decide +kernel
theorem dL_law_2174 : decode cL_law 2174 = .ok (.goto (-60), 3) := by decide +kernel
theorem dL_law_2177 : decode cL_law 2177 = .ok (.aload_n 1, 1) := by decide +kernel
theorem dL_law_2178 : decode cL_law 2178 = .ok (.invokevirtual 159, 3) := by decide +kernel
theorem dL_law_2181 : decode cL_law 2181 = .ok (.lstore 43, 2) := by decide +kernel
theorem dL_law_2183 : decode cL_law 2183 = .ok (.aload_n 1, 1) := by decide +kernel
theorem dL_law_2184 : decode cL_law 2184 = .ok (.iconst 0, 1) := by decide +kernel
theorem dL_law_2185 : decode cL_law 2185 = .ok (.invokevirtual 156, 3) := by decide +kernel
theorem dL_law_2188 : decode cL_law 2188 = .ok (.iload 5, 2) := by decide +kernel
theorem dL_law_2190 : decode cL_law 2190 = .ok (.if_icmp .ne 62, 3) := by decide +kernel
theorem dL_law_2193 : decode cL_law 2193 = .ok (.aload_n 1, 1) := by decide +kernel
theorem dL_law_2194 : decode cL_law 2194 = .ok (.iconst 3, 1) := by decide +kernel
theorem dL_law_2195 : decode cL_law 2195 = .ok (.invokevirtual 59, 3) := by decide +kernel
theorem dL_law_2198 : decode cL_law 2198 = .ok (.ifCond .ne 54, 3) := by decide +kernel
theorem dL_law_2201 : decode cL_law 2201 = .ok (.aload_n 1, 1) := by decide +kernel
theorem dL_law_2202 : decode cL_law 2202 = .ok (.iconst 0, 1) := by decide +kernel
theorem dL_law_2203 : decode cL_law 2203 = .ok (.invokevirtual 96, 3) := by decide +kernel
theorem dL_law_2206 : decode cL_law 2206 = .ok (.iload 5, 2) := by decide +kernel
theorem dL_law_2208 : decode cL_law 2208 = .ok (.if_icmp .ne 44, 3) := by decide +kernel
theorem dL_law_2211 : decode cL_law 2211 = .ok (.aload_n 1, 1) := by decide +kernel
theorem dL_law_2212 : decode cL_law 2212 = .ok (.invokevirtual 159, 3) := by decide +kernel
theorem dL_law_2215 : decode cL_law 2215 = .ok (.lload 43, 2) := by decide +kernel
theorem dL_law_2217 : decode cL_law 2217 = .ok (.lcmp, 1) := by decide +kernel
theorem dL_law_2218 : decode cL_law 2218 = .ok (.ifCond .ne 34, 3) := by decide +kernel
theorem dL_law_2221 : decode cL_law 2221 = .ok (.aload_n 1, 1) := by decide +kernel
theorem dL_law_2222 : decode cL_law 2222 = .ok (.iconst 0, 1) := by decide +kernel
theorem dL_law_2223 : decode cL_law 2223 = .ok (.invokevirtual 36, 3) := by decide +kernel
theorem dL_law_2226 : decode cL_law 2226 = .ok (.iload_n 3, 1) := by decide +kernel
theorem dL_law_2227 : decode cL_law 2227 = .ok (.if_icmp .ne 25, 3) := by decide +kernel
theorem dL_law_2230 : decode cL_law 2230 = .ok (.aload_n 1, 1) := by decide +kernel
theorem dL_law_2231 : decode cL_law 2231 = .ok (.iconst 0, 1) := by decide +kernel
theorem dL_law_2232 : decode cL_law 2232 = .ok (.invokevirtual 96, 3) := by decide +kernel
theorem dL_law_2235 : decode cL_law 2235 = .ok (.bipush (-3), 2) := by decide +kernel
theorem dL_law_2237 : decode cL_law 2237 = .ok (.if_icmp .ne 15, 3) := by decide +kernel
theorem dL_law_2240 : decode cL_law 2240 = .ok (.aload_n 1, 1) := by decide +kernel
theorem dL_law_2241 : decode cL_law 2241 = .ok (.iconst 2, 1) := by decide +kernel
theorem dL_law_2242 : decode cL_law 2242 = .ok (.invokevirtual 59, 3) := by decide +kernel
theorem dL_law_2245 : decode cL_law 2245 = .ok (.ifCond .ne 7, 3) := by decide +kernel
theorem dL_law_2248 : decode cL_law 2248 = .ok (.iconst 1, 1) := by decide +kernel
theorem dL_law_2249 : decode cL_law 2249 = .ok (.goto 4, 3) := by decide +kernel
theorem dL_law_2252 : decode cL_law 2252 = .ok (.iconst 0, 1) := by decide +kernel
theorem dL_law_2253 : decode cL_law 2253 = .ok (.ireturn, 1) := by decide +kernel
