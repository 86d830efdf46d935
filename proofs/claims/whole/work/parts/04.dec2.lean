theorem dX12_init_0 : decode cX12_init 0 = .ok (.aload_n 0, 1) := by decide +kernel
theorem dX12_init_1 : decode cX12_init 1 = .ok (.invokespecial 1, 3) := by decide +kernel
theorem dX12_init_4 : decode cX12_init 4 = .ok (.aload_n 0, 1) := by decide +kernel
theorem dX12_init_5 : decode cX12_init 5 = .ok (.iconst 4, 1) := by decide +kernel
theorem dX12_init_6 : decode cX12_init 6 = .ok (.newarray .int, 2) := by decide +kernel
theorem dX12_init_8 : decode cX12_init 8 = .ok (.putfield 7, 3) := by decide +kernel
theorem dX12_init_11 : decode cX12_init 11 = .ok (.aload_n 0, 1) := by decide +kernel
theorem dX12_init_12 : decode cX12_init 12 = .ok (.iconst 4, 1) := by decide +kernel
theorem dX12_init_13 : decode cX12_init 13 = .ok (.newarray .int, 2) := by decide +kernel
theorem dX12_init_15 : decode cX12_init 15 = .ok (.putfield 13, 3) := by decide +kernel
theorem dX12_init_18 : decode cX12_init 18 = .ok (.aload_n 0, 1) := by decide +kernel
theorem dX12_init_19 : decode cX12_init 19 = .ok (.sipush 240, 3) := by decide +kernel
theorem dX12_init_22 : decode cX12_init 22 = .ok (.newarray .int, 2) := by decide +kernel
theorem dX12_init_24 : decode cX12_init 24 = .ok (.putfield 16, 3) := by decide +kernel
theorem dX12_init_27 : decode cX12_init 27 = .ok (.aload_n 0, 1) := by decide +kernel
theorem dX12_init_28 : decode cX12_init 28 = .ok (.bipush 60, 2) := by decide +kernel
theorem dX12_init_30 : decode cX12_init 30 = .ok (.newarray .int, 2) := by decide +kernel
theorem dX12_init_32 : decode cX12_init 32 = .ok (.putfield 19, 3) := by decide +kernel
theorem dX12_init_35 : decode cX12_init 35 = .ok (.aload_n 0, 1) := by decide +kernel
theorem dX12_init_36 : decode cX12_init 36 = .ok (.bipush 80, 2) := by decide +kernel
theorem dX12_init_38 : decode cX12_init 38 = .ok (.newarray .int, 2) := by decide +kernel
theorem dX12_init_40 : decode cX12_init 40 = .ok (.putfield 22, 3) := by decide +kernel
theorem dX12_init_43 : decode cX12_init 43 = .ok (.aload_n 0, 1) := by decide +kernel
theorem dX12_init_44 : decode cX12_init 44 = .ok (.iconst 2, 1) := by decide +kernel
theorem dX12_init_45 : decode cX12_init 45 = .ok (.newarray .int, 2) := by decide +kernel
theorem dX12_init_47 : decode cX12_init 47 = .ok (.putfield 25, 3) := by decide +kernel
theorem dX12_init_50 : decode cX12_init 50 = .ok (.aload_n 0, 1) := by decide +kernel
theorem dX12_init_51 : decode cX12_init 51 = .ok (.bipush 16, 2) := by decide +kernel
theorem dX12_init_53 : decode cX12_init 53 = .ok (.newarray .int, 2) := by decide +kernel
theorem dX12_init_55 : decode cX12_init 55 = .ok (.putfield 28, 3) := by decide +kernel
theorem dX12_init_58 : decode cX12_init 58 = .ok (.aload_n 0, 1) := by decide +kernel
theorem dX12_init_59 : decode cX12_init 59 = .ok (.bipush 16, 2) := by decide +kernel
theorem dX12_init_61 : decode cX12_init 61 = .ok (.newarray .int, 2) := by decide +kernel
theorem dX12_init_63 : decode cX12_init 63 = .ok (.putfield 31, 3) := by decide +kernel
theorem dX12_init_66 : decode cX12_init 66 = .ok (.aload_n 0, 1) := by decide +kernel
theorem dX12_init_67 : decode cX12_init 67 = .ok (.bipush 6, 2) := by decide +kernel
theorem dX12_init_69 : decode cX12_init 69 = .ok (.newarray .int, 2) := by decide +kernel
theorem dX12_init_71 : decode cX12_init 71 = .ok (.putfield 34, 3) := by decide +kernel
theorem dX12_init_74 : decode cX12_init 74 = .ok (.aload_n 0, 1) := by decide +kernel
theorem dX12_init_75 : decode cX12_init 75 = .ok (.bipush 6, 2) := by decide +kernel
theorem dX12_init_77 : decode cX12_init 77 = .ok (.newarray .int, 2) := by decide +kernel
theorem dX12_init_79 : decode cX12_init 79 = .ok (.putfield 37, 3) := by decide +kernel
theorem dX12_init_82 : decode cX12_init 82 = .ok (.aload_n 0, 1) := by decide +kernel
theorem dX12_init_83 : decode cX12_init 83 = .ok (.bipush 6, 2) := by decide +kernel
theorem dX12_init_85 : decode cX12_init 85 = .ok (.newarray .boolean, 2) := by decide +kernel
theorem dX12_init_87 : decode cX12_init 87 = .ok (.putfield 40, 3) := by decide +kernel
theorem dX12_init_90 : decode cX12_init 90 = .ok (.aload_n 0, 1) := by decide +kernel
theorem dX12_init_91 : decode cX12_init 91 = .ok (.bipush 6, 2) := by decide +kernel
theorem dX12_init_93 : decode cX12_init 93 = .ok (.newarray .int, 2) := by decide +kernel
theorem dX12_init_95 : decode cX12_init 95 = .ok (.putfield 44, 3) := by decide +kernel
theorem dX12_init_98 : decode cX12_init 98 = .ok (.aload_n 0, 1) := by decide +kernel
theorem dX12_init_99 : decode cX12_init 99 = .ok (.bipush 6, 2) := by decide +kernel
theorem dX12_init_101 : decode cX12_init 101 = .ok (.newarray .int, 2) := by decide +kernel
theorem dX12_init_103 : decode cX12_init 103 = .ok (.putfield 47, 3) := by decide +kernel
theorem dX12_init_106 : decode cX12_init 106 = .ok (.aload_n 0, 1) := by decide +kernel
theorem dX12_init_107 : decode cX12_init 107 = .ok (.bipush 6, 2) := by decide +kernel
theorem dX12_init_109 : decode cX12_init 109 = .ok (.newarray .int, 2) := by decide +kernel
theorem dX12_init_111 : decode cX12_init 111 = .ok (.putfield 50, 3) := by decide +kernel
theorem dX12_init_114 : decode cX12_init 114 = .ok (.aload_n 0, 1) := by decide +kernel
theorem dX12_init_115 : decode cX12_init 115 = .ok (.bipush 24, 2) := by decide +kernel
theorem dX12_init_117 : decode cX12_init 117 = .ok (.newarray .int, 2) := by decide +kernel
theorem dX12_init_119 : decode cX12_init 119 = .ok (.putfield 53, 3) := by decide +kernel
theorem dX12_init_122 : decode cX12_init 122 = .ok (.iconst 0, 1) := by decide +kernel
theorem dX12_init_123 : decode cX12_init 123 = .ok (.istore_n 1, 1) := by decide +kernel
theorem dX12_init_124 : decode cX12_init 124 = .ok (.iload_n 1, 1) := by decide +kernel
theorem dX12_init_125 : decode cX12_init 125 = .ok (.iconst 4, 1) := by decide +kernel
theorem dX12_init_126 : decode cX12_init 126 = .ok (.if_icmp .ge 16, 3) := by decide +kernel
theorem dX12_init_129 : decode cX12_init 129 = .ok (.aload_n 0, 1) := by decide +kernel
theorem dX12_init_130 : decode cX12_init 130 = .ok (.getfield 7, 3) := by decide +kernel
theorem dX12_init_133 : decode cX12_init 133 = .ok (.iload_n 1, 1) := by decide +kernel
theorem dX12_init_134 : decode cX12_init 134 = .ok (.iconst (-1), 1) := by decide +kernel
theorem dX12_init_135 : decode cX12_init 135 = .ok (.iastore, 1) := by decide +kernel
theorem dX12_init_136 : decode cX12_init 136 = .ok (.iinc 1 1, 3) := by decide +kernel
theorem dX12_init_139 : decode cX12_init 139 = .ok (.goto (-15), 3) := by decide +kernel
theorem dX12_init_142 : decode cX12_init 142 = .ok (.aload_n 0, 1) := by decide +kernel
theorem dX12_init_143 : decode cX12_init 143 = .ok (.getfield 44, 3) := by decide +kernel
theorem dX12_init_146 : decode cX12_init 146 = .ok (.iconst 0, 1) := by decide +kernel
theorem dX12_init_147 : decode cX12_init 147 = .ok (.iconst 1, 1) := by decide +kernel
theorem dX12_init_148 : decode cX12_init 148 = .ok (.iastore, 1) := by decide +kernel
theorem dX12_init_149 : decode cX12_init 149 = .ok (.aload_n 0, 1) := by decide +kernel
theorem dX12_init_150 : decode cX12_init 150 = .ok (.getfield 44, 3) := by decide +kernel
theorem dX12_init_153 : decode cX12_init 153 = .ok (.iconst 2, 1) := by decide +kernel
theorem dX12_init_154 : decode cX12_init 154 = .ok (.bipush 16, 2) := by decide +kernel
theorem dX12_init_156 : decode cX12_init 156 = .ok (.iastore, 1) := by decide +kernel
theorem dX12_init_157 : decode cX12_init 157 = .ok (.aload_n 0, 1) := by decide +kernel
theorem dX12_init_158 : decode cX12_init 158 = .ok (.getfield 44, 3) := by decide +kernel
theorem dX12_init_161 : decode cX12_init 161 = .ok (.iconst 4, 1) := by decide +kernel
theorem dX12_init_162 : decode cX12_init 162 = .ok (.sipush 1999, 3) := by decide +kernel
theorem dX12_init_165 : decode cX12_init 165 = .ok (.iastore, 1) := by decide +kernel
theorem dX12_init_166 : decode cX12_init 166 = .ok (.aload_n 0, 1) := by decide +kernel
theorem dX12_init_167 : decode cX12_init 167 = .ok (.getfield 44, 3) := by decide +kernel
theorem dX12_init_170 : decode cX12_init 170 = .ok (.iconst 5, 1) := by decide +kernel
theorem dX12_init_171 : decode cX12_init 171 = .ok (.iconst 1, 1) := by decide +kernel
theorem dX12_init_172 : decode cX12_init 172 = .ok (.iastore, 1) := by decide +kernel
theorem dX12_init_173 : decode cX12_init 173 = .ok (.return_, 1) := by decide +kernel
theorem dX12_in_0 : decode cX12_in 0 = .ok (.lload_n 0, 1) := by decide +kernel
theorem dX12_in_1 : decode cX12_in 1 = .ok (.lload_n 2, 1) := by decide +kernel
theorem dX12_in_2 : decode cX12_in 2 = .ok (.lcmp, 1) := by decide +kernel
theorem dX12_in_3 : decode cX12_in 3 = .ok (.ifCond .lt 14, 3) := by decide +kernel
theorem dX12_in_6 : decode cX12_in 6 = .ok (.lload_n 0, 1) := by decide +kernel
theorem dX12_in_7 : decode cX12_in 7 = .ok (.lload 4, 2) := by decide +kernel
theorem dX12_in_9 : decode cX12_in 9 = .ok (.lcmp, 1) := by decide +kernel
theorem dX12_in_10 : decode cX12_in 10 = .ok (.ifCond .gt 7, 3) := by decide +kernel
theorem dX12_in_13 : decode cX12_in 13 = .ok (.iconst 1, 1) := by decide +kernel
theorem dX12_in_14 : decode cX12_in 14 = .ok (.goto 4, 3) := by decide +kernel
theorem dX12_in_17 : decode cX12_in 17 = .ok (.iconst 0, 1) := by decide +kernel
theorem dX12_in_18 : decode cX12_in 18 = .ok (.ireturn, 1) := by decide +kernel
theorem dX12_no_0 : decode cX12_no 0 = .ok (.ldc2_w 56, 3) := by decide +kernel
theorem dX12_no_3 : decode cX12_no 3 = .ok (.iload_n 0, 1) := by decide +kernel
theorem dX12_no_4 : decode cX12_no 4 = .ok (.i2l, 1) := by decide +kernel
theorem dX12_no_5 : decode cX12_no 5 = .ok (.lsub, 1) := by decide +kernel
theorem dX12_no_6 : decode cX12_no 6 = .ok (.lreturn, 1) := by decide +kernel
theorem dX12_isTwo_0 : decode cX12_isTwo 0 = .ok (.iload_n 0, 1) := by decide +kernel
theorem dX12_isTwo_1 : decode cX12_isTwo 1 = .ok (.i2l, 1) := by decide +kernel
theorem dX12_isTwo_2 : decode cX12_isTwo 2 = .ok (.lconst 0, 1) := by decide +kernel
theorem dX12_isTwo_3 : decode cX12_isTwo 3 = .ok (.lconst 1, 1) := by decide +kernel
theorem dX12_isTwo_4 : decode cX12_isTwo 4 = .ok (.invokestatic 58, 3) := by decide +kernel
theorem dX12_isTwo_7 : decode cX12_isTwo 7 = .ok (.ireturn, 1) := by decide +kernel
theorem dX12_isIn_0 : decode cX12_isIn 0 = .ok (.iload_n 0, 1) := by decide +kernel
theorem dX12_isIn_1 : decode cX12_isIn 1 = .ok (.iload_n 1, 1) := by decide +kernel
theorem dX12_isIn_2 : decode cX12_isIn 2 = .ok (.ishr, 1) := by decide +kernel
theorem dX12_isIn_3 : decode cX12_isIn 3 = .ok (.iconst 1, 1) := by decide +kernel
theorem dX12_isIn_4 : decode cX12_isIn 4 = .ok (.iand, 1) := by decide +kernel
theorem dX12_isIn_5 : decode cX12_isIn 5 = .ok (.iconst 1, 1) := by decide +kernel
theorem dX12_isIn_6 : decode cX12_isIn 6 = .ok (.if_icmp .ne 7, 3) := by decide +kernel
theorem dX12_isIn_9 : decode cX12_isIn 9 = .ok (.iconst 1, 1) := by decide +kernel
theorem dX12_isIn_10 : decode cX12_isIn 10 = .ok (.goto 4, 3) := by decide +kernel
theorem dX12_isIn_13 : decode cX12_isIn 13 = .ok (.iconst 0, 1) := by decide +kernel
theorem dX12_isIn_14 : decode cX12_isIn 14 = .ok (.ireturn, 1) := by decide +kernel
theorem dX12_ones_0 : decode cX12_ones 0 = .ok (.iconst 0, 1) := by decide +kernel
theorem dX12_ones_1 : decode cX12_ones 1 = .ok (.istore_n 1, 1) := by decide +kernel
theorem dX12_ones_2 : decode cX12_ones 2 = .ok (.iload_n 0, 1) := by decide +kernel
theorem dX12_ones_3 : decode cX12_ones 3 = .ok (.istore_n 2, 1) := by decide +kernel
theorem dX12_ones_4 : decode cX12_ones 4 = .ok (.iload_n 2, 1) := by decide +kernel
theorem dX12_ones_5 : decode cX12_ones 5 = .ok (.ifCond .eq 15, 3) := by decide +kernel
theorem dX12_ones_8 : decode cX12_ones 8 = .ok (.iinc 1 1, 3) := by decide +kernel
theorem dX12_ones_11 : decode cX12_ones 11 = .ok (.iload_n 2, 1) := by decide +kernel
theorem dX12_ones_12 : decode cX12_ones 12 = .ok (.iload_n 2, 1) := by decide +kernel
theorem dX12_ones_13 : decode cX12_ones 13 = .ok (.iconst 1, 1) := by decide +kernel
theorem dX12_ones_14 : decode cX12_ones 14 = .ok (.isub, 1) := by decide +kernel
theorem dX12_ones_15 : decode cX12_ones 15 = .ok (.iand, 1) := by decide +kernel
theorem dX12_ones_16 : decode cX12_ones 16 = .ok (.istore_n 2, 1) := by decide +kernel
theorem dX12_ones_17 : decode cX12_ones 17 = .ok (.goto (-13), 3) := by decide +kernel
theorem dX12_ones_20 : decode cX12_ones 20 = .ok (.iload_n 1, 1) := by decide +kernel
theorem dX12_ones_21 : decode cX12_ones 21 = .ok (.ireturn, 1) := by decide +kernel
theorem dX12_greater_0 : decode cX12_greater 0 = .ok (.iload_n 0, 1) := by decide +kernel
theorem dX12_greater_1 : decode cX12_greater 1 = .ok (.iload_n 1, 1) := by decide +kernel
theorem dX12_greater_2 : decode cX12_greater 2 = .ok (.if_icmp .le 7, 3) := by decide +kernel
theorem dX12_greater_5 : decode cX12_greater 5 = .ok (.iload_n 0, 1) := by decide +kernel
theorem dX12_greater_6 : decode cX12_greater 6 = .ok (.goto 4, 3) := by decide +kernel
theorem dX12_greater_9 : decode cX12_greater 9 = .ok (.iload_n 1, 1) := by decide +kernel
theorem dX12_greater_10 : decode cX12_greater 10 = .ok (.ireturn, 1) := by decide +kernel
theorem dX12_lesser_0 : decode cX12_lesser 0 = .ok (.iload_n 0, 1) := by decide +kernel
theorem dX12_lesser_1 : decode cX12_lesser 1 = .ok (.iload_n 1, 1) := by decide +kernel
theorem dX12_lesser_2 : decode cX12_lesser 2 = .ok (.if_icmp .ge 7, 3) := by decide +kernel
theorem dX12_lesser_5 : decode cX12_lesser 5 = .ok (.iload_n 0, 1) := by decide +kernel
theorem dX12_lesser_6 : decode cX12_lesser 6 = .ok (.goto 4, 3) := by decide +kernel
theorem dX12_lesser_9 : decode cX12_lesser 9 = .ok (.iload_n 1, 1) := by decide +kernel
theorem dX12_lesser_10 : decode cX12_lesser 10 = .ok (.ireturn, 1) := by decide +kernel
theorem dX12_part_0 : decode cX12_part 0 = .ok (.lload_n 0, 1) := by decide +kernel
theorem dX12_part_1 : decode cX12_part 1 = .ok (.lstore 5, 2) := by decide +kernel
theorem dX12_part_3 : decode cX12_part 3 = .ok (.lload_n 2, 1) := by decide +kernel
theorem dX12_part_4 : decode cX12_part 4 = .ok (.lstore 7, 2) := by decide +kernel
theorem dX12_part_6 : decode cX12_part 6 = .ok (.lload 7, 2) := by decide +kernel
theorem dX12_part_8 : decode cX12_part 8 = .ok (.lconst 0, 1) := by decide +kernel
theorem dX12_part_9 : decode cX12_part 9 = .ok (.lcmp, 1) := by decide +kernel
theorem dX12_part_10 : decode cX12_part 10 = .ok (.ifCond .eq 21, 3) := by decide +kernel
theorem dX12_part_13 : decode cX12_part 13 = .ok (.lload 5, 2) := by decide +kernel
theorem dX12_part_15 : decode cX12_part 15 = .ok (.lload 7, 2) := by decide +kernel
theorem dX12_part_17 : decode cX12_part 17 = .ok (.lrem, 1) := by decide +kernel
theorem dX12_part_18 : decode cX12_part 18 = .ok (.lstore 9, 2) := by decide +kernel
theorem dX12_part_20 : decode cX12_part 20 = .ok (.lload 7, 2) := by decide +kernel
theorem dX12_part_22 : decode cX12_part 22 = .ok (.lstore 5, 2) := by decide +kernel
theorem dX12_part_24 : decode cX12_part 24 = .ok (.lload 9, 2) := by decide +kernel
theorem dX12_part_26 : decode cX12_part 26 = .ok (.lstore 7, 2) := by decide +kernel
theorem dX12_part_28 : decode cX12_part 28 = .ok (.goto (-22), 3) := by decide +kernel
theorem dX12_part_31 : decode cX12_part 31 = .ok (.iload 4, 2) := by decide +kernel
theorem dX12_part_33 : decode cX12_part 33 = .ok (.ifCond .ne 7, 3) := by decide +kernel
theorem dX12_part_36 : decode cX12_part 36 = .ok (.lload_n 0, 1) := by decide +kernel
theorem dX12_part_37 : decode cX12_part 37 = .ok (.goto 4, 3) := by decide +kernel
theorem dX12_part_40 : decode cX12_part 40 = .ok (.lload_n 2, 1) := by decide +kernel
theorem dX12_part_41 : decode cX12_part 41 = .ok (.lload 5, 2) := by decide +kernel
theorem dX12_part_43 : decode cX12_part 43 = .ok (.ldiv, 1) := by decide +kernel
theorem dX12_part_44 : decode cX12_part 44 = .ok (.lreturn, 1) := by decide +kernel
theorem dX12_met_0 : decode cX12_met 0 = .ok (.aload_n 0, 1) := by decide +kernel
theorem dX12_met_1 : decode cX12_met 1 = .ok (.iload_n 1, 1) := by decide +kernel
theorem dX12_met_2 : decode cX12_met 2 = .ok (.putfield 62, 3) := by decide +kernel
theorem dX12_met_5 : decode cX12_met 5 = .ok (.bipush (-10), 2) := by decide +kernel
theorem dX12_met_7 : decode cX12_met 7 = .ok (.iload_n 1, 1) := by decide +kernel
theorem dX12_met_8 : decode cX12_met 8 = .ok (.isub, 1) := by decide +kernel
theorem dX12_met_9 : decode cX12_met 9 = .ok (.ireturn, 1) := by decide +kernel
theorem dX12_isSheet_0 : decode cX12_isSheet 0 = .ok (.iload_n 0, 1) := by decide +kernel
theorem dX12_isSheet_1 : decode cX12_isSheet 1 = .ok (.i2l, 1) := by decide +kernel
theorem dX12_isSheet_2 : decode cX12_isSheet 2 = .ok (.lconst 0, 1) := by decide +kernel
theorem dX12_isSheet_3 : decode cX12_isSheet 3 = .ok (.ldc2_w 66, 3) := by decide +kernel
theorem dX12_isSheet_6 : decode cX12_isSheet 6 = .ok (.invokestatic 58, 3) := by decide +kernel
theorem dX12_isSheet_9 : decode cX12_isSheet 9 = .ok (.ireturn, 1) := by decide +kernel
theorem dX12_sheet_0 : decode cX12_sheet 0 = .ok (.iload_n 1, 1) := by decide +kernel
theorem dX12_sheet_1 : decode cX12_sheet 1 = .ok (.invokestatic 68, 3) := by decide +kernel
theorem dX12_sheet_4 : decode cX12_sheet 4 = .ok (.ifCond .eq 21, 3) := by decide +kernel
theorem dX12_sheet_7 : decode cX12_sheet 7 = .ok (.iload_n 2, 1) := by decide +kernel
theorem dX12_sheet_8 : decode cX12_sheet 8 = .ok (.i2l, 1) := by decide +kernel
theorem dX12_sheet_9 : decode cX12_sheet 9 = .ok (.lconst 0, 1) := by decide +kernel
theorem dX12_sheet_10 : decode cX12_sheet 10 = .ok (.ldc2_w 72, 3) := by decide +kernel
theorem dX12_sheet_13 : decode cX12_sheet 13 = .ok (.invokestatic 58, 3) := by decide +kernel
theorem dX12_sheet_16 : decode cX12_sheet 16 = .ok (.ifCond .eq 9, 3) := by decide +kernel
theorem dX12_sheet_19 : decode cX12_sheet 19 = .ok (.iload_n 3, 1) := by decide +kernel
theorem dX12_sheet_20 : decode cX12_sheet 20 = .ok (.bipush 60, 2) := by decide +kernel
theorem dX12_sheet_22 : decode cX12_sheet 22 = .ok (.if_icmp .le 6, 3) := by decide +kernel
theorem dX12_sheet_25 : decode cX12_sheet 25 = .ok (.bipush (-2), 2) := by decide +kernel
theorem dX12_sheet_27 : decode cX12_sheet 27 = .ok (.ireturn, 1) := by decide +kernel
theorem dX12_sheet_28 : decode cX12_sheet 28 = .ok (.iload_n 3, 1) := by decide +kernel
theorem dX12_sheet_29 : decode cX12_sheet 29 = .ok (.ifCond .ge 9, 3) := by decide +kernel
theorem dX12_sheet_32 : decode cX12_sheet 32 = .ok (.aload_n 0, 1) := by decide +kernel
theorem dX12_sheet_33 : decode cX12_sheet 33 = .ok (.iconst 5, 1) := by decide +kernel
theorem dX12_sheet_34 : decode cX12_sheet 34 = .ok (.invokevirtual 74, 3) := by decide +kernel
theorem dX12_sheet_37 : decode cX12_sheet 37 = .ok (.ireturn, 1) := by decide +kernel
theorem dX12_sheet_38 : decode cX12_sheet 38 = .ok (.aload_n 0, 1) := by decide +kernel
theorem dX12_sheet_39 : decode cX12_sheet 39 = .ok (.getfield 7, 3) := by decide +kernel
theorem dX12_sheet_42 : decode cX12_sheet 42 = .ok (.iload_n 1, 1) := by decide +kernel
theorem dX12_sheet_43 : decode cX12_sheet 43 = .ok (.iload_n 2, 1) := by decide +kernel
theorem dX12_sheet_44 : decode cX12_sheet 44 = .ok (.iastore, 1) := by decide +kernel
theorem dX12_sheet_45 : decode cX12_sheet 45 = .ok (.aload_n 0, 1) := by decide +kernel
theorem dX12_sheet_46 : decode cX12_sheet 46 = .ok (.getfield 13, 3) := by decide +kernel
theorem dX12_sheet_49 : decode cX12_sheet 49 = .ok (.iload_n 1, 1) := by decide +kernel
theorem dX12_sheet_50 : decode cX12_sheet 50 = .ok (.iload_n 3, 1) := by decide +kernel
theorem dX12_sheet_51 : decode cX12_sheet 51 = .ok (.iastore, 1) := by decide +kernel
theorem dX12_sheet_52 : decode cX12_sheet 52 = .ok (.iconst 0, 1) := by decide +kernel
theorem dX12_sheet_53 : decode cX12_sheet 53 = .ok (.istore 4, 2) := by decide +kernel
theorem dX12_sheet_55 : decode cX12_sheet 55 = .ok (.iload 4, 2) := by decide +kernel
theorem dX12_sheet_57 : decode cX12_sheet 57 = .ok (.iload_n 3, 1) := by decide +kernel
theorem dX12_sheet_58 : decode cX12_sheet 58 = .ok (.if_icmp .ge 22, 3) := by decide +kernel
theorem dX12_sheet_61 : decode cX12_sheet 61 = .ok (.aload_n 0, 1) := by decide +kernel
theorem dX12_sheet_62 : decode cX12_sheet 62 = .ok (.getfield 16, 3) := by decide +kernel
theorem dX12_sheet_65 : decode cX12_sheet 65 = .ok (.bipush 60, 2) := by decide +kernel
theorem dX12_sheet_67 : decode cX12_sheet 67 = .ok (.iload_n 1, 1) := by decide +kernel
theorem dX12_sheet_68 : decode cX12_sheet 68 = .ok (.imul, 1) := by decide +kernel
theorem dX12_sheet_69 : decode cX12_sheet 69 = .ok (.iload 4, 2) := by decide +kernel
theorem dX12_sheet_71 : decode cX12_sheet 71 = .ok (.iadd, 1) := by decide +kernel
theorem dX12_sheet_72 : decode cX12_sheet 72 = .ok (.iconst 0, 1) := by decide +kernel
theorem dX12_sheet_73 : decode cX12_sheet 73 = .ok (.iastore, 1) := by decide +kernel
theorem dX12_sheet_74 : decode cX12_sheet 74 = .ok (.iinc 4 1, 3) := by decide +kernel
theorem dX12_sheet_77 : decode cX12_sheet 77 = .ok (.goto (-22), 3) := by decide +kernel
theorem dX12_sheet_80 : decode cX12_sheet 80 = .ok (.iload_n 3, 1) := by decide +kernel
theorem dX12_sheet_81 : decode cX12_sheet 81 = .ok (.ireturn, 1) := by decide +kernel
theorem dX12_lose_0 : decode cX12_lose 0 = .ok (.iload_n 1, 1) := by decide +kernel
theorem dX12_lose_1 : decode cX12_lose 1 = .ok (.invokestatic 68, 3) := by decide +kernel
theorem dX12_lose_4 : decode cX12_lose 4 = .ok (.ifCond .ne 6, 3) := by decide +kernel
theorem dX12_lose_7 : decode cX12_lose 7 = .ok (.bipush (-2), 2) := by decide +kernel
theorem dX12_lose_9 : decode cX12_lose 9 = .ok (.ireturn, 1) := by decide +kernel
theorem dX12_lose_10 : decode cX12_lose 10 = .ok (.aload_n 0, 1) := by decide +kernel
theorem dX12_lose_11 : decode cX12_lose 11 = .ok (.getfield 7, 3) := by decide +kernel
theorem dX12_lose_14 : decode cX12_lose 14 = .ok (.iload_n 1, 1) := by decide +kernel
theorem dX12_lose_15 : decode cX12_lose 15 = .ok (.iaload, 1) := by decide +kernel
theorem dX12_lose_16 : decode cX12_lose 16 = .ok (.ifCond .ge 9, 3) := by decide +kernel
theorem dX12_lose_19 : decode cX12_lose 19 = .ok (.aload_n 0, 1) := by decide +kernel
theorem dX12_lose_20 : decode cX12_lose 20 = .ok (.iconst 1, 1) := by decide +kernel
theorem dX12_lose_21 : decode cX12_lose 21 = .ok (.invokevirtual 74, 3) := by decide +kernel
theorem dX12_lose_24 : decode cX12_lose 24 = .ok (.ireturn, 1) := by decide +kernel
theorem dX12_lose_25 : decode cX12_lose 25 = .ok (.aload_n 0, 1) := by decide +kernel
theorem dX12_lose_26 : decode cX12_lose 26 = .ok (.getfield 7, 3) := by decide +kernel
theorem dX12_lose_29 : decode cX12_lose 29 = .ok (.iload_n 1, 1) := by decide +kernel
theorem dX12_lose_30 : decode cX12_lose 30 = .ok (.iconst (-1), 1) := by decide +kernel
theorem dX12_lose_31 : decode cX12_lose 31 = .ok (.iastore, 1) := by decide +kernel
theorem dX12_lose_32 : decode cX12_lose 32 = .ok (.aload_n 0, 1) := by decide +kernel
theorem dX12_lose_33 : decode cX12_lose 33 = .ok (.getfield 13, 3) := by decide +kernel
theorem dX12_lose_36 : decode cX12_lose 36 = .ok (.iload_n 1, 1) := by decide +kernel
theorem dX12_lose_37 : decode cX12_lose 37 = .ok (.iaload, 1) := by decide +kernel
theorem dX12_lose_38 : decode cX12_lose 38 = .ok (.ireturn, 1) := by decide +kernel
theorem dX12_lacks_0 : decode cX12_lacks 0 = .ok (.aload_n 0, 1) := by decide +kernel
theorem dX12_lacks_1 : decode cX12_lacks 1 = .ok (.getfield 7, 3) := by decide +kernel
theorem dX12_lacks_4 : decode cX12_lacks 4 = .ok (.iload_n 1, 1) := by decide +kernel
theorem dX12_lacks_5 : decode cX12_lacks 5 = .ok (.iaload, 1) := by decide +kernel
theorem dX12_lacks_6 : decode cX12_lacks 6 = .ok (.ifCond .ge 9, 3) := by decide +kernel
theorem dX12_lacks_9 : decode cX12_lacks 9 = .ok (.aload_n 0, 1) := by decide +kernel
theorem dX12_lacks_10 : decode cX12_lacks 10 = .ok (.iconst 1, 1) := by decide +kernel
theorem dX12_lacks_11 : decode cX12_lacks 11 = .ok (.invokevirtual 74, 3) := by decide +kernel
theorem dX12_lacks_14 : decode cX12_lacks 14 = .ok (.ireturn, 1) := by decide +kernel
theorem dX12_lacks_15 : decode cX12_lacks 15 = .ok (.aload_n 0, 1) := by decide +kernel
theorem dX12_lacks_16 : decode cX12_lacks 16 = .ok (.getfield 7, 3) := by decide +kernel
theorem dX12_lacks_19 : decode cX12_lacks 19 = .ok (.iload_n 1, 1) := by decide +kernel
theorem dX12_lacks_20 : decode cX12_lacks 20 = .ok (.iaload, 1) := by decide +kernel
theorem dX12_lacks_21 : decode cX12_lacks 21 = .ok (.iload_n 2, 1) := by decide +kernel
theorem dX12_lacks_22 : decode cX12_lacks 22 = .ok (.if_icmp .eq 9, 3) := by decide +kernel
theorem dX12_lacks_25 : decode cX12_lacks 25 = .ok (.aload_n 0, 1) := by decide +kernel
theorem dX12_lacks_26 : decode cX12_lacks 26 = .ok (.iconst 3, 1) := by decide +kernel
theorem dX12_lacks_27 : decode cX12_lacks 27 = .ok (.invokevirtual 74, 3) := by decide +kernel
theorem dX12_lacks_30 : decode cX12_lacks 30 = .ok (.ireturn, 1) := by decide +kernel
theorem dX12_lacks_31 : decode cX12_lacks 31 = .ok (.iload_n 3, 1) := by decide +kernel
theorem dX12_lacks_32 : decode cX12_lacks 32 = .ok (.i2l, 1) := by decide +kernel
theorem dX12_lacks_33 : decode cX12_lacks 33 = .ok (.lconst 0, 1) := by decide +kernel
theorem dX12_lacks_34 : decode cX12_lacks 34 = .ok (.aload_n 0, 1) := by decide +kernel
theorem dX12_lacks_35 : decode cX12_lacks 35 = .ok (.getfield 13, 3) := by decide +kernel
theorem dX12_lacks_38 : decode cX12_lacks 38 = .ok (.iload_n 1, 1) := by decide +kernel
theorem dX12_lacks_39 : decode cX12_lacks 39 = .ok (.iaload, 1) := by decide +kernel
theorem dX12_lacks_40 : decode cX12_lacks 40 = .ok (.iconst 1, 1) := by decide +kernel
theorem dX12_lacks_41 : decode cX12_lacks 41 = .ok (.isub, 1) := by decide +kernel
theorem dX12_lacks_42 : decode cX12_lacks 42 = .ok (.i2l, 1) := by decide +kernel
theorem dX12_lacks_43 : decode cX12_lacks 43 = .ok (.invokestatic 58, 3) := by decide +kernel
theorem dX12_lacks_46 : decode cX12_lacks 46 = .ok (.ifCond .eq 7, 3) := by decide +kernel
theorem dX12_lacks_49 : decode cX12_lacks 49 = .ok (.iconst 0, 1) := by decide +kernel
theorem dX12_lacks_50 : decode cX12_lacks 50 = .ok (.goto 8, 3) := by decide +kernel
theorem dX12_lacks_53 : decode cX12_lacks 53 = .ok (.aload_n 0, 1) := by decide +kernel
theorem dX12_lacks_54 : decode cX12_lacks 54 = .ok (.iconst 2, 1) := by decide +kernel
theorem dX12_lacks_55 : decode cX12_lacks 55 = .ok (.invokevirtual 74, 3) := by decide +kernel
theorem dX12_lacks_58 : decode cX12_lacks 58 = .ok (.ireturn, 1) := by decide +kernel
theorem dX12_cut_0 : decode cX12_cut 0 = .ok (.iload_n 0, 1) := by decide +kernel
theorem dX12_cut_1 : decode cX12_cut 1 = .ok (.ifCond .ne 8, 3) := by decide +kernel
theorem dX12_cut_4 : decode cX12_cut 4 = .ok (.iload_n 1, 1) := by decide +kernel
theorem dX12_cut_5 : decode cX12_cut 5 = .ok (.i2b, 1) := by decide +kernel
theorem dX12_cut_6 : decode cX12_cut 6 = .ok (.goto 14, 3) := by decide +kernel
theorem dX12_cut_9 : decode cX12_cut 9 = .ok (.iload_n 0, 1) := by decide +kernel
theorem dX12_cut_10 : decode cX12_cut 10 = .ok (.iconst 1, 1) := by decide +kernel
theorem dX12_cut_11 : decode cX12_cut 11 = .ok (.if_icmp .ne 8, 3) := by decide +kernel
theorem dX12_cut_14 : decode cX12_cut 14 = .ok (.iload_n 1, 1) := by decide +kernel
theorem dX12_cut_15 : decode cX12_cut 15 = .ok (.i2s, 1) := by decide +kernel
theorem dX12_cut_16 : decode cX12_cut 16 = .ok (.goto 4, 3) := by decide +kernel
theorem dX12_cut_19 : decode cX12_cut 19 = .ok (.iload_n 1, 1) := by decide +kernel
theorem dX12_cut_20 : decode cX12_cut 20 = .ok (.ireturn, 1) := by decide +kernel
theorem dX12_lay_0 : decode cX12_lay 0 = .ok (.iload_n 1, 1) := by decide +kernel
theorem dX12_lay_1 : decode cX12_lay 1 = .ok (.invokestatic 68, 3) := by decide +kernel
theorem dX12_lay_4 : decode cX12_lay 4 = .ok (.ifCond .eq 15, 3) := by decide +kernel
theorem dX12_lay_7 : decode cX12_lay 7 = .ok (.iload_n 2, 1) := by decide +kernel
theorem dX12_lay_8 : decode cX12_lay 8 = .ok (.i2l, 1) := by decide +kernel
theorem dX12_lay_9 : decode cX12_lay 9 = .ok (.lconst 0, 1) := by decide +kernel
theorem dX12_lay_10 : decode cX12_lay 10 = .ok (.ldc2_w 72, 3) := by decide +kernel
theorem dX12_lay_13 : decode cX12_lay 13 = .ok (.invokestatic 58, 3) := by decide +kernel
theorem dX12_lay_16 : decode cX12_lay 16 = .ok (.ifCond .ne 6, 3) := by decide +kernel
theorem dX12_lay_19 : decode cX12_lay 19 = .ok (.bipush (-2), 2) := by decide +kernel
theorem dX12_lay_21 : decode cX12_lay 21 = .ok (.ireturn, 1) := by decide +kernel
theorem dX12_lay_22 : decode cX12_lay 22 = .ok (.aload_n 0, 1) := by decide +kernel
theorem dX12_lay_23 : decode cX12_lay 23 = .ok (.iload_n 1, 1) := by decide +kernel
theorem dX12_lay_24 : decode cX12_lay 24 = .ok (.iload_n 2, 1) := by decide +kernel
theorem dX12_lay_25 : decode cX12_lay 25 = .ok (.iload_n 3, 1) := by decide +kernel
theorem dX12_lay_26 : decode cX12_lay 26 = .ok (.invokevirtual 78, 3) := by decide +kernel
theorem dX12_lay_29 : decode cX12_lay 29 = .ok (.istore 5, 2) := by decide +kernel
theorem dX12_lay_31 : decode cX12_lay 31 = .ok (.iload 5, 2) := by decide +kernel
theorem dX12_lay_33 : decode cX12_lay 33 = .ok (.ifCond .eq 6, 3) := by decide +kernel
theorem dX12_lay_36 : decode cX12_lay 36 = .ok (.iload 5, 2) := by decide +kernel
theorem dX12_lay_38 : decode cX12_lay 38 = .ok (.ireturn, 1) := by decide +kernel
theorem dX12_lay_39 : decode cX12_lay 39 = .ok (.aload_n 0, 1) := by decide +kernel
theorem dX12_lay_40 : decode cX12_lay 40 = .ok (.getfield 16, 3) := by decide +kernel
theorem dX12_lay_43 : decode cX12_lay 43 = .ok (.bipush 60, 2) := by decide +kernel
theorem dX12_lay_45 : decode cX12_lay 45 = .ok (.iload_n 1, 1) := by decide +kernel
theorem dX12_lay_46 : decode cX12_lay 46 = .ok (.imul, 1) := by decide +kernel
theorem dX12_lay_47 : decode cX12_lay 47 = .ok (.iload_n 3, 1) := by decide +kernel
theorem dX12_lay_48 : decode cX12_lay 48 = .ok (.iadd, 1) := by decide +kernel
theorem dX12_lay_49 : decode cX12_lay 49 = .ok (.iload_n 2, 1) := by decide +kernel
theorem dX12_lay_50 : decode cX12_lay 50 = .ok (.iload 4, 2) := by decide +kernel
theorem dX12_lay_52 : decode cX12_lay 52 = .ok (.invokestatic 82, 3) := by decide +kernel
theorem dX12_lay_55 : decode cX12_lay 55 = .ok (.iastore, 1) := by decide +kernel
theorem dX12_lay_56 : decode cX12_lay 56 = .ok (.iconst 1, 1) := by decide +kernel
theorem dX12_lay_57 : decode cX12_lay 57 = .ok (.ireturn, 1) := by decide +kernel
theorem dX12_get_0 : decode cX12_get 0 = .ok (.iload_n 1, 1) := by decide +kernel
theorem dX12_get_1 : decode cX12_get 1 = .ok (.invokestatic 68, 3) := by decide +kernel
theorem dX12_get_4 : decode cX12_get 4 = .ok (.ifCond .eq 25, 3) := by decide +kernel
theorem dX12_get_7 : decode cX12_get 7 = .ok (.iload_n 2, 1) := by decide +kernel
theorem dX12_get_8 : decode cX12_get 8 = .ok (.i2l, 1) := by decide +kernel
theorem dX12_get_9 : decode cX12_get 9 = .ok (.lconst 0, 1) := by decide +kernel
theorem dX12_get_10 : decode cX12_get 10 = .ok (.ldc2_w 72, 3) := by decide +kernel
theorem dX12_get_13 : decode cX12_get 13 = .ok (.invokestatic 58, 3) := by decide +kernel
theorem dX12_get_16 : decode cX12_get 16 = .ok (.ifCond .eq 13, 3) := by decide +kernel
theorem dX12_get_19 : decode cX12_get 19 = .ok (.aload_n 0, 1) := by decide +kernel
theorem dX12_get_20 : decode cX12_get 20 = .ok (.iload_n 1, 1) := by decide +kernel
theorem dX12_get_21 : decode cX12_get 21 = .ok (.iload_n 2, 1) := by decide +kernel
theorem dX12_get_22 : decode cX12_get 22 = .ok (.iload_n 3, 1) := by decide +kernel
theorem dX12_get_23 : decode cX12_get 23 = .ok (.invokevirtual 78, 3) := by decide +kernel
theorem dX12_get_26 : decode cX12_get 26 = .ok (.ifCond .eq 6, 3) := by decide +kernel
theorem dX12_get_29 : decode cX12_get 29 = .ok (.ldc 86, 2) := by decide +kernel
theorem dX12_get_31 : decode cX12_get 31 = .ok (.ireturn, 1) := by decide +kernel
theorem dX12_get_32 : decode cX12_get 32 = .ok (.aload_n 0, 1) := by decide +kernel
theorem dX12_get_33 : decode cX12_get 33 = .ok (.getfield 16, 3) := by decide +kernel
theorem dX12_get_36 : decode cX12_get 36 = .ok (.bipush 60, 2) := by decide +kernel
theorem dX12_get_38 : decode cX12_get 38 = .ok (.iload_n 1, 1) := by decide +kernel
theorem dX12_get_39 : decode cX12_get 39 = .ok (.imul, 1) := by decide +kernel
theorem dX12_get_40 : decode cX12_get 40 = .ok (.iload_n 3, 1) := by decide +kernel
theorem dX12_get_41 : decode cX12_get 41 = .ok (.iadd, 1) := by decide +kernel
theorem dX12_get_42 : decode cX12_get 42 = .ok (.iaload, 1) := by decide +kernel
theorem dX12_get_43 : decode cX12_get 43 = .ok (.ireturn, 1) := by decide +kernel
theorem dX12_copy_0 : decode cX12_copy 0 = .ok (.iload_n 1, 1) := by decide +kernel
theorem dX12_copy_1 : decode cX12_copy 1 = .ok (.invokestatic 68, 3) := by decide +kernel
theorem dX12_copy_4 : decode cX12_copy 4 = .ok (.ifCond .eq 10, 3) := by decide +kernel
theorem dX12_copy_7 : decode cX12_copy 7 = .ok (.iload_n 3, 1) := by decide +kernel
theorem dX12_copy_8 : decode cX12_copy 8 = .ok (.invokestatic 68, 3) := by decide +kernel
theorem dX12_copy_11 : decode cX12_copy 11 = .ok (.ifCond .ne 6, 3) := by decide +kernel
theorem dX12_copy_14 : decode cX12_copy 14 = .ok (.bipush (-2), 2) := by decide +kernel
theorem dX12_copy_16 : decode cX12_copy 16 = .ok (.ireturn, 1) := by decide +kernel
theorem dX12_copy_17 : decode cX12_copy 17 = .ok (.aload_n 0, 1) := by decide +kernel
theorem dX12_copy_18 : decode cX12_copy 18 = .ok (.getfield 7, 3) := by decide +kernel
theorem dX12_copy_21 : decode cX12_copy 21 = .ok (.iload_n 1, 1) := by decide +kernel
theorem dX12_copy_22 : decode cX12_copy 22 = .ok (.iaload, 1) := by decide +kernel
theorem dX12_copy_23 : decode cX12_copy 23 = .ok (.ifCond .lt 12, 3) := by decide +kernel
theorem dX12_copy_26 : decode cX12_copy 26 = .ok (.aload_n 0, 1) := by decide +kernel
theorem dX12_copy_27 : decode cX12_copy 27 = .ok (.getfield 7, 3) := by decide +kernel
theorem dX12_copy_30 : decode cX12_copy 30 = .ok (.iload_n 3, 1) := by decide +kernel
theorem dX12_copy_31 : decode cX12_copy 31 = .ok (.iaload, 1) := by decide +kernel
theorem dX12_copy_32 : decode cX12_copy 32 = .ok (.ifCond .ge 9, 3) := by decide +kernel
theorem dX12_copy_35 : decode cX12_copy 35 = .ok (.aload_n 0, 1) := by decide +kernel
theorem dX12_copy_36 : decode cX12_copy 36 = .ok (.iconst 1, 1) := by decide +kernel
theorem dX12_copy_37 : decode cX12_copy 37 = .ok (.invokevirtual 74, 3) := by decide +kernel
theorem dX12_copy_40 : decode cX12_copy 40 = .ok (.ireturn, 1) := by decide +kernel
theorem dX12_copy_41 : decode cX12_copy 41 = .ok (.aload_n 0, 1) := by decide +kernel
theorem dX12_copy_42 : decode cX12_copy 42 = .ok (.getfield 7, 3) := by decide +kernel
theorem dX12_copy_45 : decode cX12_copy 45 = .ok (.iload_n 1, 1) := by decide +kernel
theorem dX12_copy_46 : decode cX12_copy 46 = .ok (.iaload, 1) := by decide +kernel
theorem dX12_copy_47 : decode cX12_copy 47 = .ok (.aload_n 0, 1) := by decide +kernel
theorem dX12_copy_48 : decode cX12_copy 48 = .ok (.getfield 7, 3) := by decide +kernel
theorem dX12_copy_51 : decode cX12_copy 51 = .ok (.iload_n 3, 1) := by decide +kernel
theorem dX12_copy_52 : decode cX12_copy 52 = .ok (.iaload, 1) := by decide +kernel
theorem dX12_copy_53 : decode cX12_copy 53 = .ok (.if_icmp .eq 9, 3) := by decide +kernel
theorem dX12_copy_56 : decode cX12_copy 56 = .ok (.aload_n 0, 1) := by decide +kernel
theorem dX12_copy_57 : decode cX12_copy 57 = .ok (.iconst 4, 1) := by decide +kernel
theorem dX12_copy_58 : decode cX12_copy 58 = .ok (.invokevirtual 74, 3) := by decide +kernel
theorem dX12_copy_61 : decode cX12_copy 61 = .ok (.ireturn, 1) := by decide +kernel
theorem dX12_copy_62 : decode cX12_copy 62 = .ok (.iload_n 2, 1) := by decide +kernel
theorem dX12_copy_63 : decode cX12_copy 63 = .ok (.ifCond .lt 48, 3) := by decide +kernel
theorem dX12_copy_66 : decode cX12_copy 66 = .ok (.iload 4, 2) := by decide +kernel
theorem dX12_copy_68 : decode cX12_copy 68 = .ok (.ifCond .lt 43, 3) := by decide +kernel
theorem dX12_copy_71 : decode cX12_copy 71 = .ok (.iload 5, 2) := by decide +kernel
theorem dX12_copy_73 : decode cX12_copy 73 = .ok (.ifCond .lt 38, 3) := by decide +kernel
theorem dX12_copy_76 : decode cX12_copy 76 = .ok (.iload_n 2, 1) := by decide +kernel
theorem dX12_copy_77 : decode cX12_copy 77 = .ok (.i2l, 1) := by decide +kernel
theorem dX12_copy_78 : decode cX12_copy 78 = .ok (.iload 5, 2) := by decide +kernel
theorem dX12_copy_80 : decode cX12_copy 80 = .ok (.i2l, 1) := by decide +kernel
theorem dX12_copy_81 : decode cX12_copy 81 = .ok (.ladd, 1) := by decide +kernel
theorem dX12_copy_82 : decode cX12_copy 82 = .ok (.aload_n 0, 1) := by decide +kernel
theorem dX12_copy_83 : decode cX12_copy 83 = .ok (.getfield 13, 3) := by decide +kernel
theorem dX12_copy_86 : decode cX12_copy 86 = .ok (.iload_n 1, 1) := by decide +kernel
theorem dX12_copy_87 : decode cX12_copy 87 = .ok (.iaload, 1) := by decide +kernel
theorem dX12_copy_88 : decode cX12_copy 88 = .ok (.i2l, 1) := by decide +kernel
theorem dX12_copy_89 : decode cX12_copy 89 = .ok (.lcmp, 1) := by decide +kernel
theorem dX12_copy_90 : decode cX12_copy 90 = .ok (.ifCond .gt 21, 3) := by decide +kernel
theorem dX12_copy_93 : decode cX12_copy 93 = .ok (.iload 4, 2) := by decide +kernel
theorem dX12_copy_95 : decode cX12_copy 95 = .ok (.i2l, 1) := by decide +kernel
theorem dX12_copy_96 : decode cX12_copy 96 = .ok (.iload 5, 2) := by decide +kernel
theorem dX12_copy_98 : decode cX12_copy 98 = .ok (.i2l, 1) := by decide +kernel
theorem dX12_copy_99 : decode cX12_copy 99 = .ok (.ladd, 1) := by decide +kernel
theorem dX12_copy_100 : decode cX12_copy 100 = .ok (.aload_n 0, 1) := by decide +kernel
theorem dX12_copy_101 : decode cX12_copy 101 = .ok (.getfield 13, 3) := by decide +kernel
theorem dX12_copy_104 : decode cX12_copy 104 = .ok (.iload_n 3, 1) := by decide +kernel
theorem dX12_copy_105 : decode cX12_copy 105 = .ok (.iaload, 1) := by decide +kernel
theorem dX12_copy_106 : decode cX12_copy 106 = .ok (.i2l, 1) := by decide +kernel
theorem dX12_copy_107 : decode cX12_copy 107 = .ok (.lcmp, 1) := by decide +kernel
theorem dX12_copy_108 : decode cX12_copy 108 = .ok (.ifCond .le 9, 3) := by decide +kernel
theorem dX12_copy_111 : decode cX12_copy 111 = .ok (.aload_n 0, 1) := by decide +kernel
theorem dX12_copy_112 : decode cX12_copy 112 = .ok (.iconst 2, 1) := by decide +kernel
theorem dX12_copy_113 : decode cX12_copy 113 = .ok (.invokevirtual 74, 3) := by decide +kernel
theorem dX12_copy_116 : decode cX12_copy 116 = .ok (.ireturn, 1) := by decide +kernel
theorem dX12_copy_117 : decode cX12_copy 117 = .ok (.iconst 0, 1) := by decide +kernel
theorem dX12_copy_118 : decode cX12_copy 118 = .ok (.istore 6, 2) := by decide +kernel
theorem dX12_copy_120 : decode cX12_copy 120 = .ok (.iload 6, 2) := by decide +kernel
theorem dX12_copy_122 : decode cX12_copy 122 = .ok (.iload 5, 2) := by decide +kernel
theorem dX12_copy_124 : decode cX12_copy 124 = .ok (.if_icmp .ge 30, 3) := by decide +kernel
theorem dX12_copy_127 : decode cX12_copy 127 = .ok (.aload_n 0, 1) := by decide +kernel
theorem dX12_copy_128 : decode cX12_copy 128 = .ok (.getfield 19, 3) := by decide +kernel
theorem dX12_copy_131 : decode cX12_copy 131 = .ok (.iload 6, 2) := by decide +kernel
theorem dX12_copy_133 : decode cX12_copy 133 = .ok (.aload_n 0, 1) := by decide +kernel
theorem dX12_copy_134 : decode cX12_copy 134 = .ok (.getfield 16, 3) := by decide +kernel
theorem dX12_copy_137 : decode cX12_copy 137 = .ok (.bipush 60, 2) := by decide +kernel
theorem dX12_copy_139 : decode cX12_copy 139 = .ok (.iload_n 1, 1) := by decide +kernel
theorem dX12_copy_140 : decode cX12_copy 140 = .ok (.imul, 1) := by decide +kernel
theorem dX12_copy_141 : decode cX12_copy 141 = .ok (.iload_n 2, 1) := by decide +kernel
theorem dX12_copy_142 : decode cX12_copy 142 = .ok (.iadd, 1) := by decide +kernel
theorem dX12_copy_143 : decode cX12_copy 143 = .ok (.iload 6, 2) := by decide +kernel
theorem dX12_copy_145 : decode cX12_copy 145 = .ok (.iadd, 1) := by decide +kernel
theorem dX12_copy_146 : decode cX12_copy 146 = .ok (.iaload, 1) := by decide +kernel
theorem dX12_copy_147 : decode cX12_copy 147 = .ok (.iastore, 1) := by decide +kernel
theorem dX12_copy_148 : decode cX12_copy 148 = .ok (.iinc 6 1, 3) := by decide +kernel
theorem dX12_copy_151 : decode cX12_copy 151 = .ok (.goto (-31), 3) := by decide +kernel
theorem dX12_copy_154 : decode cX12_copy 154 = .ok (.iconst 0, 1) := by decide +kernel
theorem dX12_copy_155 : decode cX12_copy 155 = .ok (.istore 6, 2) := by decide +kernel
theorem dX12_copy_157 : decode cX12_copy 157 = .ok (.iload 6, 2) := by decide +kernel
theorem dX12_copy_159 : decode cX12_copy 159 = .ok (.iload 5, 2) := by decide +kernel
theorem dX12_copy_161 : decode cX12_copy 161 = .ok (.if_icmp .ge 31, 3) := by decide +kernel
theorem dX12_copy_164 : decode cX12_copy 164 = .ok (.aload_n 0, 1) := by decide +kernel
theorem dX12_copy_165 : decode cX12_copy 165 = .ok (.getfield 16, 3) := by decide +kernel
theorem dX12_copy_168 : decode cX12_copy 168 = .ok (.bipush 60, 2) := by decide +kernel
theorem dX12_copy_170 : decode cX12_copy 170 = .ok (.iload_n 3, 1) := by decide +kernel
theorem dX12_copy_171 : decode cX12_copy 171 = .ok (.imul, 1) := by decide +kernel
theorem dX12_copy_172 : decode cX12_copy 172 = .ok (.iload 4, 2) := by decide +kernel
theorem dX12_copy_174 : decode cX12_copy 174 = .ok (.iadd, 1) := by decide +kernel
theorem dX12_copy_175 : decode cX12_copy 175 = .ok (.iload 6, 2) := by decide +kernel
theorem dX12_copy_177 : decode cX12_copy 177 = .ok (.iadd, 1) := by decide +kernel
theorem dX12_copy_178 : decode cX12_copy 178 = .ok (.aload_n 0, 1) := by decide +kernel
theorem dX12_copy_179 : decode cX12_copy 179 = .ok (.getfield 19, 3) := by decide +kernel
theorem dX12_copy_182 : decode cX12_copy 182 = .ok (.iload 6, 2) := by decide +kernel
theorem dX12_copy_184 : decode cX12_copy 184 = .ok (.iaload, 1) := by decide +kernel
theorem dX12_copy_185 : decode cX12_copy 185 = .ok (.iastore, 1) := by decide +kernel
theorem dX12_copy_186 : decode cX12_copy 186 = .ok (.iinc 6 1, 3) := by decide +kernel
theorem dX12_copy_189 : decode cX12_copy 189 = .ok (.goto (-32), 3) := by decide +kernel
theorem dX12_copy_192 : decode cX12_copy 192 = .ok (.iconst 1, 1) := by decide +kernel
theorem dX12_copy_193 : decode cX12_copy 193 = .ok (.ireturn, 1) := by decide +kernel
theorem dX12_type_0 : decode cX12_type 0 = .ok (.iload_n 1, 1) := by decide +kernel
theorem dX12_type_1 : decode cX12_type 1 = .ok (.invokestatic 87, 3) := by decide +kernel
theorem dX12_type_4 : decode cX12_type 4 = .ok (.ifCond .eq 15, 3) := by decide +kernel
theorem dX12_type_7 : decode cX12_type 7 = .ok (.iload_n 2, 1) := by decide +kernel
theorem dX12_type_8 : decode cX12_type 8 = .ok (.i2l, 1) := by decide +kernel
theorem dX12_type_9 : decode cX12_type 9 = .ok (.lconst 0, 1) := by decide +kernel
theorem dX12_type_10 : decode cX12_type 10 = .ok (.ldc2_w 90, 3) := by decide +kernel
theorem dX12_type_13 : decode cX12_type 13 = .ok (.invokestatic 58, 3) := by decide +kernel
theorem dX12_type_16 : decode cX12_type 16 = .ok (.ifCond .ne 6, 3) := by decide +kernel
theorem dX12_type_19 : decode cX12_type 19 = .ok (.bipush (-2), 2) := by decide +kernel
theorem dX12_type_21 : decode cX12_type 21 = .ok (.ireturn, 1) := by decide +kernel
theorem dX12_type_22 : decode cX12_type 22 = .ok (.aload_n 0, 1) := by decide +kernel
theorem dX12_type_23 : decode cX12_type 23 = .ok (.getfield 25, 3) := by decide +kernel
theorem dX12_type_26 : decode cX12_type 26 = .ok (.iload_n 1, 1) := by decide +kernel
theorem dX12_type_27 : decode cX12_type 27 = .ok (.iaload, 1) := by decide +kernel
theorem dX12_type_28 : decode cX12_type 28 = .ok (.iload_n 1, 1) := by decide +kernel
theorem dX12_type_29 : decode cX12_type 29 = .ok (.ifCond .ne 8, 3) := by decide +kernel
theorem dX12_type_32 : decode cX12_type 32 = .ok (.bipush 32, 2) := by decide +kernel
theorem dX12_type_34 : decode cX12_type 34 = .ok (.goto 5, 3) := by decide +kernel
theorem dX12_type_37 : decode cX12_type 37 = .ok (.bipush 23, 2) := by decide +kernel
theorem dX12_type_39 : decode cX12_type 39 = .ok (.if_icmp .ne 6, 3) := by decide +kernel
theorem dX12_type_42 : decode cX12_type 42 = .ok (.bipush (-4), 2) := by decide +kernel
theorem dX12_type_44 : decode cX12_type 44 = .ok (.ireturn, 1) := by decide +kernel
theorem dX12_type_45 : decode cX12_type 45 = .ok (.aload_n 0, 1) := by decide +kernel
theorem dX12_type_46 : decode cX12_type 46 = .ok (.getfield 22, 3) := by decide +kernel
theorem dX12_type_49 : decode cX12_type 49 = .ok (.bipush 40, 2) := by decide +kernel
theorem dX12_type_51 : decode cX12_type 51 = .ok (.iload_n 1, 1) := by decide +kernel
theorem dX12_type_52 : decode cX12_type 52 = .ok (.imul, 1) := by decide +kernel
theorem dX12_type_53 : decode cX12_type 53 = .ok (.aload_n 0, 1) := by decide +kernel
theorem dX12_type_54 : decode cX12_type 54 = .ok (.getfield 25, 3) := by decide +kernel
theorem dX12_type_57 : decode cX12_type 57 = .ok (.iload_n 1, 1) := by decide +kernel
theorem dX12_type_58 : decode cX12_type 58 = .ok (.iaload, 1) := by decide +kernel
theorem dX12_type_59 : decode cX12_type 59 = .ok (.iadd, 1) := by decide +kernel
theorem dX12_type_60 : decode cX12_type 60 = .ok (.iload_n 2, 1) := by decide +kernel
theorem dX12_type_61 : decode cX12_type 61 = .ok (.iastore, 1) := by decide +kernel
theorem dX12_type_62 : decode cX12_type 62 = .ok (.aload_n 0, 1) := by decide +kernel
theorem dX12_type_63 : decode cX12_type 63 = .ok (.getfield 25, 3) := by decide +kernel
theorem dX12_type_66 : decode cX12_type 66 = .ok (.iload_n 1, 1) := by decide +kernel
theorem dX12_type_67 : decode cX12_type 67 = .ok (.dup2, 1) := by decide +kernel
theorem dX12_type_68 : decode cX12_type 68 = .ok (.iaload, 1) := by decide +kernel
theorem dX12_type_69 : decode cX12_type 69 = .ok (.iconst 1, 1) := by decide +kernel
theorem dX12_type_70 : decode cX12_type 70 = .ok (.iadd, 1) := by decide +kernel
theorem dX12_type_71 : decode cX12_type 71 = .ok (.iastore, 1) := by decide +kernel
theorem dX12_type_72 : decode cX12_type 72 = .ok (.aload_n 0, 1) := by decide +kernel
theorem dX12_type_73 : decode cX12_type 73 = .ok (.getfield 25, 3) := by decide +kernel
theorem dX12_type_76 : decode cX12_type 76 = .ok (.iload_n 1, 1) := by decide +kernel
theorem dX12_type_77 : decode cX12_type 77 = .ok (.iaload, 1) := by decide +kernel
theorem dX12_type_78 : decode cX12_type 78 = .ok (.ireturn, 1) := by decide +kernel
theorem dX12_wipe_0 : decode cX12_wipe 0 = .ok (.iload_n 1, 1) := by decide +kernel
theorem dX12_wipe_1 : decode cX12_wipe 1 = .ok (.invokestatic 87, 3) := by decide +kernel
theorem dX12_wipe_4 : decode cX12_wipe 4 = .ok (.ifCond .ne 6, 3) := by decide +kernel
theorem dX12_wipe_7 : decode cX12_wipe 7 = .ok (.bipush (-2), 2) := by decide +kernel
theorem dX12_wipe_9 : decode cX12_wipe 9 = .ok (.ireturn, 1) := by decide +kernel
theorem dX12_wipe_10 : decode cX12_wipe 10 = .ok (.aload_n 0, 1) := by decide +kernel
theorem dX12_wipe_11 : decode cX12_wipe 11 = .ok (.getfield 25, 3) := by decide +kernel
theorem dX12_wipe_14 : decode cX12_wipe 14 = .ok (.iload_n 1, 1) := by decide +kernel
theorem dX12_wipe_15 : decode cX12_wipe 15 = .ok (.iaload, 1) := by decide +kernel
theorem dX12_wipe_16 : decode cX12_wipe 16 = .ok (.istore_n 2, 1) := by decide +kernel
theorem dX12_wipe_17 : decode cX12_wipe 17 = .ok (.aload_n 0, 1) := by decide +kernel
theorem dX12_wipe_18 : decode cX12_wipe 18 = .ok (.getfield 25, 3) := by decide +kernel
theorem dX12_wipe_21 : decode cX12_wipe 21 = .ok (.iload_n 1, 1) := by decide +kernel
theorem dX12_wipe_22 : decode cX12_wipe 22 = .ok (.iconst 0, 1) := by decide +kernel
theorem dX12_wipe_23 : decode cX12_wipe 23 = .ok (.iastore, 1) := by decide +kernel
theorem dX12_wipe_24 : decode cX12_wipe 24 = .ok (.iload_n 2, 1) := by decide +kernel
theorem dX12_wipe_25 : decode cX12_wipe 25 = .ok (.ireturn, 1) := by decide +kernel
theorem dX12_undo_0 : decode cX12_undo 0 = .ok (.iload_n 1, 1) := by decide +kernel
theorem dX12_undo_1 : decode cX12_undo 1 = .ok (.invokestatic 87, 3) := by decide +kernel
theorem dX12_undo_4 : decode cX12_undo 4 = .ok (.ifCond .ne 6, 3) := by decide +kernel
theorem dX12_undo_7 : decode cX12_undo 7 = .ok (.bipush (-2), 2) := by decide +kernel
theorem dX12_undo_9 : decode cX12_undo 9 = .ok (.ireturn, 1) := by decide +kernel
theorem dX12_undo_10 : decode cX12_undo 10 = .ok (.aload_n 0, 1) := by decide +kernel
theorem dX12_undo_11 : decode cX12_undo 11 = .ok (.getfield 25, 3) := by decide +kernel
theorem dX12_undo_14 : decode cX12_undo 14 = .ok (.iload_n 1, 1) := by decide +kernel
theorem dX12_undo_15 : decode cX12_undo 15 = .ok (.iaload, 1) := by decide +kernel
theorem dX12_undo_16 : decode cX12_undo 16 = .ok (.ifCond .ne 6, 3) := by decide +kernel
theorem dX12_undo_19 : decode cX12_undo 19 = .ok (.bipush (-3), 2) := by decide +kernel
theorem dX12_undo_21 : decode cX12_undo 21 = .ok (.ireturn, 1) := by decide +kernel
theorem dX12_undo_22 : decode cX12_undo 22 = .ok (.aload_n 0, 1) := by decide +kernel
theorem dX12_undo_23 : decode cX12_undo 23 = .ok (.getfield 25, 3) := by decide +kernel
theorem dX12_undo_26 : decode cX12_undo 26 = .ok (.iload_n 1, 1) := by decide +kernel
theorem dX12_undo_27 : decode cX12_undo 27 = .ok (.dup2, 1) := by decide +kernel
theorem dX12_undo_28 : decode cX12_undo 28 = .ok (.iaload, 1) := by decide +kernel
theorem dX12_undo_29 : decode cX12_undo 29 = .ok (.iconst 1, 1) := by decide +kernel
theorem dX12_undo_30 : decode cX12_undo 30 = .ok (.isub, 1) := by decide +kernel
theorem dX12_undo_31 : decode cX12_undo 31 = .ok (.iastore, 1) := by decide +kernel
theorem dX12_undo_32 : decode cX12_undo 32 = .ok (.aload_n 0, 1) := by decide +kernel
theorem dX12_undo_33 : decode cX12_undo 33 = .ok (.getfield 25, 3) := by decide +kernel
theorem dX12_undo_36 : decode cX12_undo 36 = .ok (.iload_n 1, 1) := by decide +kernel
theorem dX12_undo_37 : decode cX12_undo 37 = .ok (.iaload, 1) := by decide +kernel
theorem dX12_undo_38 : decode cX12_undo 38 = .ok (.ireturn, 1) := by decide +kernel
theorem dX12_here_0 : decode cX12_here 0 = .ok (.aload_n 0, 1) := by decide +kernel
theorem dX12_here_1 : decode cX12_here 1 = .ok (.getfield 92, 3) := by decide +kernel
theorem dX12_here_4 : decode cX12_here 4 = .ok (.aload_n 0, 1) := by decide +kernel
theorem dX12_here_5 : decode cX12_here 5 = .ok (.getfield 25, 3) := by decide +kernel
theorem dX12_here_8 : decode cX12_here 8 = .ok (.iload_n 1, 1) := by decide +kernel
theorem dX12_here_9 : decode cX12_here 9 = .ok (.iaload, 1) := by decide +kernel
theorem dX12_here_10 : decode cX12_here 10 = .ok (.if_icmp .ge 20, 3) := by decide +kernel
theorem dX12_here_13 : decode cX12_here 13 = .ok (.aload_n 0, 1) := by decide +kernel
theorem dX12_here_14 : decode cX12_here 14 = .ok (.getfield 22, 3) := by decide +kernel
theorem dX12_here_17 : decode cX12_here 17 = .ok (.bipush 40, 2) := by decide +kernel
theorem dX12_here_19 : decode cX12_here 19 = .ok (.iload_n 1, 1) := by decide +kernel
theorem dX12_here_20 : decode cX12_here 20 = .ok (.imul, 1) := by decide +kernel
theorem dX12_here_21 : decode cX12_here 21 = .ok (.aload_n 0, 1) := by decide +kernel
theorem dX12_here_22 : decode cX12_here 22 = .ok (.getfield 92, 3) := by decide +kernel
theorem dX12_here_25 : decode cX12_here 25 = .ok (.iadd, 1) := by decide +kernel
theorem dX12_here_26 : decode cX12_here 26 = .ok (.iaload, 1) := by decide +kernel
theorem dX12_here_27 : decode cX12_here 27 = .ok (.goto 4, 3) := by decide +kernel
theorem dX12_here_30 : decode cX12_here 30 = .ok (.iconst (-1), 1) := by decide +kernel
theorem dX12_here_31 : decode cX12_here 31 = .ok (.ireturn, 1) := by decide +kernel
theorem dX12_kindOf_0 : decode cX12_kindOf 0 = .ok (.iload_n 0, 1) := by decide +kernel
theorem dX12_kindOf_1 : decode cX12_kindOf 1 = .ok (.bipush 46, 2) := by decide +kernel
theorem dX12_kindOf_3 : decode cX12_kindOf 3 = .ok (.if_icmp .ne 7, 3) := by decide +kernel
theorem dX12_kindOf_6 : decode cX12_kindOf 6 = .ok (.iconst 0, 1) := by decide +kernel
theorem dX12_kindOf_7 : decode cX12_kindOf 7 = .ok (.goto 34, 3) := by decide +kernel
theorem dX12_kindOf_10 : decode cX12_kindOf 10 = .ok (.iload_n 0, 1) := by decide +kernel
theorem dX12_kindOf_11 : decode cX12_kindOf 11 = .ok (.bipush 115, 2) := by decide +kernel
theorem dX12_kindOf_13 : decode cX12_kindOf 13 = .ok (.if_icmp .ne 7, 3) := by decide +kernel
theorem dX12_kindOf_16 : decode cX12_kindOf 16 = .ok (.iconst 1, 1) := by decide +kernel
theorem dX12_kindOf_17 : decode cX12_kindOf 17 = .ok (.goto 24, 3) := by decide +kernel
theorem dX12_kindOf_20 : decode cX12_kindOf 20 = .ok (.iload_n 0, 1) := by decide +kernel
theorem dX12_kindOf_21 : decode cX12_kindOf 21 = .ok (.bipush 110, 2) := by decide +kernel
theorem dX12_kindOf_23 : decode cX12_kindOf 23 = .ok (.if_icmp .ne 7, 3) := by decide +kernel
theorem dX12_kindOf_26 : decode cX12_kindOf 26 = .ok (.iconst 2, 1) := by decide +kernel
theorem dX12_kindOf_27 : decode cX12_kindOf 27 = .ok (.goto 14, 3) := by decide +kernel
theorem dX12_kindOf_30 : decode cX12_kindOf 30 = .ok (.iload_n 0, 1) := by decide +kernel
theorem dX12_kindOf_31 : decode cX12_kindOf 31 = .ok (.bipush 108, 2) := by decide +kernel
theorem dX12_kindOf_33 : decode cX12_kindOf 33 = .ok (.if_icmp .ne 7, 3) := by decide +kernel
theorem dX12_kindOf_36 : decode cX12_kindOf 36 = .ok (.iconst 3, 1) := by decide +kernel
theorem dX12_kindOf_37 : decode cX12_kindOf 37 = .ok (.goto 4, 3) := by decide +kernel
theorem dX12_kindOf_40 : decode cX12_kindOf 40 = .ok (.iconst (-1), 1) := by decide +kernel
theorem dX12_kindOf_41 : decode cX12_kindOf 41 = .ok (.ireturn, 1) := by decide +kernel
theorem dX12_readsGully_0 : decode cX12_readsGully 0 = .ok (.aload_n 0, 1) := by decide +kernel
theorem dX12_readsGully_1 : decode cX12_readsGully 1 = .ok (.iconst 0, 1) := by decide +kernel
theorem dX12_readsGully_2 : decode cX12_readsGully 2 = .ok (.putfield 95, 3) := by decide +kernel
theorem dX12_readsGully_5 : decode cX12_readsGully 5 = .ok (.aload_n 0, 1) := by decide +kernel
theorem dX12_readsGully_6 : decode cX12_readsGully 6 = .ok (.iconst 0, 1) := by decide +kernel
theorem dX12_readsGully_7 : decode cX12_readsGully 7 = .ok (.putfield 92, 3) := by decide +kernel
theorem dX12_readsGully_10 : decode cX12_readsGully 10 = .ok (.aload_n 0, 1) := by decide +kernel
theorem dX12_readsGully_11 : decode cX12_readsGully 11 = .ok (.getfield 92, 3) := by decide +kernel
theorem dX12_readsGully_14 : decode cX12_readsGully 14 = .ok (.aload_n 0, 1) := by decide +kernel
theorem dX12_readsGully_15 : decode cX12_readsGully 15 = .ok (.getfield 25, 3) := by decide +kernel
theorem dX12_readsGully_18 : decode cX12_readsGully 18 = .ok (.iconst 0, 1) := by decide +kernel
theorem dX12_readsGully_19 : decode cX12_readsGully 19 = .ok (.iaload, 1) := by decide +kernel
theorem dX12_readsGully_20 : decode cX12_readsGully 20 = .ok (.if_icmp .ge 129, 3) := by decide +kernel
theorem dX12_readsGully_23 : decode cX12_readsGully 23 = .ok (.aload_n 0, 1) := by decide +kernel
theorem dX12_readsGully_24 : decode cX12_readsGully 24 = .ok (.iconst 0, 1) := by decide +kernel
theorem dX12_readsGully_25 : decode cX12_readsGully 25 = .ok (.invokevirtual 98, 3) := by decide +kernel
theorem dX12_readsGully_28 : decode cX12_readsGully 28 = .ok (.invokestatic 101, 3) := by decide +kernel
theorem dX12_readsGully_31 : decode cX12_readsGully 31 = .ok (.istore_n 1, 1) := by decide +kernel
theorem dX12_readsGully_32 : decode cX12_readsGully 32 = .ok (.aload_n 0, 1) := by decide +kernel
theorem dX12_readsGully_33 : decode cX12_readsGully 33 = .ok (.getfield 95, 3) := by decide +kernel
theorem dX12_readsGully_36 : decode cX12_readsGully 36 = .ok (.bipush 16, 2) := by decide +kernel
theorem dX12_readsGully_38 : decode cX12_readsGully 38 = .ok (.if_icmp .ge 12, 3) := by decide +kernel
theorem dX12_readsGully_41 : decode cX12_readsGully 41 = .ok (.iload_n 1, 1) := by decide +kernel
theorem dX12_readsGully_42 : decode cX12_readsGully 42 = .ok (.iconst (-1), 1) := by decide +kernel
theorem dX12_readsGully_43 : decode cX12_readsGully 43 = .ok (.if_icmp .eq 7, 3) := by decide +kernel
theorem dX12_readsGully_46 : decode cX12_readsGully 46 = .ok (.iconst 1, 1) := by decide +kernel
theorem dX12_readsGully_47 : decode cX12_readsGully 47 = .ok (.goto 4, 3) := by decide +kernel
theorem dX12_readsGully_50 : decode cX12_readsGully 50 = .ok (.iconst 0, 1) := by decide +kernel
theorem dX12_readsGully_51 : decode cX12_readsGully 51 = .ok (.istore_n 2, 1) := by decide +kernel
theorem dX12_readsGully_52 : decode cX12_readsGully 52 = .ok (.iconst 0, 1) := by decide +kernel
theorem dX12_readsGully_53 : decode cX12_readsGully 53 = .ok (.istore_n 3, 1) := by decide +kernel
theorem dX12_readsGully_54 : decode cX12_readsGully 54 = .ok (.iload_n 2, 1) := by decide +kernel
theorem dX12_readsGully_55 : decode cX12_readsGully 55 = .ok (.ifCond .eq 37, 3) := by decide +kernel
theorem dX12_readsGully_58 : decode cX12_readsGully 58 = .ok (.iload_n 1, 1) := by decide +kernel
theorem dX12_readsGully_59 : decode cX12_readsGully 59 = .ok (.iconst 3, 1) := by decide +kernel
theorem dX12_readsGully_60 : decode cX12_readsGully 60 = .ok (.if_icmp .ne 32, 3) := by decide +kernel
theorem dX12_readsGully_63 : decode cX12_readsGully 63 = .ok (.aload_n 0, 1) := by decide +kernel
theorem dX12_readsGully_64 : decode cX12_readsGully 64 = .ok (.dup, 1) := by decide +kernel
theorem dX12_readsGully_65 : decode cX12_readsGully 65 = .ok (.getfield 92, 3) := by decide +kernel
theorem dX12_readsGully_68 : decode cX12_readsGully 68 = .ok (.iconst 1, 1) := by decide +kernel
theorem dX12_readsGully_69 : decode cX12_readsGully 69 = .ok (.iadd, 1) := by decide +kernel
theorem dX12_readsGully_70 : decode cX12_readsGully 70 = .ok (.putfield 92, 3) := by decide +kernel
theorem dX12_readsGully_73 : decode cX12_readsGully 73 = .ok (.aload_n 0, 1) := by decide +kernel
theorem dX12_readsGully_74 : decode cX12_readsGully 74 = .ok (.iconst 0, 1) := by decide +kernel
theorem dX12_readsGully_75 : decode cX12_readsGully 75 = .ok (.invokevirtual 98, 3) := by decide +kernel
theorem dX12_readsGully_78 : decode cX12_readsGully 78 = .ok (.bipush 48, 2) := by decide +kernel
theorem dX12_readsGully_80 : decode cX12_readsGully 80 = .ok (.isub, 1) := by decide +kernel
theorem dX12_readsGully_81 : decode cX12_readsGully 81 = .ok (.istore_n 3, 1) := by decide +kernel
theorem dX12_readsGully_82 : decode cX12_readsGully 82 = .ok (.iload_n 3, 1) := by decide +kernel
theorem dX12_readsGully_83 : decode cX12_readsGully 83 = .ok (.i2l, 1) := by decide +kernel
theorem dX12_readsGully_84 : decode cX12_readsGully 84 = .ok (.lconst 1, 1) := by decide +kernel
theorem dX12_readsGully_85 : decode cX12_readsGully 85 = .ok (.ldc2_w 104, 3) := by decide +kernel
theorem dX12_readsGully_88 : decode cX12_readsGully 88 = .ok (.invokestatic 58, 3) := by decide +kernel
theorem dX12_readsGully_91 : decode cX12_readsGully 91 = .ok (.istore_n 2, 1) := by decide +kernel
theorem dX12_readsGully_92 : decode cX12_readsGully 92 = .ok (.iload_n 2, 1) := by decide +kernel
theorem dX12_readsGully_93 : decode cX12_readsGully 93 = .ok (.ifCond .ne 13, 3) := by decide +kernel
theorem dX12_readsGully_96 : decode cX12_readsGully 96 = .ok (.aload_n 0, 1) := by decide +kernel
theorem dX12_readsGully_97 : decode cX12_readsGully 97 = .ok (.iconst 0, 1) := by decide +kernel
theorem dX12_readsGully_98 : decode cX12_readsGully 98 = .ok (.putfield 95, 3) := by decide +kernel
theorem dX12_readsGully_101 : decode cX12_readsGully 101 = .ok (.aload_n 0, 1) := by decide +kernel
theorem dX12_readsGully_102 : decode cX12_readsGully 102 = .ok (.getfield 92, 3) := by decide +kernel
theorem dX12_readsGully_105 : decode cX12_readsGully 105 = .ok (.ireturn, 1) := by decide +kernel
theorem dX12_readsGully_106 : decode cX12_readsGully 106 = .ok (.aload_n 0, 1) := by decide +kernel
theorem dX12_readsGully_107 : decode cX12_readsGully 107 = .ok (.getfield 28, 3) := by decide +kernel
theorem dX12_readsGully_110 : decode cX12_readsGully 110 = .ok (.aload_n 0, 1) := by decide +kernel
theorem dX12_readsGully_111 : decode cX12_readsGully 111 = .ok (.getfield 95, 3) := by decide +kernel
theorem dX12_readsGully_114 : decode cX12_readsGully 114 = .ok (.iload_n 1, 1) := by decide +kernel
theorem dX12_readsGully_115 : decode cX12_readsGully 115 = .ok (.iastore, 1) := by decide +kernel
theorem dX12_readsGully_116 : decode cX12_readsGully 116 = .ok (.aload_n 0, 1) := by decide +kernel
theorem dX12_readsGully_117 : decode cX12_readsGully 117 = .ok (.getfield 31, 3) := by decide +kernel
theorem dX12_readsGully_120 : decode cX12_readsGully 120 = .ok (.aload_n 0, 1) := by decide +kernel
theorem dX12_readsGully_121 : decode cX12_readsGully 121 = .ok (.getfield 95, 3) := by decide +kernel
theorem dX12_readsGully_124 : decode cX12_readsGully 124 = .ok (.iload_n 3, 1) := by decide +kernel
theorem dX12_readsGully_125 : decode cX12_readsGully 125 = .ok (.iastore, 1) := by decide +kernel
theorem dX12_readsGully_126 : decode cX12_readsGully 126 = .ok (.aload_n 0, 1) := by decide +kernel
theorem dX12_readsGully_127 : decode cX12_readsGully 127 = .ok (.dup, 1) := by decide +kernel
theorem dX12_readsGully_128 : decode cX12_readsGully 128 = .ok (.getfield 95, 3) := by decide +kernel
theorem dX12_readsGully_131 : decode cX12_readsGully 131 = .ok (.iconst 1, 1) := by decide +kernel
theorem dX12_readsGully_132 : decode cX12_readsGully 132 = .ok (.iadd, 1) := by decide +kernel
theorem dX12_readsGully_133 : decode cX12_readsGully 133 = .ok (.putfield 95, 3) := by decide +kernel
theorem dX12_readsGully_136 : decode cX12_readsGully 136 = .ok (.aload_n 0, 1) := by decide +kernel
theorem dX12_readsGully_137 : decode cX12_readsGully 137 = .ok (.dup, 1) := by decide +kernel
theorem dX12_readsGully_138 : decode cX12_readsGully 138 = .ok (.getfield 92, 3) := by decide +kernel
theorem dX12_readsGully_141 : decode cX12_readsGully 141 = .ok (.iconst 1, 1) := by decide +kernel
theorem dX12_readsGully_142 : decode cX12_readsGully 142 = .ok (.iadd, 1) := by decide +kernel
theorem dX12_readsGully_143 : decode cX12_readsGully 143 = .ok (.putfield 92, 3) := by decide +kernel
theorem dX12_readsGully_146 : decode cX12_readsGully 146 = .ok (.goto (-136), 3) := by decide +kernel
theorem dX12_readsGully_149 : decode cX12_readsGully 149 = .ok (.iconst (-1), 1) := by decide +kernel
theorem dX12_readsGully_150 : decode cX12_readsGully 150 = .ok (.ireturn, 1) := by decide +kernel
theorem dX12_readsWalker_0 : decode cX12_readsWalker 0 = .ok (.aload_n 0, 1) := by decide +kernel
theorem dX12_readsWalker_1 : decode cX12_readsWalker 1 = .ok (.iconst 1, 1) := by decide +kernel
theorem dX12_readsWalker_2 : decode cX12_readsWalker 2 = .ok (.invokevirtual 98, 3) := by decide +kernel
theorem dX12_readsWalker_5 : decode cX12_readsWalker 5 = .ok (.bipush 48, 2) := by decide +kernel
theorem dX12_readsWalker_7 : decode cX12_readsWalker 7 = .ok (.isub, 1) := by decide +kernel
theorem dX12_readsWalker_8 : decode cX12_readsWalker 8 = .ok (.istore_n 1, 1) := by decide +kernel
theorem dX12_readsWalker_9 : decode cX12_readsWalker 9 = .ok (.aload_n 0, 1) := by decide +kernel
theorem dX12_readsWalker_10 : decode cX12_readsWalker 10 = .ok (.getfield 106, 3) := by decide +kernel
theorem dX12_readsWalker_13 : decode cX12_readsWalker 13 = .ok (.bipush 6, 2) := by decide +kernel
theorem dX12_readsWalker_15 : decode cX12_readsWalker 15 = .ok (.if_icmp .eq 15, 3) := by decide +kernel
theorem dX12_readsWalker_18 : decode cX12_readsWalker 18 = .ok (.iload_n 1, 1) := by decide +kernel
theorem dX12_readsWalker_19 : decode cX12_readsWalker 19 = .ok (.i2l, 1) := by decide +kernel
theorem dX12_readsWalker_20 : decode cX12_readsWalker 20 = .ok (.lconst 1, 1) := by decide +kernel
theorem dX12_readsWalker_21 : decode cX12_readsWalker 21 = .ok (.ldc2_w 104, 3) := by decide +kernel
theorem dX12_readsWalker_24 : decode cX12_readsWalker 24 = .ok (.invokestatic 58, 3) := by decide +kernel
theorem dX12_readsWalker_27 : decode cX12_readsWalker 27 = .ok (.ifCond .ne 5, 3) := by decide +kernel
theorem dX12_readsWalker_30 : decode cX12_readsWalker 30 = .ok (.iconst 0, 1) := by decide +kernel
theorem dX12_readsWalker_31 : decode cX12_readsWalker 31 = .ok (.ireturn, 1) := by decide +kernel
theorem dX12_readsWalker_32 : decode cX12_readsWalker 32 = .ok (.aload_n 0, 1) := by decide +kernel
theorem dX12_readsWalker_33 : decode cX12_readsWalker 33 = .ok (.dup, 1) := by decide +kernel
theorem dX12_readsWalker_34 : decode cX12_readsWalker 34 = .ok (.getfield 92, 3) := by decide +kernel
theorem dX12_readsWalker_37 : decode cX12_readsWalker 37 = .ok (.iconst 1, 1) := by decide +kernel
theorem dX12_readsWalker_38 : decode cX12_readsWalker 38 = .ok (.iadd, 1) := by decide +kernel
theorem dX12_readsWalker_39 : decode cX12_readsWalker 39 = .ok (.putfield 92, 3) := by decide +kernel
theorem dX12_readsWalker_42 : decode cX12_readsWalker 42 = .ok (.aload_n 0, 1) := by decide +kernel
theorem dX12_readsWalker_43 : decode cX12_readsWalker 43 = .ok (.iconst 1, 1) := by decide +kernel
theorem dX12_readsWalker_44 : decode cX12_readsWalker 44 = .ok (.invokevirtual 98, 3) := by decide +kernel
theorem dX12_readsWalker_47 : decode cX12_readsWalker 47 = .ok (.bipush 48, 2) := by decide +kernel
theorem dX12_readsWalker_49 : decode cX12_readsWalker 49 = .ok (.isub, 1) := by decide +kernel
theorem dX12_readsWalker_50 : decode cX12_readsWalker 50 = .ok (.istore_n 2, 1) := by decide +kernel
theorem dX12_readsWalker_51 : decode cX12_readsWalker 51 = .ok (.iload_n 2, 1) := by decide +kernel
theorem dX12_readsWalker_52 : decode cX12_readsWalker 52 = .ok (.i2l, 1) := by decide +kernel
theorem dX12_readsWalker_53 : decode cX12_readsWalker 53 = .ok (.lconst 0, 1) := by decide +kernel
theorem dX12_readsWalker_54 : decode cX12_readsWalker 54 = .ok (.ldc2_w 104, 3) := by decide +kernel
theorem dX12_readsWalker_57 : decode cX12_readsWalker 57 = .ok (.invokestatic 58, 3) := by decide +kernel
theorem dX12_readsWalker_60 : decode cX12_readsWalker 60 = .ok (.ifCond .ne 5, 3) := by decide +kernel
theorem dX12_readsWalker_63 : decode cX12_readsWalker 63 = .ok (.iconst 0, 1) := by decide +kernel
theorem dX12_readsWalker_64 : decode cX12_readsWalker 64 = .ok (.ireturn, 1) := by decide +kernel
theorem dX12_readsWalker_65 : decode cX12_readsWalker 65 = .ok (.aload_n 0, 1) := by decide +kernel
theorem dX12_readsWalker_66 : decode cX12_readsWalker 66 = .ok (.dup, 1) := by decide +kernel
theorem dX12_readsWalker_67 : decode cX12_readsWalker 67 = .ok (.getfield 92, 3) := by decide +kernel
theorem dX12_readsWalker_70 : decode cX12_readsWalker 70 = .ok (.iconst 1, 1) := by decide +kernel
theorem dX12_readsWalker_71 : decode cX12_readsWalker 71 = .ok (.iadd, 1) := by decide +kernel
theorem dX12_readsWalker_72 : decode cX12_readsWalker 72 = .ok (.putfield 92, 3) := by decide +kernel
theorem dX12_readsWalker_75 : decode cX12_readsWalker 75 = .ok (.aload_n 0, 1) := by decide +kernel
theorem dX12_readsWalker_76 : decode cX12_readsWalker 76 = .ok (.iconst 1, 1) := by decide +kernel
theorem dX12_readsWalker_77 : decode cX12_readsWalker 77 = .ok (.invokevirtual 98, 3) := by decide +kernel
theorem dX12_readsWalker_80 : decode cX12_readsWalker 80 = .ok (.bipush 104, 2) := by decide +kernel
theorem dX12_readsWalker_82 : decode cX12_readsWalker 82 = .ok (.if_icmp .eq 15, 3) := by decide +kernel
theorem dX12_readsWalker_85 : decode cX12_readsWalker 85 = .ok (.aload_n 0, 1) := by decide +kernel
theorem dX12_readsWalker_86 : decode cX12_readsWalker 86 = .ok (.iconst 1, 1) := by decide +kernel
theorem dX12_readsWalker_87 : decode cX12_readsWalker 87 = .ok (.invokevirtual 98, 3) := by decide +kernel
theorem dX12_readsWalker_90 : decode cX12_readsWalker 90 = .ok (.bipush 46, 2) := by decide +kernel
theorem dX12_readsWalker_92 : decode cX12_readsWalker 92 = .ok (.if_icmp .eq 5, 3) := by decide +kernel
theorem dX12_readsWalker_95 : decode cX12_readsWalker 95 = .ok (.iconst 0, 1) := by decide +kernel
theorem dX12_readsWalker_96 : decode cX12_readsWalker 96 = .ok (.ireturn, 1) := by decide +kernel
theorem dX12_readsWalker_97 : decode cX12_readsWalker 97 = .ok (.aload_n 0, 1) := by decide +kernel
theorem dX12_readsWalker_98 : decode cX12_readsWalker 98 = .ok (.getfield 34, 3) := by decide +kernel
theorem dX12_readsWalker_101 : decode cX12_readsWalker 101 = .ok (.aload_n 0, 1) := by decide +kernel
theorem dX12_readsWalker_102 : decode cX12_readsWalker 102 = .ok (.getfield 106, 3) := by decide +kernel
theorem dX12_readsWalker_105 : decode cX12_readsWalker 105 = .ok (.iload_n 1, 1) := by decide +kernel
theorem dX12_readsWalker_106 : decode cX12_readsWalker 106 = .ok (.iastore, 1) := by decide +kernel
theorem dX12_readsWalker_107 : decode cX12_readsWalker 107 = .ok (.aload_n 0, 1) := by decide +kernel
theorem dX12_readsWalker_108 : decode cX12_readsWalker 108 = .ok (.getfield 37, 3) := by decide +kernel
theorem dX12_readsWalker_111 : decode cX12_readsWalker 111 = .ok (.aload_n 0, 1) := by decide +kernel
theorem dX12_readsWalker_112 : decode cX12_readsWalker 112 = .ok (.getfield 106, 3) := by decide +kernel
theorem dX12_readsWalker_115 : decode cX12_readsWalker 115 = .ok (.iload_n 2, 1) := by decide +kernel
theorem dX12_readsWalker_116 : decode cX12_readsWalker 116 = .ok (.iastore, 1) := by decide +kernel
theorem dX12_readsWalker_117 : decode cX12_readsWalker 117 = .ok (.aload_n 0, 1) := by decide +kernel
theorem dX12_readsWalker_118 : decode cX12_readsWalker 118 = .ok (.getfield 40, 3) := by decide +kernel
theorem dX12_readsWalker_121 : decode cX12_readsWalker 121 = .ok (.aload_n 0, 1) := by decide +kernel
theorem dX12_readsWalker_122 : decode cX12_readsWalker 122 = .ok (.getfield 106, 3) := by decide +kernel
theorem dX12_readsWalker_125 : decode cX12_readsWalker 125 = .ok (.aload_n 0, 1) := by decide +kernel
theorem dX12_readsWalker_126 : decode cX12_readsWalker 126 = .ok (.iconst 1, 1) := by decide +kernel
theorem dX12_readsWalker_127 : decode cX12_readsWalker 127 = .ok (.invokevirtual 98, 3) := by decide +kernel
theorem dX12_readsWalker_130 : decode cX12_readsWalker 130 = .ok (.bipush 104, 2) := by decide +kernel
theorem dX12_readsWalker_132 : decode cX12_readsWalker 132 = .ok (.if_icmp .ne 7, 3) := by decide +kernel
theorem dX12_readsWalker_135 : decode cX12_readsWalker 135 = .ok (.iconst 1, 1) := by decide +kernel
theorem dX12_readsWalker_136 : decode cX12_readsWalker 136 = .ok (.goto 4, 3) := by decide +kernel
theorem dX12_readsWalker_139 : decode cX12_readsWalker 139 = .ok (.iconst 0, 1) := by decide +kernel
theorem dX12_readsWalker_140 : decode cX12_readsWalker 140 = .ok (.bastore, 1) := by decide +kernel
theorem dX12_readsWalker_141 : decode cX12_readsWalker 141 = .ok (.aload_n 0, 1) := by decide +kernel
theorem dX12_readsWalker_142 : decode cX12_readsWalker 142 = .ok (.dup, 1) := by decide +kernel
theorem dX12_readsWalker_143 : decode cX12_readsWalker 143 = .ok (.getfield 92, 3) := by decide +kernel
theorem dX12_readsWalker_146 : decode cX12_readsWalker 146 = .ok (.iconst 1, 1) := by decide +kernel
theorem dX12_readsWalker_147 : decode cX12_readsWalker 147 = .ok (.iadd, 1) := by decide +kernel
theorem dX12_readsWalker_148 : decode cX12_readsWalker 148 = .ok (.putfield 92, 3) := by decide +kernel
theorem dX12_readsWalker_151 : decode cX12_readsWalker 151 = .ok (.aload_n 0, 1) := by decide +kernel
theorem dX12_readsWalker_152 : decode cX12_readsWalker 152 = .ok (.dup, 1) := by decide +kernel
theorem dX12_readsWalker_153 : decode cX12_readsWalker 153 = .ok (.getfield 106, 3) := by decide +kernel
theorem dX12_readsWalker_156 : decode cX12_readsWalker 156 = .ok (.iconst 1, 1) := by decide +kernel
theorem dX12_readsWalker_157 : decode cX12_readsWalker 157 = .ok (.iadd, 1) := by decide +kernel
theorem dX12_readsWalker_158 : decode cX12_readsWalker 158 = .ok (.putfield 106, 3) := by decide +kernel
theorem dX12_readsWalker_161 : decode cX12_readsWalker 161 = .ok (.iconst 1, 1) := by decide +kernel
theorem dX12_readsWalker_162 : decode cX12_readsWalker 162 = .ok (.ireturn, 1) := by decide +kernel
theorem dX12_readsWalkers_0 : decode cX12_readsWalkers 0 = .ok (.aload_n 0, 1) := by decide +kernel
theorem dX12_readsWalkers_1 : decode cX12_readsWalkers 1 = .ok (.iconst 0, 1) := by decide +kernel
theorem dX12_readsWalkers_2 : decode cX12_readsWalkers 2 = .ok (.putfield 92, 3) := by decide +kernel
theorem dX12_readsWalkers_5 : decode cX12_readsWalkers 5 = .ok (.aload_n 0, 1) := by decide +kernel
theorem dX12_readsWalkers_6 : decode cX12_readsWalkers 6 = .ok (.iconst 0, 1) := by decide +kernel
theorem dX12_readsWalkers_7 : decode cX12_readsWalkers 7 = .ok (.putfield 106, 3) := by decide +kernel
theorem dX12_readsWalkers_10 : decode cX12_readsWalkers 10 = .ok (.aload_n 0, 1) := by decide +kernel
theorem dX12_readsWalkers_11 : decode cX12_readsWalkers 11 = .ok (.getfield 25, 3) := by decide +kernel
theorem dX12_readsWalkers_14 : decode cX12_readsWalkers 14 = .ok (.iconst 1, 1) := by decide +kernel
theorem dX12_readsWalkers_15 : decode cX12_readsWalkers 15 = .ok (.iaload, 1) := by decide +kernel
theorem dX12_readsWalkers_16 : decode cX12_readsWalkers 16 = .ok (.ifCond .le 7, 3) := by decide +kernel
theorem dX12_readsWalkers_19 : decode cX12_readsWalkers 19 = .ok (.iconst 1, 1) := by decide +kernel
theorem dX12_readsWalkers_20 : decode cX12_readsWalkers 20 = .ok (.goto 4, 3) := by decide +kernel
theorem dX12_readsWalkers_23 : decode cX12_readsWalkers 23 = .ok (.iconst 0, 1) := by decide +kernel
theorem dX12_readsWalkers_24 : decode cX12_readsWalkers 24 = .ok (.istore_n 1, 1) := by decide +kernel
theorem dX12_readsWalkers_25 : decode cX12_readsWalkers 25 = .ok (.iload_n 1, 1) := by decide +kernel
theorem dX12_readsWalkers_26 : decode cX12_readsWalkers 26 = .ok (.ifCond .eq 80, 3) := by decide +kernel
theorem dX12_readsWalkers_29 : decode cX12_readsWalkers 29 = .ok (.aload_n 0, 1) := by decide +kernel
theorem dX12_readsWalkers_30 : decode cX12_readsWalkers 30 = .ok (.invokevirtual 109, 3) := by decide +kernel
theorem dX12_readsWalkers_33 : decode cX12_readsWalkers 33 = .ok (.istore_n 2, 1) := by decide +kernel
theorem dX12_readsWalkers_34 : decode cX12_readsWalkers 34 = .ok (.iload_n 2, 1) := by decide +kernel
theorem dX12_readsWalkers_35 : decode cX12_readsWalkers 35 = .ok (.ifCond .eq 20, 3) := by decide +kernel
theorem dX12_readsWalkers_38 : decode cX12_readsWalkers 38 = .ok (.aload_n 0, 1) := by decide +kernel
theorem dX12_readsWalkers_39 : decode cX12_readsWalkers 39 = .ok (.getfield 92, 3) := by decide +kernel
theorem dX12_readsWalkers_42 : decode cX12_readsWalkers 42 = .ok (.aload_n 0, 1) := by decide +kernel
theorem dX12_readsWalkers_43 : decode cX12_readsWalkers 43 = .ok (.getfield 25, 3) := by decide +kernel
theorem dX12_readsWalkers_46 : decode cX12_readsWalkers 46 = .ok (.iconst 1, 1) := by decide +kernel
theorem dX12_readsWalkers_47 : decode cX12_readsWalkers 47 = .ok (.iaload, 1) := by decide +kernel
theorem dX12_readsWalkers_48 : decode cX12_readsWalkers 48 = .ok (.if_icmp .ge 7, 3) := by decide +kernel
theorem dX12_readsWalkers_51 : decode cX12_readsWalkers 51 = .ok (.iconst 1, 1) := by decide +kernel
theorem dX12_readsWalkers_52 : decode cX12_readsWalkers 52 = .ok (.goto 4, 3) := by decide +kernel
theorem dX12_readsWalkers_55 : decode cX12_readsWalkers 55 = .ok (.iconst 0, 1) := by decide +kernel
theorem dX12_readsWalkers_56 : decode cX12_readsWalkers 56 = .ok (.istore_n 1, 1) := by decide +kernel
theorem dX12_readsWalkers_57 : decode cX12_readsWalkers 57 = .ok (.iload_n 2, 1) := by decide +kernel
theorem dX12_readsWalkers_58 : decode cX12_readsWalkers 58 = .ok (.ifCond .eq 17, 3) := by decide +kernel
theorem dX12_readsWalkers_61 : decode cX12_readsWalkers 61 = .ok (.iload_n 1, 1) := by decide +kernel
theorem dX12_readsWalkers_62 : decode cX12_readsWalkers 62 = .ok (.ifCond .eq 23, 3) := by decide +kernel
theorem dX12_readsWalkers_65 : decode cX12_readsWalkers 65 = .ok (.aload_n 0, 1) := by decide +kernel
theorem dX12_readsWalkers_66 : decode cX12_readsWalkers 66 = .ok (.iconst 1, 1) := by decide +kernel
theorem dX12_readsWalkers_67 : decode cX12_readsWalkers 67 = .ok (.invokevirtual 98, 3) := by decide +kernel
theorem dX12_readsWalkers_70 : decode cX12_readsWalkers 70 = .ok (.bipush 59, 2) := by decide +kernel
theorem dX12_readsWalkers_72 : decode cX12_readsWalkers 72 = .ok (.if_icmp .eq 13, 3) := by decide +kernel
theorem dX12_readsWalkers_75 : decode cX12_readsWalkers 75 = .ok (.aload_n 0, 1) := by decide +kernel
theorem dX12_readsWalkers_76 : decode cX12_readsWalkers 76 = .ok (.iconst 0, 1) := by decide +kernel
theorem dX12_readsWalkers_77 : decode cX12_readsWalkers 77 = .ok (.putfield 106, 3) := by decide +kernel
theorem dX12_readsWalkers_80 : decode cX12_readsWalkers 80 = .ok (.aload_n 0, 1) := by decide +kernel
theorem dX12_readsWalkers_81 : decode cX12_readsWalkers 81 = .ok (.getfield 92, 3) := by decide +kernel
theorem dX12_readsWalkers_84 : decode cX12_readsWalkers 84 = .ok (.ireturn, 1) := by decide +kernel
theorem dX12_readsWalkers_85 : decode cX12_readsWalkers 85 = .ok (.aload_n 0, 1) := by decide +kernel
theorem dX12_readsWalkers_86 : decode cX12_readsWalkers 86 = .ok (.dup, 1) := by decide +kernel
theorem dX12_readsWalkers_87 : decode cX12_readsWalkers 87 = .ok (.getfield 92, 3) := by decide +kernel
theorem dX12_readsWalkers_90 : decode cX12_readsWalkers 90 = .ok (.iload_n 1, 1) := by decide +kernel
theorem dX12_readsWalkers_91 : decode cX12_readsWalkers 91 = .ok (.ifCond .eq 7, 3) := by decide +kernel
theorem dX12_readsWalkers_94 : decode cX12_readsWalkers 94 = .ok (.iconst 1, 1) := by decide +kernel
theorem dX12_readsWalkers_95 : decode cX12_readsWalkers 95 = .ok (.goto 4, 3) := by decide +kernel
theorem dX12_readsWalkers_98 : decode cX12_readsWalkers 98 = .ok (.iconst 0, 1) := by decide +kernel
theorem dX12_readsWalkers_99 : decode cX12_readsWalkers 99 = .ok (.iadd, 1) := by decide +kernel
theorem dX12_readsWalkers_100 : decode cX12_readsWalkers 100 = .ok (.putfield 92, 3) := by decide +kernel
theorem dX12_readsWalkers_103 : decode cX12_readsWalkers 103 = .ok (.goto (-78), 3) := by decide +kernel
theorem dX12_readsWalkers_106 : decode cX12_readsWalkers 106 = .ok (.iconst (-1), 1) := by decide +kernel
theorem dX12_readsWalkers_107 : decode cX12_readsWalkers 107 = .ok (.ireturn, 1) := by decide +kernel
theorem dX12_fault_0 : decode cX12_fault 0 = .ok (.iload_n 1, 1) := by decide +kernel
theorem dX12_fault_1 : decode cX12_fault 1 = .ok (.invokestatic 87, 3) := by decide +kernel
theorem dX12_fault_4 : decode cX12_fault 4 = .ok (.ifCond .ne 8, 3) := by decide +kernel
theorem dX12_fault_7 : decode cX12_fault 7 = .ok (.bipush (-2), 2) := by decide +kernel
theorem dX12_fault_9 : decode cX12_fault 9 = .ok (.goto 18, 3) := by decide +kernel
theorem dX12_fault_12 : decode cX12_fault 12 = .ok (.iload_n 1, 1) := by decide +kernel
theorem dX12_fault_13 : decode cX12_fault 13 = .ok (.ifCond .ne 10, 3) := by decide +kernel
theorem dX12_fault_16 : decode cX12_fault 16 = .ok (.aload_n 0, 1) := by decide +kernel
theorem dX12_fault_17 : decode cX12_fault 17 = .ok (.invokevirtual 113, 3) := by decide +kernel
theorem dX12_fault_20 : decode cX12_fault 20 = .ok (.goto 7, 3) := by decide +kernel
theorem dX12_fault_23 : decode cX12_fault 23 = .ok (.aload_n 0, 1) := by decide +kernel
theorem dX12_fault_24 : decode cX12_fault 24 = .ok (.invokevirtual 117, 3) := by decide +kernel
theorem dX12_fault_27 : decode cX12_fault 27 = .ok (.ireturn, 1) := by decide +kernel
theorem dX12_isPart_0 : decode cX12_isPart 0 = .ok (.iload_n 1, 1) := by decide +kernel
theorem dX12_isPart_1 : decode cX12_isPart 1 = .ok (.i2l, 1) := by decide +kernel
theorem dX12_isPart_2 : decode cX12_isPart 2 = .ok (.lconst 0, 1) := by decide +kernel
theorem dX12_isPart_3 : decode cX12_isPart 3 = .ok (.aload_n 0, 1) := by decide +kernel
theorem dX12_isPart_4 : decode cX12_isPart 4 = .ok (.getfield 95, 3) := by decide +kernel
theorem dX12_isPart_7 : decode cX12_isPart 7 = .ok (.iconst 1, 1) := by decide +kernel
theorem dX12_isPart_8 : decode cX12_isPart 8 = .ok (.isub, 1) := by decide +kernel
theorem dX12_isPart_9 : decode cX12_isPart 9 = .ok (.i2l, 1) := by decide +kernel
theorem dX12_isPart_10 : decode cX12_isPart 10 = .ok (.invokestatic 58, 3) := by decide +kernel
theorem dX12_isPart_13 : decode cX12_isPart 13 = .ok (.ireturn, 1) := by decide +kernel
theorem dX12_isWalker_0 : decode cX12_isWalker 0 = .ok (.iload_n 1, 1) := by decide +kernel
theorem dX12_isWalker_1 : decode cX12_isWalker 1 = .ok (.i2l, 1) := by decide +kernel
theorem dX12_isWalker_2 : decode cX12_isWalker 2 = .ok (.lconst 0, 1) := by decide +kernel
theorem dX12_isWalker_3 : decode cX12_isWalker 3 = .ok (.aload_n 0, 1) := by decide +kernel
theorem dX12_isWalker_4 : decode cX12_isWalker 4 = .ok (.getfield 106, 3) := by decide +kernel
theorem dX12_isWalker_7 : decode cX12_isWalker 7 = .ok (.iconst 1, 1) := by decide +kernel
theorem dX12_isWalker_8 : decode cX12_isWalker 8 = .ok (.isub, 1) := by decide +kernel
theorem dX12_isWalker_9 : decode cX12_isWalker 9 = .ok (.i2l, 1) := by decide +kernel
theorem dX12_isWalker_10 : decode cX12_isWalker 10 = .ok (.invokestatic 58, 3) := by decide +kernel
theorem dX12_isWalker_13 : decode cX12_isWalker 13 = .ok (.ireturn, 1) := by decide +kernel
theorem dX12_part__0 : decode cX12_part_ 0 = .ok (.aload_n 0, 1) := by decide +kernel
theorem dX12_part__1 : decode cX12_part_ 1 = .ok (.invokevirtual 120, 3) := by decide +kernel
theorem dX12_part__4 : decode cX12_part_ 4 = .ok (.aload_n 0, 1) := by decide +kernel
theorem dX12_part__5 : decode cX12_part_ 5 = .ok (.iload_n 1, 1) := by decide +kernel
theorem dX12_part__6 : decode cX12_part_ 6 = .ok (.invokevirtual 123, 3) := by decide +kernel
theorem dX12_part__9 : decode cX12_part_ 9 = .ok (.ifCond .eq 10, 3) := by decide +kernel
theorem dX12_part__12 : decode cX12_part_ 12 = .ok (.iload_n 2, 1) := by decide +kernel
theorem dX12_part__13 : decode cX12_part_ 13 = .ok (.invokestatic 87, 3) := by decide +kernel
theorem dX12_part__16 : decode cX12_part_ 16 = .ok (.ifCond .ne 8, 3) := by decide +kernel
theorem dX12_part__19 : decode cX12_part_ 19 = .ok (.bipush (-2), 2) := by decide +kernel
theorem dX12_part__21 : decode cX12_part_ 21 = .ok (.goto 22, 3) := by decide +kernel
theorem dX12_part__24 : decode cX12_part_ 24 = .ok (.iload_n 2, 1) := by decide +kernel
theorem dX12_part__25 : decode cX12_part_ 25 = .ok (.ifCond .ne 12, 3) := by decide +kernel
theorem dX12_part__28 : decode cX12_part_ 28 = .ok (.aload_n 0, 1) := by decide +kernel
theorem dX12_part__29 : decode cX12_part_ 29 = .ok (.getfield 28, 3) := by decide +kernel
theorem dX12_part__32 : decode cX12_part_ 32 = .ok (.iload_n 1, 1) := by decide +kernel
theorem dX12_part__33 : decode cX12_part_ 33 = .ok (.iaload, 1) := by decide +kernel
theorem dX12_part__34 : decode cX12_part_ 34 = .ok (.goto 9, 3) := by decide +kernel
theorem dX12_part__37 : decode cX12_part_ 37 = .ok (.aload_n 0, 1) := by decide +kernel
theorem dX12_part__38 : decode cX12_part_ 38 = .ok (.getfield 31, 3) := by decide +kernel
theorem dX12_part__41 : decode cX12_part_ 41 = .ok (.iload_n 1, 1) := by decide +kernel
theorem dX12_part__42 : decode cX12_part_ 42 = .ok (.iaload, 1) := by decide +kernel
theorem dX12_part__43 : decode cX12_part_ 43 = .ok (.ireturn, 1) := by decide +kernel
theorem dX12_walkerOf_0 : decode cX12_walkerOf 0 = .ok (.iload_n 2, 1) := by decide +kernel
theorem dX12_walkerOf_1 : decode cX12_walkerOf 1 = .ok (.ifCond .ne 12, 3) := by decide +kernel
theorem dX12_walkerOf_4 : decode cX12_walkerOf 4 = .ok (.aload_n 0, 1) := by decide +kernel
theorem dX12_walkerOf_5 : decode cX12_walkerOf 5 = .ok (.getfield 34, 3) := by decide +kernel
theorem dX12_walkerOf_8 : decode cX12_walkerOf 8 = .ok (.iload_n 1, 1) := by decide +kernel
theorem dX12_walkerOf_9 : decode cX12_walkerOf 9 = .ok (.iaload, 1) := by decide +kernel
theorem dX12_walkerOf_10 : decode cX12_walkerOf 10 = .ok (.goto 31, 3) := by decide +kernel
theorem dX12_walkerOf_13 : decode cX12_walkerOf 13 = .ok (.iload_n 2, 1) := by decide +kernel
theorem dX12_walkerOf_14 : decode cX12_walkerOf 14 = .ok (.iconst 1, 1) := by decide +kernel
theorem dX12_walkerOf_15 : decode cX12_walkerOf 15 = .ok (.if_icmp .ne 12, 3) := by decide +kernel
theorem dX12_walkerOf_18 : decode cX12_walkerOf 18 = .ok (.aload_n 0, 1) := by decide +kernel
theorem dX12_walkerOf_19 : decode cX12_walkerOf 19 = .ok (.getfield 37, 3) := by decide +kernel
theorem dX12_walkerOf_22 : decode cX12_walkerOf 22 = .ok (.iload_n 1, 1) := by decide +kernel
theorem dX12_walkerOf_23 : decode cX12_walkerOf 23 = .ok (.iaload, 1) := by decide +kernel
theorem dX12_walkerOf_24 : decode cX12_walkerOf 24 = .ok (.goto 17, 3) := by decide +kernel
theorem dX12_walkerOf_27 : decode cX12_walkerOf 27 = .ok (.aload_n 0, 1) := by decide +kernel
theorem dX12_walkerOf_28 : decode cX12_walkerOf 28 = .ok (.getfield 40, 3) := by decide +kernel
theorem dX12_walkerOf_31 : decode cX12_walkerOf 31 = .ok (.iload_n 1, 1) := by decide +kernel
theorem dX12_walkerOf_32 : decode cX12_walkerOf 32 = .ok (.baload, 1) := by decide +kernel
theorem dX12_walkerOf_33 : decode cX12_walkerOf 33 = .ok (.ifCond .eq 7, 3) := by decide +kernel
theorem dX12_walkerOf_36 : decode cX12_walkerOf 36 = .ok (.iconst 1, 1) := by decide +kernel
theorem dX12_walkerOf_37 : decode cX12_walkerOf 37 = .ok (.goto 4, 3) := by decide +kernel
theorem dX12_walkerOf_40 : decode cX12_walkerOf 40 = .ok (.iconst 0, 1) := by decide +kernel
theorem dX12_walkerOf_41 : decode cX12_walkerOf 41 = .ok (.ireturn, 1) := by decide +kernel
theorem dX12_walker_0 : decode cX12_walker 0 = .ok (.aload_n 0, 1) := by decide +kernel
theorem dX12_walker_1 : decode cX12_walker 1 = .ok (.invokevirtual 120, 3) := by decide +kernel
theorem dX12_walker_4 : decode cX12_walker 4 = .ok (.aload_n 0, 1) := by decide +kernel
theorem dX12_walker_5 : decode cX12_walker 5 = .ok (.iload_n 1, 1) := by decide +kernel
theorem dX12_walker_6 : decode cX12_walker 6 = .ok (.invokevirtual 126, 3) := by decide +kernel
theorem dX12_walker_9 : decode cX12_walker 9 = .ok (.ifCond .eq 24, 3) := by decide +kernel
theorem dX12_walker_12 : decode cX12_walker 12 = .ok (.iload_n 2, 1) := by decide +kernel
theorem dX12_walker_13 : decode cX12_walker 13 = .ok (.i2l, 1) := by decide +kernel
theorem dX12_walker_14 : decode cX12_walker 14 = .ok (.lconst 0, 1) := by decide +kernel
theorem dX12_walker_15 : decode cX12_walker 15 = .ok (.ldc2_w 72, 3) := by decide +kernel
theorem dX12_walker_18 : decode cX12_walker 18 = .ok (.invokestatic 58, 3) := by decide +kernel
theorem dX12_walker_21 : decode cX12_walker 21 = .ok (.ifCond .eq 12, 3) := by decide +kernel
theorem dX12_walker_24 : decode cX12_walker 24 = .ok (.aload_n 0, 1) := by decide +kernel
theorem dX12_walker_25 : decode cX12_walker 25 = .ok (.iload_n 1, 1) := by decide +kernel
theorem dX12_walker_26 : decode cX12_walker 26 = .ok (.iload_n 2, 1) := by decide +kernel
theorem dX12_walker_27 : decode cX12_walker 27 = .ok (.invokevirtual 129, 3) := by decide +kernel
theorem dX12_walker_30 : decode cX12_walker 30 = .ok (.goto 5, 3) := by decide +kernel
theorem dX12_walker_33 : decode cX12_walker 33 = .ok (.bipush (-2), 2) := by decide +kernel
theorem dX12_walker_35 : decode cX12_walker 35 = .ok (.ireturn, 1) := by decide +kernel
theorem dX12_most_0 : decode cX12_most 0 = .ok (.iload_n 0, 1) := by decide +kernel
theorem dX12_most_1 : decode cX12_most 1 = .ok (.ifCond .ne 8, 3) := by decide +kernel
theorem dX12_most_4 : decode cX12_most 4 = .ok (.bipush 99, 2) := by decide +kernel
theorem dX12_most_6 : decode cX12_most 6 = .ok (.goto 36, 3) := by decide +kernel
theorem dX12_most_9 : decode cX12_most 9 = .ok (.iload_n 0, 1) := by decide +kernel
theorem dX12_most_10 : decode cX12_most 10 = .ok (.iconst 1, 1) := by decide +kernel
theorem dX12_most_11 : decode cX12_most 11 = .ok (.if_icmp .ne 7, 3) := by decide +kernel
theorem dX12_most_14 : decode cX12_most 14 = .ok (.iconst 1, 1) := by decide +kernel
theorem dX12_most_15 : decode cX12_most 15 = .ok (.goto 27, 3) := by decide +kernel
theorem dX12_most_18 : decode cX12_most 18 = .ok (.iload_n 0, 1) := by decide +kernel
theorem dX12_most_19 : decode cX12_most 19 = .ok (.iconst 3, 1) := by decide +kernel
theorem dX12_most_20 : decode cX12_most 20 = .ok (.if_icmp .ne 9, 3) := by decide +kernel
theorem dX12_most_23 : decode cX12_most 23 = .ok (.sipush 999, 3) := by decide +kernel
theorem dX12_most_26 : decode cX12_most 26 = .ok (.goto 16, 3) := by decide +kernel
theorem dX12_most_29 : decode cX12_most 29 = .ok (.iload_n 0, 1) := by decide +kernel
theorem dX12_most_30 : decode cX12_most 30 = .ok (.iconst 4, 1) := by decide +kernel
theorem dX12_most_31 : decode cX12_most 31 = .ok (.if_icmp .ne 9, 3) := by decide +kernel
theorem dX12_most_34 : decode cX12_most 34 = .ok (.sipush 1999, 3) := by decide +kernel
theorem dX12_most_37 : decode cX12_most 37 = .ok (.goto 5, 3) := by decide +kernel
theorem dX12_most_40 : decode cX12_most 40 = .ok (.bipush 16, 2) := by decide +kernel
theorem dX12_most_42 : decode cX12_most 42 = .ok (.ireturn, 1) := by decide +kernel
theorem dX12_set_0 : decode cX12_set 0 = .ok (.iload_n 1, 1) := by decide +kernel
theorem dX12_set_1 : decode cX12_set 1 = .ok (.i2l, 1) := by decide +kernel
theorem dX12_set_2 : decode cX12_set 2 = .ok (.lconst 0, 1) := by decide +kernel
theorem dX12_set_3 : decode cX12_set 3 = .ok (.ldc2_w 132, 3) := by decide +kernel
theorem dX12_set_6 : decode cX12_set 6 = .ok (.invokestatic 58, 3) := by decide +kernel
theorem dX12_set_9 : decode cX12_set 9 = .ok (.ifCond .eq 17, 3) := by decide +kernel
theorem dX12_set_12 : decode cX12_set 12 = .ok (.iload_n 2, 1) := by decide +kernel
theorem dX12_set_13 : decode cX12_set 13 = .ok (.i2l, 1) := by decide +kernel
theorem dX12_set_14 : decode cX12_set 14 = .ok (.lconst 0, 1) := by decide +kernel
theorem dX12_set_15 : decode cX12_set 15 = .ok (.iload_n 1, 1) := by decide +kernel
theorem dX12_set_16 : decode cX12_set 16 = .ok (.invokestatic 134, 3) := by decide +kernel
theorem dX12_set_19 : decode cX12_set 19 = .ok (.i2l, 1) := by decide +kernel
theorem dX12_set_20 : decode cX12_set 20 = .ok (.invokestatic 58, 3) := by decide +kernel
theorem dX12_set_23 : decode cX12_set 23 = .ok (.ifCond .ne 6, 3) := by decide +kernel
theorem dX12_set_26 : decode cX12_set 26 = .ok (.bipush (-2), 2) := by decide +kernel
theorem dX12_set_28 : decode cX12_set 28 = .ok (.ireturn, 1) := by decide +kernel
theorem dX12_set_29 : decode cX12_set 29 = .ok (.aload_n 0, 1) := by decide +kernel
theorem dX12_set_30 : decode cX12_set 30 = .ok (.getfield 44, 3) := by decide +kernel
theorem dX12_set_33 : decode cX12_set 33 = .ok (.iload_n 1, 1) := by decide +kernel
theorem dX12_set_34 : decode cX12_set 34 = .ok (.iaload, 1) := by decide +kernel
theorem dX12_set_35 : decode cX12_set 35 = .ok (.istore_n 3, 1) := by decide +kernel
theorem dX12_set_36 : decode cX12_set 36 = .ok (.aload_n 0, 1) := by decide +kernel
theorem dX12_set_37 : decode cX12_set 37 = .ok (.getfield 44, 3) := by decide +kernel
theorem dX12_set_40 : decode cX12_set 40 = .ok (.iload_n 1, 1) := by decide +kernel
theorem dX12_set_41 : decode cX12_set 41 = .ok (.iload_n 2, 1) := by decide +kernel
theorem dX12_set_42 : decode cX12_set 42 = .ok (.iastore, 1) := by decide +kernel
theorem dX12_set_43 : decode cX12_set 43 = .ok (.iload_n 3, 1) := by decide +kernel
theorem dX12_set_44 : decode cX12_set 44 = .ok (.ireturn, 1) := by decide +kernel
theorem dX12_helmetsNow_0 : decode cX12_helmetsNow 0 = .ok (.iconst 0, 1) := by decide +kernel
theorem dX12_helmetsNow_1 : decode cX12_helmetsNow 1 = .ok (.istore_n 1, 1) := by decide +kernel
theorem dX12_helmetsNow_2 : decode cX12_helmetsNow 2 = .ok (.iconst 0, 1) := by decide +kernel
theorem dX12_helmetsNow_3 : decode cX12_helmetsNow 3 = .ok (.istore_n 2, 1) := by decide +kernel
theorem dX12_helmetsNow_4 : decode cX12_helmetsNow 4 = .ok (.iload_n 2, 1) := by decide +kernel
theorem dX12_helmetsNow_5 : decode cX12_helmetsNow 5 = .ok (.aload_n 0, 1) := by decide +kernel
theorem dX12_helmetsNow_6 : decode cX12_helmetsNow 6 = .ok (.getfield 106, 3) := by decide +kernel
theorem dX12_helmetsNow_9 : decode cX12_helmetsNow 9 = .ok (.if_icmp .ge 28, 3) := by decide +kernel
theorem dX12_helmetsNow_12 : decode cX12_helmetsNow 12 = .ok (.iload_n 1, 1) := by decide +kernel
theorem dX12_helmetsNow_13 : decode cX12_helmetsNow 13 = .ok (.aload_n 0, 1) := by decide +kernel
theorem dX12_helmetsNow_14 : decode cX12_helmetsNow 14 = .ok (.getfield 40, 3) := by decide +kernel
theorem dX12_helmetsNow_17 : decode cX12_helmetsNow 17 = .ok (.iload_n 2, 1) := by decide +kernel
theorem dX12_helmetsNow_18 : decode cX12_helmetsNow 18 = .ok (.baload, 1) := by decide +kernel
theorem dX12_helmetsNow_19 : decode cX12_helmetsNow 19 = .ok (.ifCond .eq 9, 3) := by decide +kernel
theorem dX12_helmetsNow_22 : decode cX12_helmetsNow 22 = .ok (.iconst 1, 1) := by decide +kernel
theorem dX12_helmetsNow_23 : decode cX12_helmetsNow 23 = .ok (.iload_n 2, 1) := by decide +kernel
theorem dX12_helmetsNow_24 : decode cX12_helmetsNow 24 = .ok (.ishl, 1) := by decide +kernel
theorem dX12_helmetsNow_25 : decode cX12_helmetsNow 25 = .ok (.goto 4, 3) := by decide +kernel
theorem dX12_helmetsNow_28 : decode cX12_helmetsNow 28 = .ok (.iconst 0, 1) := by decide +kernel
theorem dX12_helmetsNow_29 : decode cX12_helmetsNow 29 = .ok (.ior, 1) := by decide +kernel
theorem dX12_helmetsNow_30 : decode cX12_helmetsNow 30 = .ok (.istore_n 1, 1) := by decide +kernel
theorem dX12_helmetsNow_31 : decode cX12_helmetsNow 31 = .ok (.iinc 2 1, 3) := by decide +kernel
theorem dX12_helmetsNow_34 : decode cX12_helmetsNow 34 = .ok (.goto (-30), 3) := by decide +kernel
theorem dX12_helmetsNow_37 : decode cX12_helmetsNow 37 = .ok (.iload_n 1, 1) := by decide +kernel
theorem dX12_helmetsNow_38 : decode cX12_helmetsNow 38 = .ok (.ireturn, 1) := by decide +kernel
theorem dX12_plain_0 : decode cX12_plain 0 = .ok (.iconst 0, 1) := by decide +kernel
theorem dX12_plain_1 : decode cX12_plain 1 = .ok (.istore_n 1, 1) := by decide +kernel
theorem dX12_plain_2 : decode cX12_plain 2 = .ok (.iload_n 1, 1) := by decide +kernel
theorem dX12_plain_3 : decode cX12_plain 3 = .ok (.bipush 6, 2) := by decide +kernel
theorem dX12_plain_5 : decode cX12_plain 5 = .ok (.if_icmp .ge 16, 3) := by decide +kernel
theorem dX12_plain_8 : decode cX12_plain 8 = .ok (.aload_n 0, 1) := by decide +kernel
theorem dX12_plain_9 : decode cX12_plain 9 = .ok (.getfield 47, 3) := by decide +kernel
theorem dX12_plain_12 : decode cX12_plain 12 = .ok (.iload_n 1, 1) := by decide +kernel
theorem dX12_plain_13 : decode cX12_plain 13 = .ok (.iload_n 1, 1) := by decide +kernel
theorem dX12_plain_14 : decode cX12_plain 14 = .ok (.iastore, 1) := by decide +kernel
theorem dX12_plain_15 : decode cX12_plain 15 = .ok (.iinc 1 1, 3) := by decide +kernel
theorem dX12_plain_18 : decode cX12_plain 18 = .ok (.goto (-16), 3) := by decide +kernel
theorem dX12_plain_21 : decode cX12_plain 21 = .ok (.aload_n 0, 1) := by decide +kernel
theorem dX12_plain_22 : decode cX12_plain 22 = .ok (.aload_n 0, 1) := by decide +kernel
theorem dX12_plain_23 : decode cX12_plain 23 = .ok (.getfield 44, 3) := by decide +kernel
theorem dX12_plain_26 : decode cX12_plain 26 = .ok (.iconst 0, 1) := by decide +kernel
theorem dX12_plain_27 : decode cX12_plain 27 = .ok (.iaload, 1) := by decide +kernel
theorem dX12_plain_28 : decode cX12_plain 28 = .ok (.putfield 137, 3) := by decide +kernel
theorem dX12_plain_31 : decode cX12_plain 31 = .ok (.aload_n 0, 1) := by decide +kernel
theorem dX12_plain_32 : decode cX12_plain 32 = .ok (.aload_n 0, 1) := by decide +kernel
theorem dX12_plain_33 : decode cX12_plain 33 = .ok (.invokevirtual 140, 3) := by decide +kernel
theorem dX12_plain_36 : decode cX12_plain 36 = .ok (.putfield 143, 3) := by decide +kernel
theorem dX12_plain_39 : decode cX12_plain 39 = .ok (.return_, 1) := by decide +kernel
theorem dX12_reads_0 : decode cX12_reads 0 = .ok (.aload_n 0, 1) := by decide +kernel
theorem dX12_reads_1 : decode cX12_reads 1 = .ok (.invokevirtual 113, 3) := by decide +kernel
theorem dX12_reads_4 : decode cX12_reads 4 = .ok (.pop, 1) := by decide +kernel
theorem dX12_reads_5 : decode cX12_reads 5 = .ok (.aload_n 0, 1) := by decide +kernel
theorem dX12_reads_6 : decode cX12_reads 6 = .ok (.invokevirtual 117, 3) := by decide +kernel
theorem dX12_reads_9 : decode cX12_reads 9 = .ok (.pop, 1) := by decide +kernel
theorem dX12_reads_10 : decode cX12_reads 10 = .ok (.aload_n 0, 1) := by decide +kernel
theorem dX12_reads_11 : decode cX12_reads 11 = .ok (.invokevirtual 146, 3) := by decide +kernel
theorem dX12_reads_14 : decode cX12_reads 14 = .ok (.return_, 1) := by decide +kernel
theorem dX12_pace_0 : decode cX12_pace 0 = .ok (.iconst 1, 1) := by decide +kernel
theorem dX12_pace_1 : decode cX12_pace 1 = .ok (.aload_n 0, 1) := by decide +kernel
theorem dX12_pace_2 : decode cX12_pace 2 = .ok (.getfield 44, 3) := by decide +kernel
theorem dX12_pace_5 : decode cX12_pace 5 = .ok (.iconst 1, 1) := by decide +kernel
theorem dX12_pace_6 : decode cX12_pace 6 = .ok (.iaload, 1) := by decide +kernel
theorem dX12_pace_7 : decode cX12_pace 7 = .ok (.iadd, 1) := by decide +kernel
theorem dX12_pace_8 : decode cX12_pace 8 = .ok (.ireturn, 1) := by decide +kernel
theorem dX12_startOf_0 : decode cX12_startOf 0 = .ok (.aload_n 0, 1) := by decide +kernel
theorem dX12_startOf_1 : decode cX12_startOf 1 = .ok (.getfield 44, 3) := by decide +kernel
theorem dX12_startOf_4 : decode cX12_startOf 4 = .ok (.iconst 3, 1) := by decide +kernel
theorem dX12_startOf_5 : decode cX12_startOf 5 = .ok (.iaload, 1) := by decide +kernel
theorem dX12_startOf_6 : decode cX12_startOf 6 = .ok (.iload_n 1, 1) := by decide +kernel
theorem dX12_startOf_7 : decode cX12_startOf 7 = .ok (.aload_n 0, 1) := by decide +kernel
theorem dX12_startOf_8 : decode cX12_startOf 8 = .ok (.getfield 137, 3) := by decide +kernel
theorem dX12_startOf_11 : decode cX12_startOf 11 = .ok (.imul, 1) := by decide +kernel
theorem dX12_startOf_12 : decode cX12_startOf 12 = .ok (.iadd, 1) := by decide +kernel
theorem dX12_startOf_13 : decode cX12_startOf 13 = .ok (.ireturn, 1) := by decide +kernel
theorem dX12_placeOf_0 : decode cX12_placeOf 0 = .ok (.iload_n 2, 1) := by decide +kernel
theorem dX12_placeOf_1 : decode cX12_placeOf 1 = .ok (.aload_n 0, 1) := by decide +kernel
theorem dX12_placeOf_2 : decode cX12_placeOf 2 = .ok (.iload_n 1, 1) := by decide +kernel
theorem dX12_placeOf_3 : decode cX12_placeOf 3 = .ok (.invokevirtual 149, 3) := by decide +kernel
theorem dX12_placeOf_6 : decode cX12_placeOf 6 = .ok (.isub, 1) := by decide +kernel
theorem dX12_placeOf_7 : decode cX12_placeOf 7 = .ok (.istore_n 3, 1) := by decide +kernel
theorem dX12_placeOf_8 : decode cX12_placeOf 8 = .ok (.iload_n 3, 1) := by decide +kernel
theorem dX12_placeOf_9 : decode cX12_placeOf 9 = .ok (.ifCond .lt 25, 3) := by decide +kernel
theorem dX12_placeOf_12 : decode cX12_placeOf 12 = .ok (.iload_n 3, 1) := by decide +kernel
theorem dX12_placeOf_13 : decode cX12_placeOf 13 = .ok (.aload_n 0, 1) := by decide +kernel
theorem dX12_placeOf_14 : decode cX12_placeOf 14 = .ok (.invokevirtual 152, 3) := by decide +kernel
theorem dX12_placeOf_17 : decode cX12_placeOf 17 = .ok (.idiv, 1) := by decide +kernel
theorem dX12_placeOf_18 : decode cX12_placeOf 18 = .ok (.aload_n 0, 1) := by decide +kernel
theorem dX12_placeOf_19 : decode cX12_placeOf 19 = .ok (.getfield 95, 3) := by decide +kernel
theorem dX12_placeOf_22 : decode cX12_placeOf 22 = .ok (.if_icmp .ge 12, 3) := by decide +kernel
theorem dX12_placeOf_25 : decode cX12_placeOf 25 = .ok (.iload_n 3, 1) := by decide +kernel
theorem dX12_placeOf_26 : decode cX12_placeOf 26 = .ok (.aload_n 0, 1) := by decide +kernel
theorem dX12_placeOf_27 : decode cX12_placeOf 27 = .ok (.invokevirtual 152, 3) := by decide +kernel
theorem dX12_placeOf_30 : decode cX12_placeOf 30 = .ok (.idiv, 1) := by decide +kernel
theorem dX12_placeOf_31 : decode cX12_placeOf 31 = .ok (.goto 4, 3) := by decide +kernel
theorem dX12_placeOf_34 : decode cX12_placeOf 34 = .ok (.iconst (-1), 1) := by decide +kernel
theorem dX12_placeOf_35 : decode cX12_placeOf 35 = .ok (.ireturn, 1) := by decide +kernel
theorem dX12_place_0 : decode cX12_place 0 = .ok (.aload_n 0, 1) := by decide +kernel
theorem dX12_place_1 : decode cX12_place 1 = .ok (.invokevirtual 120, 3) := by decide +kernel
theorem dX12_place_4 : decode cX12_place 4 = .ok (.aload_n 0, 1) := by decide +kernel
theorem dX12_place_5 : decode cX12_place 5 = .ok (.iload_n 1, 1) := by decide +kernel
theorem dX12_place_6 : decode cX12_place 6 = .ok (.invokevirtual 126, 3) := by decide +kernel
theorem dX12_place_9 : decode cX12_place 9 = .ok (.ifCond .eq 24, 3) := by decide +kernel
theorem dX12_place_12 : decode cX12_place 12 = .ok (.iload_n 2, 1) := by decide +kernel
theorem dX12_place_13 : decode cX12_place 13 = .ok (.i2l, 1) := by decide +kernel
theorem dX12_place_14 : decode cX12_place 14 = .ok (.lconst 0, 1) := by decide +kernel
theorem dX12_place_15 : decode cX12_place 15 = .ok (.ldc2_w 155, 3) := by decide +kernel
theorem dX12_place_18 : decode cX12_place 18 = .ok (.invokestatic 58, 3) := by decide +kernel
theorem dX12_place_21 : decode cX12_place 21 = .ok (.ifCond .eq 12, 3) := by decide +kernel
theorem dX12_place_24 : decode cX12_place 24 = .ok (.aload_n 0, 1) := by decide +kernel
theorem dX12_place_25 : decode cX12_place 25 = .ok (.iload_n 1, 1) := by decide +kernel
theorem dX12_place_26 : decode cX12_place 26 = .ok (.iload_n 2, 1) := by decide +kernel
theorem dX12_place_27 : decode cX12_place 27 = .ok (.invokevirtual 157, 3) := by decide +kernel
theorem dX12_place_30 : decode cX12_place 30 = .ok (.goto 5, 3) := by decide +kernel
theorem dX12_place_33 : decode cX12_place 33 = .ok (.bipush (-2), 2) := by decide +kernel
theorem dX12_place_35 : decode cX12_place 35 = .ok (.ireturn, 1) := by decide +kernel
theorem dX12_oddsBy_0 : decode cX12_oddsBy 0 = .ok (.iload_n 1, 1) := by decide +kernel
theorem dX12_oddsBy_1 : decode cX12_oddsBy 1 = .ok (.iload_n 2, 1) := by decide +kernel
theorem dX12_oddsBy_2 : decode cX12_oddsBy 2 = .ok (.iconst 3, 1) := by decide +kernel
theorem dX12_oddsBy_3 : decode cX12_oddsBy 3 = .ok (.idiv, 1) := by decide +kernel
theorem dX12_oddsBy_4 : decode cX12_oddsBy 4 = .ok (.iadd, 1) := by decide +kernel
theorem dX12_oddsBy_5 : decode cX12_oddsBy 5 = .ok (.iload_n 3, 1) := by decide +kernel
theorem dX12_oddsBy_6 : decode cX12_oddsBy 6 = .ok (.iconst 3, 1) := by decide +kernel
theorem dX12_oddsBy_7 : decode cX12_oddsBy 7 = .ok (.idiv, 1) := by decide +kernel
theorem dX12_oddsBy_8 : decode cX12_oddsBy 8 = .ok (.isub, 1) := by decide +kernel
theorem dX12_oddsBy_9 : decode cX12_oddsBy 9 = .ok (.iconst 0, 1) := by decide +kernel
theorem dX12_oddsBy_10 : decode cX12_oddsBy 10 = .ok (.invokestatic 160, 3) := by decide +kernel
theorem dX12_oddsBy_13 : decode cX12_oddsBy 13 = .ok (.bipush 16, 2) := by decide +kernel
theorem dX12_oddsBy_15 : decode cX12_oddsBy 15 = .ok (.invokestatic 163, 3) := by decide +kernel
theorem dX12_oddsBy_18 : decode cX12_oddsBy 18 = .ok (.ireturn, 1) := by decide +kernel
theorem dX12_treadsOf_0 : decode cX12_treadsOf 0 = .ok (.aload_n 0, 1) := by decide +kernel
theorem dX12_treadsOf_1 : decode cX12_treadsOf 1 = .ok (.getfield 31, 3) := by decide +kernel
theorem dX12_treadsOf_4 : decode cX12_treadsOf 4 = .ok (.iload_n 2, 1) := by decide +kernel
theorem dX12_treadsOf_5 : decode cX12_treadsOf 5 = .ok (.iaload, 1) := by decide +kernel
theorem dX12_treadsOf_6 : decode cX12_treadsOf 6 = .ok (.ifCond .ne 7, 3) := by decide +kernel
theorem dX12_treadsOf_9 : decode cX12_treadsOf 9 = .ok (.iconst 0, 1) := by decide +kernel
theorem dX12_treadsOf_10 : decode cX12_treadsOf 10 = .ok (.goto 25, 3) := by decide +kernel
theorem dX12_treadsOf_13 : decode cX12_treadsOf 13 = .ok (.aload_n 0, 1) := by decide +kernel
theorem dX12_treadsOf_14 : decode cX12_treadsOf 14 = .ok (.aload_n 0, 1) := by decide +kernel
theorem dX12_treadsOf_15 : decode cX12_treadsOf 15 = .ok (.getfield 31, 3) := by decide +kernel
theorem dX12_treadsOf_18 : decode cX12_treadsOf 18 = .ok (.iload_n 2, 1) := by decide +kernel
theorem dX12_treadsOf_19 : decode cX12_treadsOf 19 = .ok (.iaload, 1) := by decide +kernel
theorem dX12_treadsOf_20 : decode cX12_treadsOf 20 = .ok (.aload_n 0, 1) := by decide +kernel
theorem dX12_treadsOf_21 : decode cX12_treadsOf 21 = .ok (.getfield 34, 3) := by decide +kernel
theorem dX12_treadsOf_24 : decode cX12_treadsOf 24 = .ok (.iload_n 1, 1) := by decide +kernel
theorem dX12_treadsOf_25 : decode cX12_treadsOf 25 = .ok (.iaload, 1) := by decide +kernel
theorem dX12_treadsOf_26 : decode cX12_treadsOf 26 = .ok (.aload_n 0, 1) := by decide +kernel
theorem dX12_treadsOf_27 : decode cX12_treadsOf 27 = .ok (.getfield 37, 3) := by decide +kernel
theorem dX12_treadsOf_30 : decode cX12_treadsOf 30 = .ok (.iload_n 1, 1) := by decide +kernel
theorem dX12_treadsOf_31 : decode cX12_treadsOf 31 = .ok (.iaload, 1) := by decide +kernel
theorem dX12_treadsOf_32 : decode cX12_treadsOf 32 = .ok (.invokevirtual 166, 3) := by decide +kernel
theorem dX12_treadsOf_35 : decode cX12_treadsOf 35 = .ok (.ireturn, 1) := by decide +kernel
theorem dX12_treads_0 : decode cX12_treads 0 = .ok (.aload_n 0, 1) := by decide +kernel
theorem dX12_treads_1 : decode cX12_treads 1 = .ok (.invokevirtual 120, 3) := by decide +kernel
theorem dX12_treads_4 : decode cX12_treads 4 = .ok (.aload_n 0, 1) := by decide +kernel
theorem dX12_treads_5 : decode cX12_treads 5 = .ok (.iload_n 1, 1) := by decide +kernel
theorem dX12_treads_6 : decode cX12_treads 6 = .ok (.invokevirtual 126, 3) := by decide +kernel
theorem dX12_treads_9 : decode cX12_treads 9 = .ok (.ifCond .eq 20, 3) := by decide +kernel
theorem dX12_treads_12 : decode cX12_treads 12 = .ok (.aload_n 0, 1) := by decide +kernel
theorem dX12_treads_13 : decode cX12_treads 13 = .ok (.iload_n 2, 1) := by decide +kernel
theorem dX12_treads_14 : decode cX12_treads 14 = .ok (.invokevirtual 123, 3) := by decide +kernel
theorem dX12_treads_17 : decode cX12_treads 17 = .ok (.ifCond .eq 12, 3) := by decide +kernel
theorem dX12_treads_20 : decode cX12_treads 20 = .ok (.aload_n 0, 1) := by decide +kernel
theorem dX12_treads_21 : decode cX12_treads 21 = .ok (.iload_n 1, 1) := by decide +kernel
theorem dX12_treads_22 : decode cX12_treads 22 = .ok (.iload_n 2, 1) := by decide +kernel
theorem dX12_treads_23 : decode cX12_treads 23 = .ok (.invokevirtual 169, 3) := by decide +kernel
theorem dX12_treads_26 : decode cX12_treads 26 = .ok (.goto 5, 3) := by decide +kernel
theorem dX12_treads_29 : decode cX12_treads 29 = .ok (.bipush (-2), 2) := by decide +kernel
theorem dX12_treads_31 : decode cX12_treads 31 = .ok (.ireturn, 1) := by decide +kernel
theorem dX12_hitsOf_0 : decode cX12_hitsOf 0 = .ok (.iload_n 1, 1) := by decide +kernel
theorem dX12_hitsOf_1 : decode cX12_hitsOf 1 = .ok (.iload_n 2, 1) := by decide +kernel
theorem dX12_hitsOf_2 : decode cX12_hitsOf 2 = .ok (.isub, 1) := by decide +kernel
theorem dX12_hitsOf_3 : decode cX12_hitsOf 3 = .ok (.istore 4, 2) := by decide +kernel
theorem dX12_hitsOf_5 : decode cX12_hitsOf 5 = .ok (.iload 4, 2) := by decide +kernel
theorem dX12_hitsOf_7 : decode cX12_hitsOf 7 = .ok (.ifCond .le 13, 3) := by decide +kernel
theorem dX12_hitsOf_10 : decode cX12_hitsOf 10 = .ok (.aload_n 0, 1) := by decide +kernel
theorem dX12_hitsOf_11 : decode cX12_hitsOf 11 = .ok (.getfield 28, 3) := by decide +kernel
theorem dX12_hitsOf_14 : decode cX12_hitsOf 14 = .ok (.iload_n 2, 1) := by decide +kernel
theorem dX12_hitsOf_15 : decode cX12_hitsOf 15 = .ok (.iaload, 1) := by decide +kernel
theorem dX12_hitsOf_16 : decode cX12_hitsOf 16 = .ok (.iconst 1, 1) := by decide +kernel
theorem dX12_hitsOf_17 : decode cX12_hitsOf 17 = .ok (.if_icmp .ne 5, 3) := by decide +kernel
theorem dX12_hitsOf_20 : decode cX12_hitsOf 20 = .ok (.iconst 0, 1) := by decide +kernel
theorem dX12_hitsOf_21 : decode cX12_hitsOf 21 = .ok (.ireturn, 1) := by decide +kernel
theorem dX12_hitsOf_22 : decode cX12_hitsOf 22 = .ok (.aload_n 0, 1) := by decide +kernel
theorem dX12_hitsOf_23 : decode cX12_hitsOf 23 = .ok (.getfield 28, 3) := by decide +kernel
theorem dX12_hitsOf_26 : decode cX12_hitsOf 26 = .ok (.iload_n 2, 1) := by decide +kernel
theorem dX12_hitsOf_27 : decode cX12_hitsOf 27 = .ok (.iaload, 1) := by decide +kernel
theorem dX12_hitsOf_28 : decode cX12_hitsOf 28 = .ok (.iconst 2, 1) := by decide +kernel
theorem dX12_hitsOf_29 : decode cX12_hitsOf 29 = .ok (.if_icmp .ne 10, 3) := by decide +kernel
theorem dX12_hitsOf_32 : decode cX12_hitsOf 32 = .ok (.iconst 2, 1) := by decide +kernel
theorem dX12_hitsOf_33 : decode cX12_hitsOf 33 = .ok (.iload 4, 2) := by decide +kernel
theorem dX12_hitsOf_35 : decode cX12_hitsOf 35 = .ok (.imul, 1) := by decide +kernel
theorem dX12_hitsOf_36 : decode cX12_hitsOf 36 = .ok (.goto 5, 3) := by decide +kernel
theorem dX12_hitsOf_39 : decode cX12_hitsOf 39 = .ok (.iload 4, 2) := by decide +kernel
theorem dX12_hitsOf_41 : decode cX12_hitsOf 41 = .ok (.bipush 16, 2) := by decide +kernel
theorem dX12_hitsOf_43 : decode cX12_hitsOf 43 = .ok (.invokestatic 163, 3) := by decide +kernel
theorem dX12_hitsOf_46 : decode cX12_hitsOf 46 = .ok (.istore 5, 2) := by decide +kernel
theorem dX12_hitsOf_48 : decode cX12_hitsOf 48 = .ok (.iload 4, 2) := by decide +kernel
theorem dX12_hitsOf_50 : decode cX12_hitsOf 50 = .ok (.aload_n 0, 1) := by decide +kernel
theorem dX12_hitsOf_51 : decode cX12_hitsOf 51 = .ok (.getfield 44, 3) := by decide +kernel
theorem dX12_hitsOf_54 : decode cX12_hitsOf 54 = .ok (.iconst 2, 1) := by decide +kernel
theorem dX12_hitsOf_55 : decode cX12_hitsOf 55 = .ok (.iaload, 1) := by decide +kernel
theorem dX12_hitsOf_56 : decode cX12_hitsOf 56 = .ok (.if_icmp .le 10, 3) := by decide +kernel
theorem dX12_hitsOf_59 : decode cX12_hitsOf 59 = .ok (.iload 5, 2) := by decide +kernel
theorem dX12_hitsOf_61 : decode cX12_hitsOf 61 = .ok (.iconst 2, 1) := by decide +kernel
theorem dX12_hitsOf_62 : decode cX12_hitsOf 62 = .ok (.idiv, 1) := by decide +kernel
theorem dX12_hitsOf_63 : decode cX12_hitsOf 63 = .ok (.goto 5, 3) := by decide +kernel
theorem dX12_hitsOf_66 : decode cX12_hitsOf 66 = .ok (.iload 5, 2) := by decide +kernel
theorem dX12_hitsOf_68 : decode cX12_hitsOf 68 = .ok (.istore 5, 2) := by decide +kernel
theorem dX12_hitsOf_70 : decode cX12_hitsOf 70 = .ok (.iload_n 3, 1) := by decide +kernel
theorem dX12_hitsOf_71 : decode cX12_hitsOf 71 = .ok (.ifCond .eq 10, 3) := by decide +kernel
theorem dX12_hitsOf_74 : decode cX12_hitsOf 74 = .ok (.iload 5, 2) := by decide +kernel
theorem dX12_hitsOf_76 : decode cX12_hitsOf 76 = .ok (.iconst 2, 1) := by decide +kernel
theorem dX12_hitsOf_77 : decode cX12_hitsOf 77 = .ok (.idiv, 1) := by decide +kernel
theorem dX12_hitsOf_78 : decode cX12_hitsOf 78 = .ok (.goto 5, 3) := by decide +kernel
theorem dX12_hitsOf_81 : decode cX12_hitsOf 81 = .ok (.iload 5, 2) := by decide +kernel
theorem dX12_hitsOf_83 : decode cX12_hitsOf 83 = .ok (.ireturn, 1) := by decide +kernel
theorem dX12_hits_0 : decode cX12_hits 0 = .ok (.aload_n 0, 1) := by decide +kernel
theorem dX12_hits_1 : decode cX12_hits 1 = .ok (.invokevirtual 120, 3) := by decide +kernel
theorem dX12_hits_4 : decode cX12_hits 4 = .ok (.aload_n 0, 1) := by decide +kernel
theorem dX12_hits_5 : decode cX12_hits 5 = .ok (.iload_n 1, 1) := by decide +kernel
theorem dX12_hits_6 : decode cX12_hits 6 = .ok (.invokevirtual 123, 3) := by decide +kernel
theorem dX12_hits_9 : decode cX12_hits 9 = .ok (.ifCond .eq 37, 3) := by decide +kernel
theorem dX12_hits_12 : decode cX12_hits 12 = .ok (.aload_n 0, 1) := by decide +kernel
theorem dX12_hits_13 : decode cX12_hits 13 = .ok (.iload_n 2, 1) := by decide +kernel
theorem dX12_hits_14 : decode cX12_hits 14 = .ok (.invokevirtual 123, 3) := by decide +kernel
theorem dX12_hits_17 : decode cX12_hits 17 = .ok (.ifCond .eq 29, 3) := by decide +kernel
theorem dX12_hits_20 : decode cX12_hits 20 = .ok (.iload_n 3, 1) := by decide +kernel
theorem dX12_hits_21 : decode cX12_hits 21 = .ok (.invokestatic 87, 3) := by decide +kernel
theorem dX12_hits_24 : decode cX12_hits 24 = .ok (.ifCond .eq 22, 3) := by decide +kernel
theorem dX12_hits_27 : decode cX12_hits 27 = .ok (.aload_n 0, 1) := by decide +kernel
theorem dX12_hits_28 : decode cX12_hits 28 = .ok (.iload_n 1, 1) := by decide +kernel
theorem dX12_hits_29 : decode cX12_hits 29 = .ok (.iload_n 2, 1) := by decide +kernel
theorem dX12_hits_30 : decode cX12_hits 30 = .ok (.iload_n 3, 1) := by decide +kernel
theorem dX12_hits_31 : decode cX12_hits 31 = .ok (.iconst 1, 1) := by decide +kernel
theorem dX12_hits_32 : decode cX12_hits 32 = .ok (.if_icmp .ne 7, 3) := by decide +kernel
theorem dX12_hits_35 : decode cX12_hits 35 = .ok (.iconst 1, 1) := by decide +kernel
theorem dX12_hits_36 : decode cX12_hits 36 = .ok (.goto 4, 3) := by decide +kernel
theorem dX12_hits_39 : decode cX12_hits 39 = .ok (.iconst 0, 1) := by decide +kernel
theorem dX12_hits_40 : decode cX12_hits 40 = .ok (.invokevirtual 172, 3) := by decide +kernel
theorem dX12_hits_43 : decode cX12_hits 43 = .ok (.goto 5, 3) := by decide +kernel
theorem dX12_hits_46 : decode cX12_hits 46 = .ok (.bipush (-2), 2) := by decide +kernel
theorem dX12_hits_48 : decode cX12_hits 48 = .ok (.ireturn, 1) := by decide +kernel
theorem dX12_hitsWho_0 : decode cX12_hitsWho 0 = .ok (.aload_n 0, 1) := by decide +kernel
theorem dX12_hitsWho_1 : decode cX12_hitsWho 1 = .ok (.iload_n 2, 1) := by decide +kernel
theorem dX12_hitsWho_2 : decode cX12_hitsWho 2 = .ok (.iload_n 3, 1) := by decide +kernel
theorem dX12_hitsWho_3 : decode cX12_hitsWho 3 = .ok (.invokevirtual 157, 3) := by decide +kernel
theorem dX12_hitsWho_6 : decode cX12_hitsWho 6 = .ok (.istore 4, 2) := by decide +kernel
theorem dX12_hitsWho_8 : decode cX12_hitsWho 8 = .ok (.iload 4, 2) := by decide +kernel
theorem dX12_hitsWho_10 : decode cX12_hitsWho 10 = .ok (.iconst (-1), 1) := by decide +kernel
theorem dX12_hitsWho_11 : decode cX12_hitsWho 11 = .ok (.if_icmp .ne 7, 3) := by decide +kernel
theorem dX12_hitsWho_14 : decode cX12_hitsWho 14 = .ok (.iconst 0, 1) := by decide +kernel
theorem dX12_hitsWho_15 : decode cX12_hitsWho 15 = .ok (.goto 23, 3) := by decide +kernel
theorem dX12_hitsWho_18 : decode cX12_hitsWho 18 = .ok (.aload_n 0, 1) := by decide +kernel
theorem dX12_hitsWho_19 : decode cX12_hitsWho 19 = .ok (.iload_n 1, 1) := by decide +kernel
theorem dX12_hitsWho_20 : decode cX12_hitsWho 20 = .ok (.iload 4, 2) := by decide +kernel
theorem dX12_hitsWho_22 : decode cX12_hitsWho 22 = .ok (.aload_n 0, 1) := by decide +kernel
theorem dX12_hitsWho_23 : decode cX12_hitsWho 23 = .ok (.getfield 143, 3) := by decide +kernel
theorem dX12_hitsWho_26 : decode cX12_hitsWho 26 = .ok (.aload_n 0, 1) := by decide +kernel
theorem dX12_hitsWho_27 : decode cX12_hitsWho 27 = .ok (.getfield 47, 3) := by decide +kernel
theorem dX12_hitsWho_30 : decode cX12_hitsWho 30 = .ok (.iload_n 2, 1) := by decide +kernel
theorem dX12_hitsWho_31 : decode cX12_hitsWho 31 = .ok (.iaload, 1) := by decide +kernel
theorem dX12_hitsWho_32 : decode cX12_hitsWho 32 = .ok (.invokestatic 176, 3) := by decide +kernel
theorem dX12_hitsWho_35 : decode cX12_hitsWho 35 = .ok (.invokevirtual 172, 3) := by decide +kernel
theorem dX12_hitsWho_38 : decode cX12_hitsWho 38 = .ok (.ireturn, 1) := by decide +kernel
theorem dX12_isAside_0 : decode cX12_isAside 0 = .ok (.aload_n 0, 1) := by decide +kernel
theorem dX12_isAside_1 : decode cX12_isAside 1 = .ok (.getfield 44, 3) := by decide +kernel
theorem dX12_isAside_4 : decode cX12_isAside 4 = .ok (.iconst 1, 1) := by decide +kernel
theorem dX12_isAside_5 : decode cX12_isAside 5 = .ok (.iaload, 1) := by decide +kernel
theorem dX12_isAside_6 : decode cX12_isAside 6 = .ok (.iconst 1, 1) := by decide +kernel
theorem dX12_isAside_7 : decode cX12_isAside 7 = .ok (.if_icmp .ne 16, 3) := by decide +kernel
theorem dX12_isAside_10 : decode cX12_isAside 10 = .ok (.iload_n 1, 1) := by decide +kernel
theorem dX12_isAside_11 : decode cX12_isAside 11 = .ok (.iconst 2, 1) := by decide +kernel
theorem dX12_isAside_12 : decode cX12_isAside 12 = .ok (.irem, 1) := by decide +kernel
theorem dX12_isAside_13 : decode cX12_isAside 13 = .ok (.iload_n 2, 1) := by decide +kernel
theorem dX12_isAside_14 : decode cX12_isAside 14 = .ok (.iconst 2, 1) := by decide +kernel
theorem dX12_isAside_15 : decode cX12_isAside 15 = .ok (.irem, 1) := by decide +kernel
theorem dX12_isAside_16 : decode cX12_isAside 16 = .ok (.if_icmp .eq 7, 3) := by decide +kernel
theorem dX12_isAside_19 : decode cX12_isAside 19 = .ok (.iconst 1, 1) := by decide +kernel
theorem dX12_isAside_20 : decode cX12_isAside 20 = .ok (.goto 4, 3) := by decide +kernel
theorem dX12_isAside_23 : decode cX12_isAside 23 = .ok (.iconst 0, 1) := by decide +kernel
theorem dX12_isAside_24 : decode cX12_isAside 24 = .ok (.ireturn, 1) := by decide +kernel
theorem dX12_harmBy_0 : decode cX12_harmBy 0 = .ok (.iconst 0, 1) := by decide +kernel
theorem dX12_harmBy_1 : decode cX12_harmBy 1 = .ok (.istore_n 3, 1) := by decide +kernel
theorem dX12_harmBy_2 : decode cX12_harmBy 2 = .ok (.iconst 0, 1) := by decide +kernel
theorem dX12_harmBy_3 : decode cX12_harmBy 3 = .ok (.istore 4, 2) := by decide +kernel
theorem dX12_harmBy_5 : decode cX12_harmBy 5 = .ok (.iload 4, 2) := by decide +kernel
theorem dX12_harmBy_7 : decode cX12_harmBy 7 = .ok (.aload_n 0, 1) := by decide +kernel
theorem dX12_harmBy_8 : decode cX12_harmBy 8 = .ok (.getfield 95, 3) := by decide +kernel
theorem dX12_harmBy_11 : decode cX12_harmBy 11 = .ok (.if_icmp .ge 54, 3) := by decide +kernel
theorem dX12_harmBy_14 : decode cX12_harmBy 14 = .ok (.aload_n 0, 1) := by decide +kernel
theorem dX12_harmBy_15 : decode cX12_harmBy 15 = .ok (.iload_n 1, 1) := by decide +kernel
theorem dX12_harmBy_16 : decode cX12_harmBy 16 = .ok (.iload_n 2, 1) := by decide +kernel
theorem dX12_harmBy_17 : decode cX12_harmBy 17 = .ok (.invokevirtual 180, 3) := by decide +kernel
theorem dX12_harmBy_20 : decode cX12_harmBy 20 = .ok (.ifCond .ne 45, 3) := by decide +kernel
theorem dX12_harmBy_23 : decode cX12_harmBy 23 = .ok (.iload_n 3, 1) := by decide +kernel
theorem dX12_harmBy_24 : decode cX12_harmBy 24 = .ok (.aload_n 0, 1) := by decide +kernel
theorem dX12_harmBy_25 : decode cX12_harmBy 25 = .ok (.aload_n 0, 1) := by decide +kernel
theorem dX12_harmBy_26 : decode cX12_harmBy 26 = .ok (.getfield 47, 3) := by decide +kernel
theorem dX12_harmBy_29 : decode cX12_harmBy 29 = .ok (.iload_n 1, 1) := by decide +kernel
theorem dX12_harmBy_30 : decode cX12_harmBy 30 = .ok (.iaload, 1) := by decide +kernel
theorem dX12_harmBy_31 : decode cX12_harmBy 31 = .ok (.iload 4, 2) := by decide +kernel
theorem dX12_harmBy_33 : decode cX12_harmBy 33 = .ok (.invokevirtual 169, 3) := by decide +kernel
theorem dX12_harmBy_36 : decode cX12_harmBy 36 = .ok (.aload_n 0, 1) := by decide +kernel
theorem dX12_harmBy_37 : decode cX12_harmBy 37 = .ok (.iload 4, 2) := by decide +kernel
theorem dX12_harmBy_39 : decode cX12_harmBy 39 = .ok (.iload_n 2, 1) := by decide +kernel
theorem dX12_harmBy_40 : decode cX12_harmBy 40 = .ok (.aload_n 0, 1) := by decide +kernel
theorem dX12_harmBy_41 : decode cX12_harmBy 41 = .ok (.iload_n 1, 1) := by decide +kernel
theorem dX12_harmBy_42 : decode cX12_harmBy 42 = .ok (.invokevirtual 149, 3) := by decide +kernel
theorem dX12_harmBy_45 : decode cX12_harmBy 45 = .ok (.iload 4, 2) := by decide +kernel
theorem dX12_harmBy_47 : decode cX12_harmBy 47 = .ok (.aload_n 0, 1) := by decide +kernel
theorem dX12_harmBy_48 : decode cX12_harmBy 48 = .ok (.invokevirtual 152, 3) := by decide +kernel
theorem dX12_harmBy_51 : decode cX12_harmBy 51 = .ok (.imul, 1) := by decide +kernel
theorem dX12_harmBy_52 : decode cX12_harmBy 52 = .ok (.iadd, 1) := by decide +kernel
theorem dX12_harmBy_53 : decode cX12_harmBy 53 = .ok (.invokevirtual 183, 3) := by decide +kernel
theorem dX12_harmBy_56 : decode cX12_harmBy 56 = .ok (.imul, 1) := by decide +kernel
theorem dX12_harmBy_57 : decode cX12_harmBy 57 = .ok (.iadd, 1) := by decide +kernel
theorem dX12_harmBy_58 : decode cX12_harmBy 58 = .ok (.istore_n 3, 1) := by decide +kernel
theorem dX12_harmBy_59 : decode cX12_harmBy 59 = .ok (.iinc 4 1, 3) := by decide +kernel
theorem dX12_harmBy_62 : decode cX12_harmBy 62 = .ok (.goto (-57), 3) := by decide +kernel
theorem dX12_harmBy_65 : decode cX12_harmBy 65 = .ok (.iload_n 3, 1) := by decide +kernel
theorem dX12_harmBy_66 : decode cX12_harmBy 66 = .ok (.ireturn, 1) := by decide +kernel
theorem dX12_sunOf_0 : decode cX12_sunOf 0 = .ok (.iconst 0, 1) := by decide +kernel
theorem dX12_sunOf_1 : decode cX12_sunOf 1 = .ok (.istore_n 2, 1) := by decide +kernel
theorem dX12_sunOf_2 : decode cX12_sunOf 2 = .ok (.aload_n 0, 1) := by decide +kernel
theorem dX12_sunOf_3 : decode cX12_sunOf 3 = .ok (.getfield 44, 3) := by decide +kernel
theorem dX12_sunOf_6 : decode cX12_sunOf 6 = .ok (.iconst 4, 1) := by decide +kernel
theorem dX12_sunOf_7 : decode cX12_sunOf 7 = .ok (.iaload, 1) := by decide +kernel
theorem dX12_sunOf_8 : decode cX12_sunOf 8 = .ok (.aload_n 0, 1) := by decide +kernel
theorem dX12_sunOf_9 : decode cX12_sunOf 9 = .ok (.iload_n 1, 1) := by decide +kernel
theorem dX12_sunOf_10 : decode cX12_sunOf 10 = .ok (.invokevirtual 149, 3) := by decide +kernel
theorem dX12_sunOf_13 : decode cX12_sunOf 13 = .ok (.invokestatic 160, 3) := by decide +kernel
theorem dX12_sunOf_16 : decode cX12_sunOf 16 = .ok (.istore_n 3, 1) := by decide +kernel
theorem dX12_sunOf_17 : decode cX12_sunOf 17 = .ok (.iload_n 3, 1) := by decide +kernel
theorem dX12_sunOf_18 : decode cX12_sunOf 18 = .ok (.aload_n 0, 1) := by decide +kernel
theorem dX12_sunOf_19 : decode cX12_sunOf 19 = .ok (.iload_n 1, 1) := by decide +kernel
theorem dX12_sunOf_20 : decode cX12_sunOf 20 = .ok (.invokevirtual 149, 3) := by decide +kernel
theorem dX12_sunOf_23 : decode cX12_sunOf 23 = .ok (.aload_n 0, 1) := by decide +kernel
theorem dX12_sunOf_24 : decode cX12_sunOf 24 = .ok (.getfield 95, 3) := by decide +kernel
theorem dX12_sunOf_27 : decode cX12_sunOf 27 = .ok (.aload_n 0, 1) := by decide +kernel
theorem dX12_sunOf_28 : decode cX12_sunOf 28 = .ok (.invokevirtual 152, 3) := by decide +kernel
theorem dX12_sunOf_31 : decode cX12_sunOf 31 = .ok (.imul, 1) := by decide +kernel
theorem dX12_sunOf_32 : decode cX12_sunOf 32 = .ok (.iadd, 1) := by decide +kernel
theorem dX12_sunOf_33 : decode cX12_sunOf 33 = .ok (.if_icmp .ge 59, 3) := by decide +kernel
theorem dX12_sunOf_36 : decode cX12_sunOf 36 = .ok (.iconst 0, 1) := by decide +kernel
theorem dX12_sunOf_37 : decode cX12_sunOf 37 = .ok (.istore 4, 2) := by decide +kernel
theorem dX12_sunOf_39 : decode cX12_sunOf 39 = .ok (.iload 4, 2) := by decide +kernel
theorem dX12_sunOf_41 : decode cX12_sunOf 41 = .ok (.aload_n 0, 1) := by decide +kernel
theorem dX12_sunOf_42 : decode cX12_sunOf 42 = .ok (.getfield 95, 3) := by decide +kernel
theorem dX12_sunOf_45 : decode cX12_sunOf 45 = .ok (.if_icmp .ge 41, 3) := by decide +kernel
theorem dX12_sunOf_48 : decode cX12_sunOf 48 = .ok (.iload_n 2, 1) := by decide +kernel
theorem dX12_sunOf_49 : decode cX12_sunOf 49 = .ok (.aload_n 0, 1) := by decide +kernel
theorem dX12_sunOf_50 : decode cX12_sunOf 50 = .ok (.getfield 31, 3) := by decide +kernel
theorem dX12_sunOf_53 : decode cX12_sunOf 53 = .ok (.iload 4, 2) := by decide +kernel
theorem dX12_sunOf_55 : decode cX12_sunOf 55 = .ok (.iaload, 1) := by decide +kernel
theorem dX12_sunOf_56 : decode cX12_sunOf 56 = .ok (.ifCond .le 21, 3) := by decide +kernel
theorem dX12_sunOf_59 : decode cX12_sunOf 59 = .ok (.aload_n 0, 1) := by decide +kernel
theorem dX12_sunOf_60 : decode cX12_sunOf 60 = .ok (.getfield 44, 3) := by decide +kernel
theorem dX12_sunOf_63 : decode cX12_sunOf 63 = .ok (.iconst 5, 1) := by decide +kernel
theorem dX12_sunOf_64 : decode cX12_sunOf 64 = .ok (.iaload, 1) := by decide +kernel
theorem dX12_sunOf_65 : decode cX12_sunOf 65 = .ok (.aload_n 0, 1) := by decide +kernel
theorem dX12_sunOf_66 : decode cX12_sunOf 66 = .ok (.iload 4, 2) := by decide +kernel
theorem dX12_sunOf_68 : decode cX12_sunOf 68 = .ok (.iload_n 1, 1) := by decide +kernel
theorem dX12_sunOf_69 : decode cX12_sunOf 69 = .ok (.iload_n 3, 1) := by decide +kernel
theorem dX12_sunOf_70 : decode cX12_sunOf 70 = .ok (.invokevirtual 183, 3) := by decide +kernel
theorem dX12_sunOf_73 : decode cX12_sunOf 73 = .ok (.imul, 1) := by decide +kernel
theorem dX12_sunOf_74 : decode cX12_sunOf 74 = .ok (.goto 4, 3) := by decide +kernel
theorem dX12_sunOf_77 : decode cX12_sunOf 77 = .ok (.iconst 0, 1) := by decide +kernel
theorem dX12_sunOf_78 : decode cX12_sunOf 78 = .ok (.iadd, 1) := by decide +kernel
theorem dX12_sunOf_79 : decode cX12_sunOf 79 = .ok (.istore_n 2, 1) := by decide +kernel
theorem dX12_sunOf_80 : decode cX12_sunOf 80 = .ok (.iinc 4 1, 3) := by decide +kernel
theorem dX12_sunOf_83 : decode cX12_sunOf 83 = .ok (.goto (-44), 3) := by decide +kernel
theorem dX12_sunOf_86 : decode cX12_sunOf 86 = .ok (.iinc 3 1, 3) := by decide +kernel
theorem dX12_sunOf_89 : decode cX12_sunOf 89 = .ok (.goto (-72), 3) := by decide +kernel
theorem dX12_sunOf_92 : decode cX12_sunOf 92 = .ok (.iload_n 2, 1) := by decide +kernel
theorem dX12_sunOf_93 : decode cX12_sunOf 93 = .ok (.ireturn, 1) := by decide +kernel
theorem dX12_toOne_0 : decode cX12_toOne 0 = .ok (.aload_n 0, 1) := by decide +kernel
theorem dX12_toOne_1 : decode cX12_toOne 1 = .ok (.iload_n 1, 1) := by decide +kernel
theorem dX12_toOne_2 : decode cX12_toOne 2 = .ok (.invokevirtual 186, 3) := by decide +kernel
theorem dX12_toOne_5 : decode cX12_toOne 5 = .ok (.istore_n 2, 1) := by decide +kernel
theorem dX12_toOne_6 : decode cX12_toOne 6 = .ok (.iconst 0, 1) := by decide +kernel
theorem dX12_toOne_7 : decode cX12_toOne 7 = .ok (.istore_n 3, 1) := by decide +kernel
theorem dX12_toOne_8 : decode cX12_toOne 8 = .ok (.iload_n 3, 1) := by decide +kernel
theorem dX12_toOne_9 : decode cX12_toOne 9 = .ok (.aload_n 0, 1) := by decide +kernel
theorem dX12_toOne_10 : decode cX12_toOne 10 = .ok (.getfield 106, 3) := by decide +kernel
theorem dX12_toOne_13 : decode cX12_toOne 13 = .ok (.if_icmp .ge 27, 3) := by decide +kernel
theorem dX12_toOne_16 : decode cX12_toOne 16 = .ok (.iload_n 2, 1) := by decide +kernel
theorem dX12_toOne_17 : decode cX12_toOne 17 = .ok (.iload_n 3, 1) := by decide +kernel
theorem dX12_toOne_18 : decode cX12_toOne 18 = .ok (.iload_n 1, 1) := by decide +kernel
theorem dX12_toOne_19 : decode cX12_toOne 19 = .ok (.if_icmp .ne 7, 3) := by decide +kernel
theorem dX12_toOne_22 : decode cX12_toOne 22 = .ok (.iconst 0, 1) := by decide +kernel
theorem dX12_toOne_23 : decode cX12_toOne 23 = .ok (.goto 9, 3) := by decide +kernel
theorem dX12_toOne_26 : decode cX12_toOne 26 = .ok (.aload_n 0, 1) := by decide +kernel
theorem dX12_toOne_27 : decode cX12_toOne 27 = .ok (.iload_n 3, 1) := by decide +kernel
theorem dX12_toOne_28 : decode cX12_toOne 28 = .ok (.iload_n 1, 1) := by decide +kernel
theorem dX12_toOne_29 : decode cX12_toOne 29 = .ok (.invokevirtual 189, 3) := by decide +kernel
theorem dX12_toOne_32 : decode cX12_toOne 32 = .ok (.iadd, 1) := by decide +kernel
theorem dX12_toOne_33 : decode cX12_toOne 33 = .ok (.istore_n 2, 1) := by decide +kernel
theorem dX12_toOne_34 : decode cX12_toOne 34 = .ok (.iinc 3 1, 3) := by decide +kernel
theorem dX12_toOne_37 : decode cX12_toOne 37 = .ok (.goto (-29), 3) := by decide +kernel
theorem dX12_toOne_40 : decode cX12_toOne 40 = .ok (.iload_n 2, 1) := by decide +kernel
theorem dX12_toOne_41 : decode cX12_toOne 41 = .ok (.ireturn, 1) := by decide +kernel
theorem dX12_toAll_0 : decode cX12_toAll 0 = .ok (.iconst 0, 1) := by decide +kernel
theorem dX12_toAll_1 : decode cX12_toAll 1 = .ok (.istore_n 1, 1) := by decide +kernel
theorem dX12_toAll_2 : decode cX12_toAll 2 = .ok (.iconst 0, 1) := by decide +kernel
theorem dX12_toAll_3 : decode cX12_toAll 3 = .ok (.istore_n 2, 1) := by decide +kernel
theorem dX12_toAll_4 : decode cX12_toAll 4 = .ok (.iload_n 2, 1) := by decide +kernel
theorem dX12_toAll_5 : decode cX12_toAll 5 = .ok (.aload_n 0, 1) := by decide +kernel
theorem dX12_toAll_6 : decode cX12_toAll 6 = .ok (.getfield 106, 3) := by decide +kernel
theorem dX12_toAll_9 : decode cX12_toAll 9 = .ok (.if_icmp .ge 17, 3) := by decide +kernel
theorem dX12_toAll_12 : decode cX12_toAll 12 = .ok (.iload_n 1, 1) := by decide +kernel
theorem dX12_toAll_13 : decode cX12_toAll 13 = .ok (.aload_n 0, 1) := by decide +kernel
theorem dX12_toAll_14 : decode cX12_toAll 14 = .ok (.iload_n 2, 1) := by decide +kernel
theorem dX12_toAll_15 : decode cX12_toAll 15 = .ok (.invokevirtual 192, 3) := by decide +kernel
theorem dX12_toAll_18 : decode cX12_toAll 18 = .ok (.iadd, 1) := by decide +kernel
theorem dX12_toAll_19 : decode cX12_toAll 19 = .ok (.istore_n 1, 1) := by decide +kernel
theorem dX12_toAll_20 : decode cX12_toAll 20 = .ok (.iinc 2 1, 3) := by decide +kernel
theorem dX12_toAll_23 : decode cX12_toAll 23 = .ok (.goto (-19), 3) := by decide +kernel
theorem dX12_toAll_26 : decode cX12_toAll 26 = .ok (.iload_n 1, 1) := by decide +kernel
theorem dX12_toAll_27 : decode cX12_toAll 27 = .ok (.ireturn, 1) := by decide +kernel
theorem dX12_harm_0 : decode cX12_harm 0 = .ok (.aload_n 0, 1) := by decide +kernel
theorem dX12_harm_1 : decode cX12_harm 1 = .ok (.invokevirtual 120, 3) := by decide +kernel
theorem dX12_harm_4 : decode cX12_harm 4 = .ok (.iload_n 1, 1) := by decide +kernel
theorem dX12_harm_5 : decode cX12_harm 5 = .ok (.iconst (-1), 1) := by decide +kernel
theorem dX12_harm_6 : decode cX12_harm 6 = .ok (.if_icmp .eq 11, 3) := by decide +kernel
theorem dX12_harm_9 : decode cX12_harm 9 = .ok (.aload_n 0, 1) := by decide +kernel
theorem dX12_harm_10 : decode cX12_harm 10 = .ok (.iload_n 1, 1) := by decide +kernel
theorem dX12_harm_11 : decode cX12_harm 11 = .ok (.invokevirtual 126, 3) := by decide +kernel
theorem dX12_harm_14 : decode cX12_harm 14 = .ok (.ifCond .eq 27, 3) := by decide +kernel
theorem dX12_harm_17 : decode cX12_harm 17 = .ok (.aload_n 0, 1) := by decide +kernel
theorem dX12_harm_18 : decode cX12_harm 18 = .ok (.iload_n 2, 1) := by decide +kernel
theorem dX12_harm_19 : decode cX12_harm 19 = .ok (.invokevirtual 126, 3) := by decide +kernel
theorem dX12_harm_22 : decode cX12_harm 22 = .ok (.ifCond .eq 19, 3) := by decide +kernel
theorem dX12_harm_25 : decode cX12_harm 25 = .ok (.iload_n 1, 1) := by decide +kernel
theorem dX12_harm_26 : decode cX12_harm 26 = .ok (.iload_n 2, 1) := by decide +kernel
theorem dX12_harm_27 : decode cX12_harm 27 = .ok (.if_icmp .eq 14, 3) := by decide +kernel
theorem dX12_harm_30 : decode cX12_harm 30 = .ok (.iload_n 3, 1) := by decide +kernel
theorem dX12_harm_31 : decode cX12_harm 31 = .ok (.invokestatic 87, 3) := by decide +kernel
theorem dX12_harm_34 : decode cX12_harm 34 = .ok (.ifCond .eq 7, 3) := by decide +kernel
theorem dX12_harm_37 : decode cX12_harm 37 = .ok (.iconst 1, 1) := by decide +kernel
theorem dX12_harm_38 : decode cX12_harm 38 = .ok (.goto 4, 3) := by decide +kernel
theorem dX12_harm_41 : decode cX12_harm 41 = .ok (.iconst 0, 1) := by decide +kernel
theorem dX12_harm_42 : decode cX12_harm 42 = .ok (.istore 4, 2) := by decide +kernel
theorem dX12_harm_44 : decode cX12_harm 44 = .ok (.iload 4, 2) := by decide +kernel
theorem dX12_harm_46 : decode cX12_harm 46 = .ok (.ifCond .eq 34, 3) := by decide +kernel
theorem dX12_harm_49 : decode cX12_harm 49 = .ok (.iload_n 1, 1) := by decide +kernel
theorem dX12_harm_50 : decode cX12_harm 50 = .ok (.iconst (-1), 1) := by decide +kernel
theorem dX12_harm_51 : decode cX12_harm 51 = .ok (.if_icmp .ne 12, 3) := by decide +kernel
theorem dX12_harm_54 : decode cX12_harm 54 = .ok (.aload_n 0, 1) := by decide +kernel
theorem dX12_harm_55 : decode cX12_harm 55 = .ok (.iload_n 2, 1) := by decide +kernel
theorem dX12_harm_56 : decode cX12_harm 56 = .ok (.invokevirtual 186, 3) := by decide +kernel
theorem dX12_harm_59 : decode cX12_harm 59 = .ok (.i2l, 1) := by decide +kernel
theorem dX12_harm_60 : decode cX12_harm 60 = .ok (.goto 10, 3) := by decide +kernel
theorem dX12_harm_63 : decode cX12_harm 63 = .ok (.aload_n 0, 1) := by decide +kernel
theorem dX12_harm_64 : decode cX12_harm 64 = .ok (.iload_n 1, 1) := by decide +kernel
theorem dX12_harm_65 : decode cX12_harm 65 = .ok (.iload_n 2, 1) := by decide +kernel
theorem dX12_harm_66 : decode cX12_harm 66 = .ok (.invokevirtual 189, 3) := by decide +kernel
theorem dX12_harm_69 : decode cX12_harm 69 = .ok (.i2l, 1) := by decide +kernel
theorem dX12_harm_70 : decode cX12_harm 70 = .ok (.ldc2_w 195, 3) := by decide +kernel
theorem dX12_harm_73 : decode cX12_harm 73 = .ok (.iload_n 3, 1) := by decide +kernel
theorem dX12_harm_74 : decode cX12_harm 74 = .ok (.invokestatic 197, 3) := by decide +kernel
theorem dX12_harm_77 : decode cX12_harm 77 = .ok (.goto 8, 3) := by decide +kernel
theorem dX12_harm_80 : decode cX12_harm 80 = .ok (.bipush (-2), 2) := by decide +kernel
theorem dX12_harm_82 : decode cX12_harm 82 = .ok (.invokestatic 201, 3) := by decide +kernel
theorem dX12_harm_85 : decode cX12_harm 85 = .ok (.lreturn, 1) := by decide +kernel
theorem dX12_all_0 : decode cX12_all 0 = .ok (.aload_n 0, 1) := by decide +kernel
theorem dX12_all_1 : decode cX12_all 1 = .ok (.invokevirtual 120, 3) := by decide +kernel
theorem dX12_all_4 : decode cX12_all 4 = .ok (.iload_n 1, 1) := by decide +kernel
theorem dX12_all_5 : decode cX12_all 5 = .ok (.iconst (-1), 1) := by decide +kernel
theorem dX12_all_6 : decode cX12_all 6 = .ok (.if_icmp .eq 11, 3) := by decide +kernel
theorem dX12_all_9 : decode cX12_all 9 = .ok (.aload_n 0, 1) := by decide +kernel
theorem dX12_all_10 : decode cX12_all 10 = .ok (.iload_n 1, 1) := by decide +kernel
theorem dX12_all_11 : decode cX12_all 11 = .ok (.invokevirtual 126, 3) := by decide +kernel
theorem dX12_all_14 : decode cX12_all 14 = .ok (.ifCond .eq 39, 3) := by decide +kernel
theorem dX12_all_17 : decode cX12_all 17 = .ok (.iload_n 2, 1) := by decide +kernel
theorem dX12_all_18 : decode cX12_all 18 = .ok (.invokestatic 87, 3) := by decide +kernel
theorem dX12_all_21 : decode cX12_all 21 = .ok (.ifCond .eq 32, 3) := by decide +kernel
theorem dX12_all_24 : decode cX12_all 24 = .ok (.iload_n 1, 1) := by decide +kernel
theorem dX12_all_25 : decode cX12_all 25 = .ok (.iconst (-1), 1) := by decide +kernel
theorem dX12_all_26 : decode cX12_all 26 = .ok (.if_icmp .ne 11, 3) := by decide +kernel
theorem dX12_all_29 : decode cX12_all 29 = .ok (.aload_n 0, 1) := by decide +kernel
theorem dX12_all_30 : decode cX12_all 30 = .ok (.invokevirtual 205, 3) := by decide +kernel
theorem dX12_all_33 : decode cX12_all 33 = .ok (.i2l, 1) := by decide +kernel
theorem dX12_all_34 : decode cX12_all 34 = .ok (.goto 9, 3) := by decide +kernel
theorem dX12_all_37 : decode cX12_all 37 = .ok (.aload_n 0, 1) := by decide +kernel
theorem dX12_all_38 : decode cX12_all 38 = .ok (.iload_n 1, 1) := by decide +kernel
theorem dX12_all_39 : decode cX12_all 39 = .ok (.invokevirtual 192, 3) := by decide +kernel
theorem dX12_all_42 : decode cX12_all 42 = .ok (.i2l, 1) := by decide +kernel
theorem dX12_all_43 : decode cX12_all 43 = .ok (.ldc2_w 195, 3) := by decide +kernel
theorem dX12_all_46 : decode cX12_all 46 = .ok (.iload_n 2, 1) := by decide +kernel
theorem dX12_all_47 : decode cX12_all 47 = .ok (.invokestatic 197, 3) := by decide +kernel
theorem dX12_all_50 : decode cX12_all 50 = .ok (.goto 8, 3) := by decide +kernel
theorem dX12_all_53 : decode cX12_all 53 = .ok (.bipush (-2), 2) := by decide +kernel
theorem dX12_all_55 : decode cX12_all 55 = .ok (.invokestatic 201, 3) := by decide +kernel
theorem dX12_all_58 : decode cX12_all 58 = .ok (.lreturn, 1) := by decide +kernel
theorem dX12_takes_0 : decode cX12_takes 0 = .ok (.aload_n 0, 1) := by decide +kernel
theorem dX12_takes_1 : decode cX12_takes 1 = .ok (.getfield 106, 3) := by decide +kernel
theorem dX12_takes_4 : decode cX12_takes 4 = .ok (.ifCond .eq 10, 3) := by decide +kernel
theorem dX12_takes_7 : decode cX12_takes 7 = .ok (.aload_n 0, 1) := by decide +kernel
theorem dX12_takes_8 : decode cX12_takes 8 = .ok (.getfield 95, 3) := by decide +kernel
theorem dX12_takes_11 : decode cX12_takes 11 = .ok (.ifCond .ne 7, 3) := by decide +kernel
theorem dX12_takes_14 : decode cX12_takes 14 = .ok (.iconst 0, 1) := by decide +kernel
theorem dX12_takes_15 : decode cX12_takes 15 = .ok (.goto 24, 3) := by decide +kernel
theorem dX12_takes_18 : decode cX12_takes 18 = .ok (.aload_n 0, 1) := by decide +kernel
theorem dX12_takes_19 : decode cX12_takes 19 = .ok (.getfield 106, 3) := by decide +kernel
theorem dX12_takes_22 : decode cX12_takes 22 = .ok (.iconst 1, 1) := by decide +kernel
theorem dX12_takes_23 : decode cX12_takes 23 = .ok (.isub, 1) := by decide +kernel
theorem dX12_takes_24 : decode cX12_takes 24 = .ok (.aload_n 0, 1) := by decide +kernel
theorem dX12_takes_25 : decode cX12_takes 25 = .ok (.getfield 137, 3) := by decide +kernel
theorem dX12_takes_28 : decode cX12_takes 28 = .ok (.imul, 1) := by decide +kernel
theorem dX12_takes_29 : decode cX12_takes 29 = .ok (.aload_n 0, 1) := by decide +kernel
theorem dX12_takes_30 : decode cX12_takes 30 = .ok (.getfield 95, 3) := by decide +kernel
theorem dX12_takes_33 : decode cX12_takes 33 = .ok (.aload_n 0, 1) := by decide +kernel
theorem dX12_takes_34 : decode cX12_takes 34 = .ok (.invokevirtual 152, 3) := by decide +kernel
theorem dX12_takes_37 : decode cX12_takes 37 = .ok (.imul, 1) := by decide +kernel
theorem dX12_takes_38 : decode cX12_takes 38 = .ok (.iadd, 1) := by decide +kernel
theorem dX12_takes_39 : decode cX12_takes 39 = .ok (.ireturn, 1) := by decide +kernel
theorem dX12_endsNow_0 : decode cX12_endsNow 0 = .ok (.aload_n 0, 1) := by decide +kernel
theorem dX12_endsNow_1 : decode cX12_endsNow 1 = .ok (.getfield 44, 3) := by decide +kernel
theorem dX12_endsNow_4 : decode cX12_endsNow 4 = .ok (.iconst 3, 1) := by decide +kernel
theorem dX12_endsNow_5 : decode cX12_endsNow 5 = .ok (.iaload, 1) := by decide +kernel
theorem dX12_endsNow_6 : decode cX12_endsNow 6 = .ok (.aload_n 0, 1) := by decide +kernel
theorem dX12_endsNow_7 : decode cX12_endsNow 7 = .ok (.invokevirtual 208, 3) := by decide +kernel
theorem dX12_endsNow_10 : decode cX12_endsNow 10 = .ok (.iadd, 1) := by decide +kernel
theorem dX12_endsNow_11 : decode cX12_endsNow 11 = .ok (.ireturn, 1) := by decide +kernel
theorem dX12_ends_0 : decode cX12_ends 0 = .ok (.aload_n 0, 1) := by decide +kernel
theorem dX12_ends_1 : decode cX12_ends 1 = .ok (.invokevirtual 120, 3) := by decide +kernel
theorem dX12_ends_4 : decode cX12_ends 4 = .ok (.aload_n 0, 1) := by decide +kernel
theorem dX12_ends_5 : decode cX12_ends 5 = .ok (.invokevirtual 211, 3) := by decide +kernel
theorem dX12_ends_8 : decode cX12_ends 8 = .ok (.ireturn, 1) := by decide +kernel
theorem dX12_latestNow_0 : decode cX12_latestNow 0 = .ok (.aload_n 0, 1) := by decide +kernel
theorem dX12_latestNow_1 : decode cX12_latestNow 1 = .ok (.getfield 44, 3) := by decide +kernel
theorem dX12_latestNow_4 : decode cX12_latestNow 4 = .ok (.iconst 4, 1) := by decide +kernel
theorem dX12_latestNow_5 : decode cX12_latestNow 5 = .ok (.iaload, 1) := by decide +kernel
theorem dX12_latestNow_6 : decode cX12_latestNow 6 = .ok (.aload_n 0, 1) := by decide +kernel
theorem dX12_latestNow_7 : decode cX12_latestNow 7 = .ok (.invokevirtual 208, 3) := by decide +kernel
theorem dX12_latestNow_10 : decode cX12_latestNow 10 = .ok (.isub, 1) := by decide +kernel
theorem dX12_latestNow_11 : decode cX12_latestNow 11 = .ok (.sipush 999, 3) := by decide +kernel
theorem dX12_latestNow_14 : decode cX12_latestNow 14 = .ok (.invokestatic 163, 3) := by decide +kernel
theorem dX12_latestNow_17 : decode cX12_latestNow 17 = .ok (.istore_n 1, 1) := by decide +kernel
theorem dX12_latestNow_18 : decode cX12_latestNow 18 = .ok (.iload_n 1, 1) := by decide +kernel
theorem dX12_latestNow_19 : decode cX12_latestNow 19 = .ok (.ifCond .ge 7, 3) := by decide +kernel
theorem dX12_latestNow_22 : decode cX12_latestNow 22 = .ok (.iconst (-1), 1) := by decide +kernel
theorem dX12_latestNow_23 : decode cX12_latestNow 23 = .ok (.goto 4, 3) := by decide +kernel
theorem dX12_latestNow_26 : decode cX12_latestNow 26 = .ok (.iload_n 1, 1) := by decide +kernel
theorem dX12_latestNow_27 : decode cX12_latestNow 27 = .ok (.ireturn, 1) := by decide +kernel
theorem dX12_latest_0 : decode cX12_latest 0 = .ok (.aload_n 0, 1) := by decide +kernel
theorem dX12_latest_1 : decode cX12_latest 1 = .ok (.invokevirtual 120, 3) := by decide +kernel
theorem dX12_latest_4 : decode cX12_latest 4 = .ok (.aload_n 0, 1) := by decide +kernel
theorem dX12_latest_5 : decode cX12_latest 5 = .ok (.invokevirtual 214, 3) := by decide +kernel
theorem dX12_latest_8 : decode cX12_latest 8 = .ok (.ireturn, 1) := by decide +kernel
theorem dX12_byGap_0 : decode cX12_byGap 0 = .ok (.aload_n 0, 1) := by decide +kernel
theorem dX12_byGap_1 : decode cX12_byGap 1 = .ok (.iload_n 1, 1) := by decide +kernel
theorem dX12_byGap_2 : decode cX12_byGap 2 = .ok (.putfield 137, 3) := by decide +kernel
theorem dX12_byGap_5 : decode cX12_byGap 5 = .ok (.aload_n 0, 1) := by decide +kernel
theorem dX12_byGap_6 : decode cX12_byGap 6 = .ok (.invokevirtual 205, 3) := by decide +kernel
theorem dX12_byGap_9 : decode cX12_byGap 9 = .ok (.istore_n 2, 1) := by decide +kernel
theorem dX12_byGap_10 : decode cX12_byGap 10 = .ok (.aload_n 0, 1) := by decide +kernel
theorem dX12_byGap_11 : decode cX12_byGap 11 = .ok (.aload_n 0, 1) := by decide +kernel
theorem dX12_byGap_12 : decode cX12_byGap 12 = .ok (.getfield 44, 3) := by decide +kernel
theorem dX12_byGap_15 : decode cX12_byGap 15 = .ok (.iconst 0, 1) := by decide +kernel
theorem dX12_byGap_16 : decode cX12_byGap 16 = .ok (.iaload, 1) := by decide +kernel
theorem dX12_byGap_17 : decode cX12_byGap 17 = .ok (.putfield 137, 3) := by decide +kernel
theorem dX12_byGap_20 : decode cX12_byGap 20 = .ok (.iload_n 2, 1) := by decide +kernel
theorem dX12_byGap_21 : decode cX12_byGap 21 = .ok (.ireturn, 1) := by decide +kernel
theorem dX12_curve_0 : decode cX12_curve 0 = .ok (.aload_n 0, 1) := by decide +kernel
theorem dX12_curve_1 : decode cX12_curve 1 = .ok (.invokevirtual 120, 3) := by decide +kernel
theorem dX12_curve_4 : decode cX12_curve 4 = .ok (.iload_n 1, 1) := by decide +kernel
theorem dX12_curve_5 : decode cX12_curve 5 = .ok (.i2l, 1) := by decide +kernel
theorem dX12_curve_6 : decode cX12_curve 6 = .ok (.lconst 0, 1) := by decide +kernel
theorem dX12_curve_7 : decode cX12_curve 7 = .ok (.ldc2_w 217, 3) := by decide +kernel
theorem dX12_curve_10 : decode cX12_curve 10 = .ok (.invokestatic 58, 3) := by decide +kernel
theorem dX12_curve_13 : decode cX12_curve 13 = .ok (.ifCond .eq 26, 3) := by decide +kernel
theorem dX12_curve_16 : decode cX12_curve 16 = .ok (.iload_n 2, 1) := by decide +kernel
theorem dX12_curve_17 : decode cX12_curve 17 = .ok (.invokestatic 87, 3) := by decide +kernel
theorem dX12_curve_20 : decode cX12_curve 20 = .ok (.ifCond .eq 19, 3) := by decide +kernel
theorem dX12_curve_23 : decode cX12_curve 23 = .ok (.aload_n 0, 1) := by decide +kernel
theorem dX12_curve_24 : decode cX12_curve 24 = .ok (.iload_n 1, 1) := by decide +kernel
theorem dX12_curve_25 : decode cX12_curve 25 = .ok (.invokevirtual 219, 3) := by decide +kernel
theorem dX12_curve_28 : decode cX12_curve 28 = .ok (.i2l, 1) := by decide +kernel
theorem dX12_curve_29 : decode cX12_curve 29 = .ok (.ldc2_w 195, 3) := by decide +kernel
theorem dX12_curve_32 : decode cX12_curve 32 = .ok (.iload_n 2, 1) := by decide +kernel
theorem dX12_curve_33 : decode cX12_curve 33 = .ok (.invokestatic 197, 3) := by decide +kernel
theorem dX12_curve_36 : decode cX12_curve 36 = .ok (.goto 8, 3) := by decide +kernel
theorem dX12_curve_39 : decode cX12_curve 39 = .ok (.bipush (-2), 2) := by decide +kernel
theorem dX12_curve_41 : decode cX12_curve 41 = .ok (.invokestatic 201, 3) := by decide +kernel
theorem dX12_curve_44 : decode cX12_curve 44 = .ok (.lreturn, 1) := by decide +kernel
theorem dX12_gapOf_0 : decode cX12_gapOf 0 = .ok (.iconst 0, 1) := by decide +kernel
theorem dX12_gapOf_1 : decode cX12_gapOf 1 = .ok (.istore_n 2, 1) := by decide +kernel
theorem dX12_gapOf_2 : decode cX12_gapOf 2 = .ok (.aload_n 0, 1) := by decide +kernel
theorem dX12_gapOf_3 : decode cX12_gapOf 3 = .ok (.iconst 0, 1) := by decide +kernel
theorem dX12_gapOf_4 : decode cX12_gapOf 4 = .ok (.invokevirtual 219, 3) := by decide +kernel
theorem dX12_gapOf_7 : decode cX12_gapOf 7 = .ok (.istore_n 3, 1) := by decide +kernel
theorem dX12_gapOf_8 : decode cX12_gapOf 8 = .ok (.iconst 1, 1) := by decide +kernel
theorem dX12_gapOf_9 : decode cX12_gapOf 9 = .ok (.istore 4, 2) := by decide +kernel
theorem dX12_gapOf_11 : decode cX12_gapOf 11 = .ok (.iload 4, 2) := by decide +kernel
theorem dX12_gapOf_13 : decode cX12_gapOf 13 = .ok (.iload_n 1, 1) := by decide +kernel
theorem dX12_gapOf_14 : decode cX12_gapOf 14 = .ok (.if_icmp .gt 37, 3) := by decide +kernel
theorem dX12_gapOf_17 : decode cX12_gapOf 17 = .ok (.aload_n 0, 1) := by decide +kernel
theorem dX12_gapOf_18 : decode cX12_gapOf 18 = .ok (.iload 4, 2) := by decide +kernel
theorem dX12_gapOf_20 : decode cX12_gapOf 20 = .ok (.invokevirtual 219, 3) := by decide +kernel
theorem dX12_gapOf_23 : decode cX12_gapOf 23 = .ok (.istore 5, 2) := by decide +kernel
theorem dX12_gapOf_25 : decode cX12_gapOf 25 = .ok (.iload 5, 2) := by decide +kernel
theorem dX12_gapOf_27 : decode cX12_gapOf 27 = .ok (.iload_n 3, 1) := by decide +kernel
theorem dX12_gapOf_28 : decode cX12_gapOf 28 = .ok (.if_icmp .ge 8, 3) := by decide +kernel
theorem dX12_gapOf_31 : decode cX12_gapOf 31 = .ok (.iload 4, 2) := by decide +kernel
theorem dX12_gapOf_33 : decode cX12_gapOf 33 = .ok (.goto 4, 3) := by decide +kernel
theorem dX12_gapOf_36 : decode cX12_gapOf 36 = .ok (.iload_n 2, 1) := by decide +kernel
theorem dX12_gapOf_37 : decode cX12_gapOf 37 = .ok (.istore_n 2, 1) := by decide +kernel
theorem dX12_gapOf_38 : decode cX12_gapOf 38 = .ok (.iload 5, 2) := by decide +kernel
theorem dX12_gapOf_40 : decode cX12_gapOf 40 = .ok (.iload_n 3, 1) := by decide +kernel
theorem dX12_gapOf_41 : decode cX12_gapOf 41 = .ok (.invokestatic 163, 3) := by decide +kernel
theorem dX12_gapOf_44 : decode cX12_gapOf 44 = .ok (.istore_n 3, 1) := by decide +kernel
theorem dX12_gapOf_45 : decode cX12_gapOf 45 = .ok (.iinc 4 1, 3) := by decide +kernel
theorem dX12_gapOf_48 : decode cX12_gapOf 48 = .ok (.goto (-37), 3) := by decide +kernel
theorem dX12_gapOf_51 : decode cX12_gapOf 51 = .ok (.iload_n 2, 1) := by decide +kernel
theorem dX12_gapOf_52 : decode cX12_gapOf 52 = .ok (.ireturn, 1) := by decide +kernel
theorem dX12_gap_0 : decode cX12_gap 0 = .ok (.aload_n 0, 1) := by decide +kernel
theorem dX12_gap_1 : decode cX12_gap 1 = .ok (.invokevirtual 120, 3) := by decide +kernel
theorem dX12_gap_4 : decode cX12_gap 4 = .ok (.iload_n 1, 1) := by decide +kernel
theorem dX12_gap_5 : decode cX12_gap 5 = .ok (.i2l, 1) := by decide +kernel
theorem dX12_gap_6 : decode cX12_gap 6 = .ok (.lconst 0, 1) := by decide +kernel
theorem dX12_gap_7 : decode cX12_gap 7 = .ok (.ldc2_w 217, 3) := by decide +kernel
theorem dX12_gap_10 : decode cX12_gap 10 = .ok (.invokestatic 58, 3) := by decide +kernel
theorem dX12_gap_13 : decode cX12_gap 13 = .ok (.ifCond .eq 11, 3) := by decide +kernel
theorem dX12_gap_16 : decode cX12_gap 16 = .ok (.aload_n 0, 1) := by decide +kernel
theorem dX12_gap_17 : decode cX12_gap 17 = .ok (.iload_n 1, 1) := by decide +kernel
theorem dX12_gap_18 : decode cX12_gap 18 = .ok (.invokevirtual 222, 3) := by decide +kernel
theorem dX12_gap_21 : decode cX12_gap 21 = .ok (.goto 5, 3) := by decide +kernel
theorem dX12_gap_24 : decode cX12_gap 24 = .ok (.bipush (-2), 2) := by decide +kernel
theorem dX12_gap_26 : decode cX12_gap 26 = .ok (.ireturn, 1) := by decide +kernel
theorem dX12_unfolds_0 : decode cX12_unfolds 0 = .ok (.iload_n 1, 1) := by decide +kernel
theorem dX12_unfolds_1 : decode cX12_unfolds 1 = .ok (.istore_n 2, 1) := by decide +kernel
theorem dX12_unfolds_2 : decode cX12_unfolds 2 = .ok (.aload_n 0, 1) := by decide +kernel
theorem dX12_unfolds_3 : decode cX12_unfolds 3 = .ok (.getfield 106, 3) := by decide +kernel
theorem dX12_unfolds_6 : decode cX12_unfolds 6 = .ok (.iconst 1, 1) := by decide +kernel
theorem dX12_unfolds_7 : decode cX12_unfolds 7 = .ok (.isub, 1) := by decide +kernel
theorem dX12_unfolds_8 : decode cX12_unfolds 8 = .ok (.istore_n 3, 1) := by decide +kernel
theorem dX12_unfolds_9 : decode cX12_unfolds 9 = .ok (.iload_n 3, 1) := by decide +kernel
theorem dX12_unfolds_10 : decode cX12_unfolds 10 = .ok (.ifCond .lt 32, 3) := by decide +kernel
theorem dX12_unfolds_13 : decode cX12_unfolds 13 = .ok (.aload_n 0, 1) := by decide +kernel
theorem dX12_unfolds_14 : decode cX12_unfolds 14 = .ok (.getfield 47, 3) := by decide +kernel
theorem dX12_unfolds_17 : decode cX12_unfolds 17 = .ok (.iload_n 3, 1) := by decide +kernel
theorem dX12_unfolds_18 : decode cX12_unfolds 18 = .ok (.iload_n 2, 1) := by decide +kernel
theorem dX12_unfolds_19 : decode cX12_unfolds 19 = .ok (.aload_n 0, 1) := by decide +kernel
theorem dX12_unfolds_20 : decode cX12_unfolds 20 = .ok (.getfield 106, 3) := by decide +kernel
theorem dX12_unfolds_23 : decode cX12_unfolds 23 = .ok (.iload_n 3, 1) := by decide +kernel
theorem dX12_unfolds_24 : decode cX12_unfolds 24 = .ok (.isub, 1) := by decide +kernel
theorem dX12_unfolds_25 : decode cX12_unfolds 25 = .ok (.irem, 1) := by decide +kernel
theorem dX12_unfolds_26 : decode cX12_unfolds 26 = .ok (.iastore, 1) := by decide +kernel
theorem dX12_unfolds_27 : decode cX12_unfolds 27 = .ok (.iload_n 2, 1) := by decide +kernel
theorem dX12_unfolds_28 : decode cX12_unfolds 28 = .ok (.aload_n 0, 1) := by decide +kernel
theorem dX12_unfolds_29 : decode cX12_unfolds 29 = .ok (.getfield 106, 3) := by decide +kernel
theorem dX12_unfolds_32 : decode cX12_unfolds 32 = .ok (.iload_n 3, 1) := by decide +kernel
theorem dX12_unfolds_33 : decode cX12_unfolds 33 = .ok (.isub, 1) := by decide +kernel
theorem dX12_unfolds_34 : decode cX12_unfolds 34 = .ok (.idiv, 1) := by decide +kernel
theorem dX12_unfolds_35 : decode cX12_unfolds 35 = .ok (.istore_n 2, 1) := by decide +kernel
theorem dX12_unfolds_36 : decode cX12_unfolds 36 = .ok (.iinc 3 (-1), 3) := by decide +kernel
theorem dX12_unfolds_39 : decode cX12_unfolds 39 = .ok (.goto (-30), 3) := by decide +kernel
theorem dX12_unfolds_42 : decode cX12_unfolds 42 = .ok (.aload_n 0, 1) := by decide +kernel
theorem dX12_unfolds_43 : decode cX12_unfolds 43 = .ok (.getfield 106, 3) := by decide +kernel
theorem dX12_unfolds_46 : decode cX12_unfolds 46 = .ok (.iconst 1, 1) := by decide +kernel
theorem dX12_unfolds_47 : decode cX12_unfolds 47 = .ok (.isub, 1) := by decide +kernel
theorem dX12_unfolds_48 : decode cX12_unfolds 48 = .ok (.istore_n 3, 1) := by decide +kernel
theorem dX12_unfolds_49 : decode cX12_unfolds 49 = .ok (.iload_n 3, 1) := by decide +kernel
theorem dX12_unfolds_50 : decode cX12_unfolds 50 = .ok (.ifCond .lt 60, 3) := by decide +kernel
theorem dX12_unfolds_53 : decode cX12_unfolds 53 = .ok (.iload_n 3, 1) := by decide +kernel
theorem dX12_unfolds_54 : decode cX12_unfolds 54 = .ok (.iconst 1, 1) := by decide +kernel
theorem dX12_unfolds_55 : decode cX12_unfolds 55 = .ok (.iadd, 1) := by decide +kernel
theorem dX12_unfolds_56 : decode cX12_unfolds 56 = .ok (.istore 4, 2) := by decide +kernel
theorem dX12_unfolds_58 : decode cX12_unfolds 58 = .ok (.iload 4, 2) := by decide +kernel
theorem dX12_unfolds_60 : decode cX12_unfolds 60 = .ok (.aload_n 0, 1) := by decide +kernel
theorem dX12_unfolds_61 : decode cX12_unfolds 61 = .ok (.getfield 106, 3) := by decide +kernel
theorem dX12_unfolds_64 : decode cX12_unfolds 64 = .ok (.if_icmp .ge 40, 3) := by decide +kernel
theorem dX12_unfolds_67 : decode cX12_unfolds 67 = .ok (.aload_n 0, 1) := by decide +kernel
theorem dX12_unfolds_68 : decode cX12_unfolds 68 = .ok (.getfield 47, 3) := by decide +kernel
theorem dX12_unfolds_71 : decode cX12_unfolds 71 = .ok (.iload 4, 2) := by decide +kernel
theorem dX12_unfolds_73 : decode cX12_unfolds 73 = .ok (.dup2, 1) := by decide +kernel
theorem dX12_unfolds_74 : decode cX12_unfolds 74 = .ok (.iaload, 1) := by decide +kernel
theorem dX12_unfolds_75 : decode cX12_unfolds 75 = .ok (.aload_n 0, 1) := by decide +kernel
theorem dX12_unfolds_76 : decode cX12_unfolds 76 = .ok (.getfield 47, 3) := by decide +kernel
theorem dX12_unfolds_79 : decode cX12_unfolds 79 = .ok (.iload 4, 2) := by decide +kernel
theorem dX12_unfolds_81 : decode cX12_unfolds 81 = .ok (.iaload, 1) := by decide +kernel
theorem dX12_unfolds_82 : decode cX12_unfolds 82 = .ok (.aload_n 0, 1) := by decide +kernel
theorem dX12_unfolds_83 : decode cX12_unfolds 83 = .ok (.getfield 47, 3) := by decide +kernel
theorem dX12_unfolds_86 : decode cX12_unfolds 86 = .ok (.iload_n 3, 1) := by decide +kernel
theorem dX12_unfolds_87 : decode cX12_unfolds 87 = .ok (.iaload, 1) := by decide +kernel
theorem dX12_unfolds_88 : decode cX12_unfolds 88 = .ok (.if_icmp .lt 7, 3) := by decide +kernel
theorem dX12_unfolds_91 : decode cX12_unfolds 91 = .ok (.iconst 1, 1) := by decide +kernel
theorem dX12_unfolds_92 : decode cX12_unfolds 92 = .ok (.goto 4, 3) := by decide +kernel
theorem dX12_unfolds_95 : decode cX12_unfolds 95 = .ok (.iconst 0, 1) := by decide +kernel
theorem dX12_unfolds_96 : decode cX12_unfolds 96 = .ok (.iadd, 1) := by decide +kernel
theorem dX12_unfolds_97 : decode cX12_unfolds 97 = .ok (.iastore, 1) := by decide +kernel
theorem dX12_unfolds_98 : decode cX12_unfolds 98 = .ok (.iinc 4 1, 3) := by decide +kernel
theorem dX12_unfolds_101 : decode cX12_unfolds 101 = .ok (.goto (-43), 3) := by decide +kernel
theorem dX12_unfolds_104 : decode cX12_unfolds 104 = .ok (.iinc 3 (-1), 3) := by decide +kernel
theorem dX12_unfolds_107 : decode cX12_unfolds 107 = .ok (.goto (-58), 3) := by decide +kernel
theorem dX12_unfolds_110 : decode cX12_unfolds 110 = .ok (.return_, 1) := by decide +kernel
theorem dX12_findOrder_0 : decode cX12_findOrder 0 = .ok (.iconst 1, 1) := by decide +kernel
theorem dX12_findOrder_1 : decode cX12_findOrder 1 = .ok (.istore_n 1, 1) := by decide +kernel
theorem dX12_findOrder_2 : decode cX12_findOrder 2 = .ok (.iconst 2, 1) := by decide +kernel
theorem dX12_findOrder_3 : decode cX12_findOrder 3 = .ok (.istore_n 2, 1) := by decide +kernel
theorem dX12_findOrder_4 : decode cX12_findOrder 4 = .ok (.iload_n 2, 1) := by decide +kernel
theorem dX12_findOrder_5 : decode cX12_findOrder 5 = .ok (.aload_n 0, 1) := by decide +kernel
theorem dX12_findOrder_6 : decode cX12_findOrder 6 = .ok (.getfield 106, 3) := by decide +kernel
theorem dX12_findOrder_9 : decode cX12_findOrder 9 = .ok (.if_icmp .gt 13, 3) := by decide +kernel
theorem dX12_findOrder_12 : decode cX12_findOrder 12 = .ok (.iload_n 1, 1) := by decide +kernel
theorem dX12_findOrder_13 : decode cX12_findOrder 13 = .ok (.iload_n 2, 1) := by decide +kernel
theorem dX12_findOrder_14 : decode cX12_findOrder 14 = .ok (.imul, 1) := by decide +kernel
theorem dX12_findOrder_15 : decode cX12_findOrder 15 = .ok (.istore_n 1, 1) := by decide +kernel
theorem dX12_findOrder_16 : decode cX12_findOrder 16 = .ok (.iinc 2 1, 3) := by decide +kernel
theorem dX12_findOrder_19 : decode cX12_findOrder 19 = .ok (.goto (-15), 3) := by decide +kernel
theorem dX12_findOrder_22 : decode cX12_findOrder 22 = .ok (.iconst (-1), 1) := by decide +kernel
theorem dX12_findOrder_23 : decode cX12_findOrder 23 = .ok (.istore_n 2, 1) := by decide +kernel
theorem dX12_findOrder_24 : decode cX12_findOrder 24 = .ok (.iconst 0, 1) := by decide +kernel
theorem dX12_findOrder_25 : decode cX12_findOrder 25 = .ok (.istore_n 3, 1) := by decide +kernel
theorem dX12_findOrder_26 : decode cX12_findOrder 26 = .ok (.iload_n 3, 1) := by decide +kernel
theorem dX12_findOrder_27 : decode cX12_findOrder 27 = .ok (.iload_n 1, 1) := by decide +kernel
theorem dX12_findOrder_28 : decode cX12_findOrder 28 = .ok (.if_icmp .ge 66, 3) := by decide +kernel
theorem dX12_findOrder_31 : decode cX12_findOrder 31 = .ok (.aload_n 0, 1) := by decide +kernel
theorem dX12_findOrder_32 : decode cX12_findOrder 32 = .ok (.iload_n 3, 1) := by decide +kernel
theorem dX12_findOrder_33 : decode cX12_findOrder 33 = .ok (.invokevirtual 225, 3) := by decide +kernel
theorem dX12_findOrder_36 : decode cX12_findOrder 36 = .ok (.aload_n 0, 1) := by decide +kernel
theorem dX12_findOrder_37 : decode cX12_findOrder 37 = .ok (.invokevirtual 205, 3) := by decide +kernel
theorem dX12_findOrder_40 : decode cX12_findOrder 40 = .ok (.istore 4, 2) := by decide +kernel
theorem dX12_findOrder_42 : decode cX12_findOrder 42 = .ok (.iload_n 2, 1) := by decide +kernel
theorem dX12_findOrder_43 : decode cX12_findOrder 43 = .ok (.iconst (-1), 1) := by decide +kernel
theorem dX12_findOrder_44 : decode cX12_findOrder 44 = .ok (.if_icmp .eq 9, 3) := by decide +kernel
theorem dX12_findOrder_47 : decode cX12_findOrder 47 = .ok (.iload 4, 2) := by decide +kernel
theorem dX12_findOrder_49 : decode cX12_findOrder 49 = .ok (.iload_n 2, 1) := by decide +kernel
theorem dX12_findOrder_50 : decode cX12_findOrder 50 = .ok (.if_icmp .ge 38, 3) := by decide +kernel
theorem dX12_findOrder_53 : decode cX12_findOrder 53 = .ok (.iload 4, 2) := by decide +kernel
theorem dX12_findOrder_55 : decode cX12_findOrder 55 = .ok (.istore_n 2, 1) := by decide +kernel
theorem dX12_findOrder_56 : decode cX12_findOrder 56 = .ok (.iconst 0, 1) := by decide +kernel
theorem dX12_findOrder_57 : decode cX12_findOrder 57 = .ok (.istore 5, 2) := by decide +kernel
theorem dX12_findOrder_59 : decode cX12_findOrder 59 = .ok (.iload 5, 2) := by decide +kernel
theorem dX12_findOrder_61 : decode cX12_findOrder 61 = .ok (.aload_n 0, 1) := by decide +kernel
theorem dX12_findOrder_62 : decode cX12_findOrder 62 = .ok (.getfield 106, 3) := by decide +kernel
theorem dX12_findOrder_65 : decode cX12_findOrder 65 = .ok (.if_icmp .ge 23, 3) := by decide +kernel
theorem dX12_findOrder_68 : decode cX12_findOrder 68 = .ok (.aload_n 0, 1) := by decide +kernel
theorem dX12_findOrder_69 : decode cX12_findOrder 69 = .ok (.getfield 50, 3) := by decide +kernel
theorem dX12_findOrder_72 : decode cX12_findOrder 72 = .ok (.iload 5, 2) := by decide +kernel
theorem dX12_findOrder_74 : decode cX12_findOrder 74 = .ok (.aload_n 0, 1) := by decide +kernel
theorem dX12_findOrder_75 : decode cX12_findOrder 75 = .ok (.getfield 47, 3) := by decide +kernel
theorem dX12_findOrder_78 : decode cX12_findOrder 78 = .ok (.iload 5, 2) := by decide +kernel
theorem dX12_findOrder_80 : decode cX12_findOrder 80 = .ok (.iaload, 1) := by decide +kernel
theorem dX12_findOrder_81 : decode cX12_findOrder 81 = .ok (.iastore, 1) := by decide +kernel
theorem dX12_findOrder_82 : decode cX12_findOrder 82 = .ok (.iinc 5 1, 3) := by decide +kernel
theorem dX12_findOrder_85 : decode cX12_findOrder 85 = .ok (.goto (-26), 3) := by decide +kernel
theorem dX12_findOrder_88 : decode cX12_findOrder 88 = .ok (.iinc 3 1, 3) := by decide +kernel
theorem dX12_findOrder_91 : decode cX12_findOrder 91 = .ok (.goto (-65), 3) := by decide +kernel
theorem dX12_findOrder_94 : decode cX12_findOrder 94 = .ok (.aload_n 0, 1) := by decide +kernel
theorem dX12_findOrder_95 : decode cX12_findOrder 95 = .ok (.invokevirtual 146, 3) := by decide +kernel
theorem dX12_findOrder_98 : decode cX12_findOrder 98 = .ok (.iload_n 2, 1) := by decide +kernel
theorem dX12_findOrder_99 : decode cX12_findOrder 99 = .ok (.ireturn, 1) := by decide +kernel
theorem dX12_order_0 : decode cX12_order 0 = .ok (.aload_n 0, 1) := by decide +kernel
theorem dX12_order_1 : decode cX12_order 1 = .ok (.invokevirtual 120, 3) := by decide +kernel
theorem dX12_order_4 : decode cX12_order 4 = .ok (.iload_n 1, 1) := by decide +kernel
theorem dX12_order_5 : decode cX12_order 5 = .ok (.i2l, 1) := by decide +kernel
theorem dX12_order_6 : decode cX12_order 6 = .ok (.lconst 0, 1) := by decide +kernel
theorem dX12_order_7 : decode cX12_order 7 = .ok (.ldc2_w 132, 3) := by decide +kernel
theorem dX12_order_10 : decode cX12_order 10 = .ok (.invokestatic 58, 3) := by decide +kernel
theorem dX12_order_13 : decode cX12_order 13 = .ok (.ifCond .ne 6, 3) := by decide +kernel
theorem dX12_order_16 : decode cX12_order 16 = .ok (.bipush (-2), 2) := by decide +kernel
theorem dX12_order_18 : decode cX12_order 18 = .ok (.ireturn, 1) := by decide +kernel
theorem dX12_order_19 : decode cX12_order 19 = .ok (.aload_n 0, 1) := by decide +kernel
theorem dX12_order_20 : decode cX12_order 20 = .ok (.invokevirtual 229, 3) := by decide +kernel
theorem dX12_order_23 : decode cX12_order 23 = .ok (.pop, 1) := by decide +kernel
theorem dX12_order_24 : decode cX12_order 24 = .ok (.iload_n 1, 1) := by decide +kernel
theorem dX12_order_25 : decode cX12_order 25 = .ok (.aload_n 0, 1) := by decide +kernel
theorem dX12_order_26 : decode cX12_order 26 = .ok (.getfield 106, 3) := by decide +kernel
theorem dX12_order_29 : decode cX12_order 29 = .ok (.if_icmp .ge 12, 3) := by decide +kernel
theorem dX12_order_32 : decode cX12_order 32 = .ok (.aload_n 0, 1) := by decide +kernel
theorem dX12_order_33 : decode cX12_order 33 = .ok (.getfield 50, 3) := by decide +kernel
theorem dX12_order_36 : decode cX12_order 36 = .ok (.iload_n 1, 1) := by decide +kernel
theorem dX12_order_37 : decode cX12_order 37 = .ok (.iaload, 1) := by decide +kernel
theorem dX12_order_38 : decode cX12_order 38 = .ok (.goto 4, 3) := by decide +kernel
theorem dX12_order_41 : decode cX12_order 41 = .ok (.iconst (-1), 1) := by decide +kernel
theorem dX12_order_42 : decode cX12_order 42 = .ok (.ireturn, 1) := by decide +kernel
theorem dX12_ordered_0 : decode cX12_ordered 0 = .ok (.aload_n 0, 1) := by decide +kernel
theorem dX12_ordered_1 : decode cX12_ordered 1 = .ok (.invokevirtual 120, 3) := by decide +kernel
theorem dX12_ordered_4 : decode cX12_ordered 4 = .ok (.iload_n 1, 1) := by decide +kernel
theorem dX12_ordered_5 : decode cX12_ordered 5 = .ok (.invokestatic 87, 3) := by decide +kernel
theorem dX12_ordered_8 : decode cX12_ordered 8 = .ok (.ifCond .eq 18, 3) := by decide +kernel
theorem dX12_ordered_11 : decode cX12_ordered 11 = .ok (.aload_n 0, 1) := by decide +kernel
theorem dX12_ordered_12 : decode cX12_ordered 12 = .ok (.invokevirtual 229, 3) := by decide +kernel
theorem dX12_ordered_15 : decode cX12_ordered 15 = .ok (.i2l, 1) := by decide +kernel
theorem dX12_ordered_16 : decode cX12_ordered 16 = .ok (.ldc2_w 195, 3) := by decide +kernel
theorem dX12_ordered_19 : decode cX12_ordered 19 = .ok (.iload_n 1, 1) := by decide +kernel
theorem dX12_ordered_20 : decode cX12_ordered 20 = .ok (.invokestatic 197, 3) := by decide +kernel
theorem dX12_ordered_23 : decode cX12_ordered 23 = .ok (.goto 8, 3) := by decide +kernel
theorem dX12_ordered_26 : decode cX12_ordered 26 = .ok (.bipush (-2), 2) := by decide +kernel
theorem dX12_ordered_28 : decode cX12_ordered 28 = .ok (.invokestatic 201, 3) := by decide +kernel
theorem dX12_ordered_31 : decode cX12_ordered 31 = .ok (.lreturn, 1) := by decide +kernel
theorem dX12_findHelmets_0 : decode cX12_findHelmets 0 = .ok (.iconst (-1), 1) := by decide +kernel
theorem dX12_findHelmets_1 : decode cX12_findHelmets 1 = .ok (.istore_n 2, 1) := by decide +kernel
theorem dX12_findHelmets_2 : decode cX12_findHelmets 2 = .ok (.iconst 0, 1) := by decide +kernel
theorem dX12_findHelmets_3 : decode cX12_findHelmets 3 = .ok (.istore_n 3, 1) := by decide +kernel
theorem dX12_findHelmets_4 : decode cX12_findHelmets 4 = .ok (.iload_n 3, 1) := by decide +kernel
theorem dX12_findHelmets_5 : decode cX12_findHelmets 5 = .ok (.iconst 1, 1) := by decide +kernel
theorem dX12_findHelmets_6 : decode cX12_findHelmets 6 = .ok (.aload_n 0, 1) := by decide +kernel
theorem dX12_findHelmets_7 : decode cX12_findHelmets 7 = .ok (.getfield 106, 3) := by decide +kernel
theorem dX12_findHelmets_10 : decode cX12_findHelmets 10 = .ok (.ishl, 1) := by decide +kernel
theorem dX12_findHelmets_11 : decode cX12_findHelmets 11 = .ok (.if_icmp .ge 78, 3) := by decide +kernel
theorem dX12_findHelmets_14 : decode cX12_findHelmets 14 = .ok (.iload_n 3, 1) := by decide +kernel
theorem dX12_findHelmets_15 : decode cX12_findHelmets 15 = .ok (.invokestatic 232, 3) := by decide +kernel
theorem dX12_findHelmets_18 : decode cX12_findHelmets 18 = .ok (.iload_n 1, 1) := by decide +kernel
theorem dX12_findHelmets_19 : decode cX12_findHelmets 19 = .ok (.if_icmp .ne 64, 3) := by decide +kernel
theorem dX12_findHelmets_22 : decode cX12_findHelmets 22 = .ok (.aload_n 0, 1) := by decide +kernel
theorem dX12_findHelmets_23 : decode cX12_findHelmets 23 = .ok (.iload_n 3, 1) := by decide +kernel
theorem dX12_findHelmets_24 : decode cX12_findHelmets 24 = .ok (.putfield 143, 3) := by decide +kernel
theorem dX12_findHelmets_27 : decode cX12_findHelmets 27 = .ok (.aload_n 0, 1) := by decide +kernel
theorem dX12_findHelmets_28 : decode cX12_findHelmets 28 = .ok (.invokevirtual 205, 3) := by decide +kernel
theorem dX12_findHelmets_31 : decode cX12_findHelmets 31 = .ok (.istore 4, 2) := by decide +kernel
theorem dX12_findHelmets_33 : decode cX12_findHelmets 33 = .ok (.iload_n 2, 1) := by decide +kernel
theorem dX12_findHelmets_34 : decode cX12_findHelmets 34 = .ok (.iconst (-1), 1) := by decide +kernel
theorem dX12_findHelmets_35 : decode cX12_findHelmets 35 = .ok (.if_icmp .eq 12, 3) := by decide +kernel
theorem dX12_findHelmets_38 : decode cX12_findHelmets 38 = .ok (.iload 4, 2) := by decide +kernel
theorem dX12_findHelmets_40 : decode cX12_findHelmets 40 = .ok (.aload_n 0, 1) := by decide +kernel
theorem dX12_findHelmets_41 : decode cX12_findHelmets 41 = .ok (.getfield 235, 3) := by decide +kernel
theorem dX12_findHelmets_44 : decode cX12_findHelmets 44 = .ok (.if_icmp .ge 7, 3) := by decide +kernel
theorem dX12_findHelmets_47 : decode cX12_findHelmets 47 = .ok (.iconst 1, 1) := by decide +kernel
theorem dX12_findHelmets_48 : decode cX12_findHelmets 48 = .ok (.goto 4, 3) := by decide +kernel
theorem dX12_findHelmets_51 : decode cX12_findHelmets 51 = .ok (.iconst 0, 1) := by decide +kernel
theorem dX12_findHelmets_52 : decode cX12_findHelmets 52 = .ok (.istore 5, 2) := by decide +kernel
theorem dX12_findHelmets_54 : decode cX12_findHelmets 54 = .ok (.iload 5, 2) := by decide +kernel
theorem dX12_findHelmets_56 : decode cX12_findHelmets 56 = .ok (.ifCond .eq 7, 3) := by decide +kernel
theorem dX12_findHelmets_59 : decode cX12_findHelmets 59 = .ok (.iload_n 3, 1) := by decide +kernel
theorem dX12_findHelmets_60 : decode cX12_findHelmets 60 = .ok (.goto 4, 3) := by decide +kernel
theorem dX12_findHelmets_63 : decode cX12_findHelmets 63 = .ok (.iload_n 2, 1) := by decide +kernel
theorem dX12_findHelmets_64 : decode cX12_findHelmets 64 = .ok (.istore_n 2, 1) := by decide +kernel
theorem dX12_findHelmets_65 : decode cX12_findHelmets 65 = .ok (.aload_n 0, 1) := by decide +kernel
theorem dX12_findHelmets_66 : decode cX12_findHelmets 66 = .ok (.iload 5, 2) := by decide +kernel
theorem dX12_findHelmets_68 : decode cX12_findHelmets 68 = .ok (.ifCond .eq 8, 3) := by decide +kernel
theorem dX12_findHelmets_71 : decode cX12_findHelmets 71 = .ok (.iload 4, 2) := by decide +kernel
theorem dX12_findHelmets_73 : decode cX12_findHelmets 73 = .ok (.goto 7, 3) := by decide +kernel
theorem dX12_findHelmets_76 : decode cX12_findHelmets 76 = .ok (.aload_n 0, 1) := by decide +kernel
theorem dX12_findHelmets_77 : decode cX12_findHelmets 77 = .ok (.getfield 235, 3) := by decide +kernel
theorem dX12_findHelmets_80 : decode cX12_findHelmets 80 = .ok (.putfield 235, 3) := by decide +kernel
theorem dX12_findHelmets_83 : decode cX12_findHelmets 83 = .ok (.iinc 3 1, 3) := by decide +kernel
theorem dX12_findHelmets_86 : decode cX12_findHelmets 86 = .ok (.goto (-82), 3) := by decide +kernel
theorem dX12_findHelmets_89 : decode cX12_findHelmets 89 = .ok (.aload_n 0, 1) := by decide +kernel
theorem dX12_findHelmets_90 : decode cX12_findHelmets 90 = .ok (.invokevirtual 146, 3) := by decide +kernel
theorem dX12_findHelmets_93 : decode cX12_findHelmets 93 = .ok (.iload_n 2, 1) := by decide +kernel
theorem dX12_findHelmets_94 : decode cX12_findHelmets 94 = .ok (.ireturn, 1) := by decide +kernel
theorem dX12_tellsHelmets_0 : decode cX12_tellsHelmets 0 = .ok (.iload_n 2, 1) := by decide +kernel
theorem dX12_tellsHelmets_1 : decode cX12_tellsHelmets 1 = .ok (.ifCond .ne 8, 3) := by decide +kernel
theorem dX12_tellsHelmets_4 : decode cX12_tellsHelmets 4 = .ok (.iload_n 1, 1) := by decide +kernel
theorem dX12_tellsHelmets_5 : decode cX12_tellsHelmets 5 = .ok (.i2l, 1) := by decide +kernel
theorem dX12_tellsHelmets_6 : decode cX12_tellsHelmets 6 = .ok (.goto 17, 3) := by decide +kernel
theorem dX12_tellsHelmets_9 : decode cX12_tellsHelmets 9 = .ok (.aload_n 0, 1) := by decide +kernel
theorem dX12_tellsHelmets_10 : decode cX12_tellsHelmets 10 = .ok (.getfield 235, 3) := by decide +kernel
theorem dX12_tellsHelmets_13 : decode cX12_tellsHelmets 13 = .ok (.i2l, 1) := by decide +kernel
theorem dX12_tellsHelmets_14 : decode cX12_tellsHelmets 14 = .ok (.ldc2_w 195, 3) := by decide +kernel
theorem dX12_tellsHelmets_17 : decode cX12_tellsHelmets 17 = .ok (.iload_n 2, 1) := by decide +kernel
theorem dX12_tellsHelmets_18 : decode cX12_tellsHelmets 18 = .ok (.iconst 1, 1) := by decide +kernel
theorem dX12_tellsHelmets_19 : decode cX12_tellsHelmets 19 = .ok (.isub, 1) := by decide +kernel
theorem dX12_tellsHelmets_20 : decode cX12_tellsHelmets 20 = .ok (.invokestatic 197, 3) := by decide +kernel
theorem dX12_tellsHelmets_23 : decode cX12_tellsHelmets 23 = .ok (.lreturn, 1) := by decide +kernel
theorem dX12_helmets_0 : decode cX12_helmets 0 = .ok (.aload_n 0, 1) := by decide +kernel
theorem dX12_helmets_1 : decode cX12_helmets 1 = .ok (.invokevirtual 120, 3) := by decide +kernel
theorem dX12_helmets_4 : decode cX12_helmets 4 = .ok (.iload_n 1, 1) := by decide +kernel
theorem dX12_helmets_5 : decode cX12_helmets 5 = .ok (.i2l, 1) := by decide +kernel
theorem dX12_helmets_6 : decode cX12_helmets 6 = .ok (.lconst 0, 1) := by decide +kernel
theorem dX12_helmets_7 : decode cX12_helmets 7 = .ok (.aload_n 0, 1) := by decide +kernel
theorem dX12_helmets_8 : decode cX12_helmets 8 = .ok (.getfield 106, 3) := by decide +kernel
theorem dX12_helmets_11 : decode cX12_helmets 11 = .ok (.i2l, 1) := by decide +kernel
theorem dX12_helmets_12 : decode cX12_helmets 12 = .ok (.invokestatic 58, 3) := by decide +kernel
theorem dX12_helmets_15 : decode cX12_helmets 15 = .ok (.ifCond .eq 28, 3) := by decide +kernel
theorem dX12_helmets_18 : decode cX12_helmets 18 = .ok (.iload_n 2, 1) := by decide +kernel
theorem dX12_helmets_19 : decode cX12_helmets 19 = .ok (.i2l, 1) := by decide +kernel
theorem dX12_helmets_20 : decode cX12_helmets 20 = .ok (.lconst 0, 1) := by decide +kernel
theorem dX12_helmets_21 : decode cX12_helmets 21 = .ok (.ldc2_w 72, 3) := by decide +kernel
theorem dX12_helmets_24 : decode cX12_helmets 24 = .ok (.invokestatic 58, 3) := by decide +kernel
theorem dX12_helmets_27 : decode cX12_helmets 27 = .ok (.ifCond .eq 16, 3) := by decide +kernel
theorem dX12_helmets_30 : decode cX12_helmets 30 = .ok (.aload_n 0, 1) := by decide +kernel
theorem dX12_helmets_31 : decode cX12_helmets 31 = .ok (.aload_n 0, 1) := by decide +kernel
theorem dX12_helmets_32 : decode cX12_helmets 32 = .ok (.iload_n 1, 1) := by decide +kernel
theorem dX12_helmets_33 : decode cX12_helmets 33 = .ok (.invokevirtual 238, 3) := by decide +kernel
theorem dX12_helmets_36 : decode cX12_helmets 36 = .ok (.iload_n 2, 1) := by decide +kernel
theorem dX12_helmets_37 : decode cX12_helmets 37 = .ok (.invokevirtual 241, 3) := by decide +kernel
theorem dX12_helmets_40 : decode cX12_helmets 40 = .ok (.goto 8, 3) := by decide +kernel
theorem dX12_helmets_43 : decode cX12_helmets 43 = .ok (.bipush (-2), 2) := by decide +kernel
theorem dX12_helmets_45 : decode cX12_helmets 45 = .ok (.invokestatic 201, 3) := by decide +kernel
theorem dX12_helmets_48 : decode cX12_helmets 48 = .ok (.lreturn, 1) := by decide +kernel
theorem dX12_byOthers_0 : decode cX12_byOthers 0 = .ok (.iconst 0, 1) := by decide +kernel
theorem dX12_byOthers_1 : decode cX12_byOthers 1 = .ok (.istore 4, 2) := by decide +kernel
theorem dX12_byOthers_3 : decode cX12_byOthers 3 = .ok (.iconst 0, 1) := by decide +kernel
theorem dX12_byOthers_4 : decode cX12_byOthers 4 = .ok (.istore 5, 2) := by decide +kernel
theorem dX12_byOthers_6 : decode cX12_byOthers 6 = .ok (.iload 5, 2) := by decide +kernel
theorem dX12_byOthers_8 : decode cX12_byOthers 8 = .ok (.aload_n 0, 1) := by decide +kernel
theorem dX12_byOthers_9 : decode cX12_byOthers 9 = .ok (.getfield 95, 3) := by decide +kernel
theorem dX12_byOthers_12 : decode cX12_byOthers 12 = .ok (.if_icmp .ge 95, 3) := by decide +kernel
theorem dX12_byOthers_15 : decode cX12_byOthers 15 = .ok (.iconst 0, 1) := by decide +kernel
theorem dX12_byOthers_16 : decode cX12_byOthers 16 = .ok (.istore 6, 2) := by decide +kernel
theorem dX12_byOthers_18 : decode cX12_byOthers 18 = .ok (.iload 6, 2) := by decide +kernel
theorem dX12_byOthers_20 : decode cX12_byOthers 20 = .ok (.aload_n 0, 1) := by decide +kernel
theorem dX12_byOthers_21 : decode cX12_byOthers 21 = .ok (.getfield 106, 3) := by decide +kernel
theorem dX12_byOthers_24 : decode cX12_byOthers 24 = .ok (.if_icmp .ge 77, 3) := by decide +kernel
theorem dX12_byOthers_27 : decode cX12_byOthers 27 = .ok (.aload_n 0, 1) := by decide +kernel
theorem dX12_byOthers_28 : decode cX12_byOthers 28 = .ok (.getfield 31, 3) := by decide +kernel
theorem dX12_byOthers_31 : decode cX12_byOthers 31 = .ok (.iload 5, 2) := by decide +kernel
theorem dX12_byOthers_33 : decode cX12_byOthers 33 = .ok (.iaload, 1) := by decide +kernel
theorem dX12_byOthers_34 : decode cX12_byOthers 34 = .ok (.ifCond .le 67, 3) := by decide +kernel
theorem dX12_byOthers_37 : decode cX12_byOthers 37 = .ok (.aload_n 0, 1) := by decide +kernel
theorem dX12_byOthers_38 : decode cX12_byOthers 38 = .ok (.getfield 44, 3) := by decide +kernel
theorem dX12_byOthers_41 : decode cX12_byOthers 41 = .ok (.iconst 3, 1) := by decide +kernel
theorem dX12_byOthers_42 : decode cX12_byOthers 42 = .ok (.iaload, 1) := by decide +kernel
theorem dX12_byOthers_43 : decode cX12_byOthers 43 = .ok (.iload_n 2, 1) := by decide +kernel
theorem dX12_byOthers_44 : decode cX12_byOthers 44 = .ok (.isub, 1) := by decide +kernel
theorem dX12_byOthers_45 : decode cX12_byOthers 45 = .ok (.iload 5, 2) := by decide +kernel
theorem dX12_byOthers_47 : decode cX12_byOthers 47 = .ok (.iadd, 1) := by decide +kernel
theorem dX12_byOthers_48 : decode cX12_byOthers 48 = .ok (.iload_n 3, 1) := by decide +kernel
theorem dX12_byOthers_49 : decode cX12_byOthers 49 = .ok (.isub, 1) := by decide +kernel
theorem dX12_byOthers_50 : decode cX12_byOthers 50 = .ok (.istore 7, 2) := by decide +kernel
theorem dX12_byOthers_52 : decode cX12_byOthers 52 = .ok (.iload 4, 2) := by decide +kernel
theorem dX12_byOthers_54 : decode cX12_byOthers 54 = .ok (.aload_n 0, 1) := by decide +kernel
theorem dX12_byOthers_55 : decode cX12_byOthers 55 = .ok (.iconst 0, 1) := by decide +kernel
theorem dX12_byOthers_56 : decode cX12_byOthers 56 = .ok (.iload 6, 2) := by decide +kernel
theorem dX12_byOthers_58 : decode cX12_byOthers 58 = .ok (.invokevirtual 180, 3) := by decide +kernel
theorem dX12_byOthers_61 : decode cX12_byOthers 61 = .ok (.ifCond .eq 7, 3) := by decide +kernel
theorem dX12_byOthers_64 : decode cX12_byOthers 64 = .ok (.iconst 0, 1) := by decide +kernel
theorem dX12_byOthers_65 : decode cX12_byOthers 65 = .ok (.goto 27, 3) := by decide +kernel
theorem dX12_byOthers_68 : decode cX12_byOthers 68 = .ok (.aload_n 0, 1) := by decide +kernel
theorem dX12_byOthers_69 : decode cX12_byOthers 69 = .ok (.aload_n 0, 1) := by decide +kernel
theorem dX12_byOthers_70 : decode cX12_byOthers 70 = .ok (.getfield 31, 3) := by decide +kernel
theorem dX12_byOthers_73 : decode cX12_byOthers 73 = .ok (.iload 5, 2) := by decide +kernel
theorem dX12_byOthers_75 : decode cX12_byOthers 75 = .ok (.iaload, 1) := by decide +kernel
theorem dX12_byOthers_76 : decode cX12_byOthers 76 = .ok (.iconst 5, 1) := by decide +kernel
theorem dX12_byOthers_77 : decode cX12_byOthers 77 = .ok (.iconst 5, 1) := by decide +kernel
theorem dX12_byOthers_78 : decode cX12_byOthers 78 = .ok (.invokevirtual 166, 3) := by decide +kernel
theorem dX12_byOthers_81 : decode cX12_byOthers 81 = .ok (.aload_n 0, 1) := by decide +kernel
theorem dX12_byOthers_82 : decode cX12_byOthers 82 = .ok (.iload 5, 2) := by decide +kernel
theorem dX12_byOthers_84 : decode cX12_byOthers 84 = .ok (.iload 6, 2) := by decide +kernel
theorem dX12_byOthers_86 : decode cX12_byOthers 86 = .ok (.iload 7, 2) := by decide +kernel
theorem dX12_byOthers_88 : decode cX12_byOthers 88 = .ok (.invokevirtual 183, 3) := by decide +kernel
theorem dX12_byOthers_91 : decode cX12_byOthers 91 = .ok (.imul, 1) := by decide +kernel
theorem dX12_byOthers_92 : decode cX12_byOthers 92 = .ok (.iadd, 1) := by decide +kernel
theorem dX12_byOthers_93 : decode cX12_byOthers 93 = .ok (.istore 4, 2) := by decide +kernel
theorem dX12_byOthers_95 : decode cX12_byOthers 95 = .ok (.iinc 6 1, 3) := by decide +kernel
theorem dX12_byOthers_98 : decode cX12_byOthers 98 = .ok (.goto (-80), 3) := by decide +kernel
theorem dX12_byOthers_101 : decode cX12_byOthers 101 = .ok (.iinc 5 1, 3) := by decide +kernel
theorem dX12_byOthers_104 : decode cX12_byOthers 104 = .ok (.goto (-98), 3) := by decide +kernel
theorem dX12_byOthers_107 : decode cX12_byOthers 107 = .ok (.iload_n 1, 1) := by decide +kernel
theorem dX12_byOthers_108 : decode cX12_byOthers 108 = .ok (.iload 4, 2) := by decide +kernel
theorem dX12_byOthers_110 : decode cX12_byOthers 110 = .ok (.imul, 1) := by decide +kernel
theorem dX12_byOthers_111 : decode cX12_byOthers 111 = .ok (.ireturn, 1) := by decide +kernel
theorem dX12_findWait_0 : decode cX12_findWait 0 = .ok (.aload_n 0, 1) := by decide +kernel
theorem dX12_findWait_1 : decode cX12_findWait 1 = .ok (.iconst (-1), 1) := by decide +kernel
theorem dX12_findWait_2 : decode cX12_findWait 2 = .ok (.putfield 245, 3) := by decide +kernel
theorem dX12_findWait_5 : decode cX12_findWait 5 = .ok (.iconst 0, 1) := by decide +kernel
theorem dX12_findWait_6 : decode cX12_findWait 6 = .ok (.istore 4, 2) := by decide +kernel
theorem dX12_findWait_8 : decode cX12_findWait 8 = .ok (.iload 4, 2) := by decide +kernel
theorem dX12_findWait_10 : decode cX12_findWait 10 = .ok (.bipush 100, 2) := by decide +kernel
theorem dX12_findWait_12 : decode cX12_findWait 12 = .ok (.if_icmp .ge 88, 3) := by decide +kernel
theorem dX12_findWait_15 : decode cX12_findWait 15 = .ok (.sipush 256, 3) := by decide +kernel
theorem dX12_findWait_18 : decode cX12_findWait 18 = .ok (.iload 4, 2) := by decide +kernel
theorem dX12_findWait_20 : decode cX12_findWait 20 = .ok (.imul, 1) := by decide +kernel
theorem dX12_findWait_21 : decode cX12_findWait 21 = .ok (.iload_n 3, 1) := by decide +kernel
theorem dX12_findWait_22 : decode cX12_findWait 22 = .ok (.aload_n 0, 1) := by decide +kernel
theorem dX12_findWait_23 : decode cX12_findWait 23 = .ok (.iload_n 1, 1) := by decide +kernel
theorem dX12_findWait_24 : decode cX12_findWait 24 = .ok (.iload_n 2, 1) := by decide +kernel
theorem dX12_findWait_25 : decode cX12_findWait 25 = .ok (.iload 4, 2) := by decide +kernel
theorem dX12_findWait_27 : decode cX12_findWait 27 = .ok (.invokevirtual 248, 3) := by decide +kernel
theorem dX12_findWait_30 : decode cX12_findWait 30 = .ok (.imul, 1) := by decide +kernel
theorem dX12_findWait_31 : decode cX12_findWait 31 = .ok (.iadd, 1) := by decide +kernel
theorem dX12_findWait_32 : decode cX12_findWait 32 = .ok (.istore 5, 2) := by decide +kernel
theorem dX12_findWait_34 : decode cX12_findWait 34 = .ok (.aload_n 0, 1) := by decide +kernel
theorem dX12_findWait_35 : decode cX12_findWait 35 = .ok (.getfield 245, 3) := by decide +kernel
theorem dX12_findWait_38 : decode cX12_findWait 38 = .ok (.iconst (-1), 1) := by decide +kernel
theorem dX12_findWait_39 : decode cX12_findWait 39 = .ok (.if_icmp .eq 12, 3) := by decide +kernel
theorem dX12_findWait_42 : decode cX12_findWait 42 = .ok (.iload 5, 2) := by decide +kernel
theorem dX12_findWait_44 : decode cX12_findWait 44 = .ok (.aload_n 0, 1) := by decide +kernel
theorem dX12_findWait_45 : decode cX12_findWait 45 = .ok (.getfield 251, 3) := by decide +kernel
theorem dX12_findWait_48 : decode cX12_findWait 48 = .ok (.if_icmp .ge 7, 3) := by decide +kernel
theorem dX12_findWait_51 : decode cX12_findWait 51 = .ok (.iconst 1, 1) := by decide +kernel
theorem dX12_findWait_52 : decode cX12_findWait 52 = .ok (.goto 4, 3) := by decide +kernel
theorem dX12_findWait_55 : decode cX12_findWait 55 = .ok (.iconst 0, 1) := by decide +kernel
theorem dX12_findWait_56 : decode cX12_findWait 56 = .ok (.istore 6, 2) := by decide +kernel
theorem dX12_findWait_58 : decode cX12_findWait 58 = .ok (.aload_n 0, 1) := by decide +kernel
theorem dX12_findWait_59 : decode cX12_findWait 59 = .ok (.iload 6, 2) := by decide +kernel
theorem dX12_findWait_61 : decode cX12_findWait 61 = .ok (.ifCond .eq 8, 3) := by decide +kernel
theorem dX12_findWait_64 : decode cX12_findWait 64 = .ok (.iload 4, 2) := by decide +kernel
theorem dX12_findWait_66 : decode cX12_findWait 66 = .ok (.goto 7, 3) := by decide +kernel
theorem dX12_findWait_69 : decode cX12_findWait 69 = .ok (.aload_n 0, 1) := by decide +kernel
theorem dX12_findWait_70 : decode cX12_findWait 70 = .ok (.getfield 245, 3) := by decide +kernel
theorem dX12_findWait_73 : decode cX12_findWait 73 = .ok (.putfield 245, 3) := by decide +kernel
theorem dX12_findWait_76 : decode cX12_findWait 76 = .ok (.aload_n 0, 1) := by decide +kernel
theorem dX12_findWait_77 : decode cX12_findWait 77 = .ok (.iload 6, 2) := by decide +kernel
theorem dX12_findWait_79 : decode cX12_findWait 79 = .ok (.ifCond .eq 8, 3) := by decide +kernel
theorem dX12_findWait_82 : decode cX12_findWait 82 = .ok (.iload 5, 2) := by decide +kernel
theorem dX12_findWait_84 : decode cX12_findWait 84 = .ok (.goto 7, 3) := by decide +kernel
theorem dX12_findWait_87 : decode cX12_findWait 87 = .ok (.aload_n 0, 1) := by decide +kernel
theorem dX12_findWait_88 : decode cX12_findWait 88 = .ok (.getfield 251, 3) := by decide +kernel
theorem dX12_findWait_91 : decode cX12_findWait 91 = .ok (.putfield 251, 3) := by decide +kernel
theorem dX12_findWait_94 : decode cX12_findWait 94 = .ok (.iinc 4 1, 3) := by decide +kernel
theorem dX12_findWait_97 : decode cX12_findWait 97 = .ok (.goto (-89), 3) := by decide +kernel
theorem dX12_findWait_100 : decode cX12_findWait 100 = .ok (.return_, 1) := by decide +kernel
theorem dX12_tellsWait_0 : decode cX12_tellsWait 0 = .ok (.iload_n 1, 1) := by decide +kernel
theorem dX12_tellsWait_1 : decode cX12_tellsWait 1 = .ok (.ifCond .ne 11, 3) := by decide +kernel
theorem dX12_tellsWait_4 : decode cX12_tellsWait 4 = .ok (.aload_n 0, 1) := by decide +kernel
theorem dX12_tellsWait_5 : decode cX12_tellsWait 5 = .ok (.getfield 245, 3) := by decide +kernel
theorem dX12_tellsWait_8 : decode cX12_tellsWait 8 = .ok (.i2l, 1) := by decide +kernel
theorem dX12_tellsWait_9 : decode cX12_tellsWait 9 = .ok (.goto 17, 3) := by decide +kernel
theorem dX12_tellsWait_12 : decode cX12_tellsWait 12 = .ok (.aload_n 0, 1) := by decide +kernel
theorem dX12_tellsWait_13 : decode cX12_tellsWait 13 = .ok (.getfield 251, 3) := by decide +kernel
theorem dX12_tellsWait_16 : decode cX12_tellsWait 16 = .ok (.i2l, 1) := by decide +kernel
theorem dX12_tellsWait_17 : decode cX12_tellsWait 17 = .ok (.ldc2_w 195, 3) := by decide +kernel
theorem dX12_tellsWait_20 : decode cX12_tellsWait 20 = .ok (.iload_n 1, 1) := by decide +kernel
theorem dX12_tellsWait_21 : decode cX12_tellsWait 21 = .ok (.iconst 1, 1) := by decide +kernel
theorem dX12_tellsWait_22 : decode cX12_tellsWait 22 = .ok (.isub, 1) := by decide +kernel
theorem dX12_tellsWait_23 : decode cX12_tellsWait 23 = .ok (.invokestatic 197, 3) := by decide +kernel
theorem dX12_tellsWait_26 : decode cX12_tellsWait 26 = .ok (.lreturn, 1) := by decide +kernel
theorem dX12_waits_0 : decode cX12_waits 0 = .ok (.aload_n 0, 1) := by decide +kernel
theorem dX12_waits_1 : decode cX12_waits 1 = .ok (.invokevirtual 120, 3) := by decide +kernel
theorem dX12_waits_4 : decode cX12_waits 4 = .ok (.iload_n 1, 1) := by decide +kernel
theorem dX12_waits_5 : decode cX12_waits 5 = .ok (.i2l, 1) := by decide +kernel
theorem dX12_waits_6 : decode cX12_waits 6 = .ok (.lconst 1, 1) := by decide +kernel
theorem dX12_waits_7 : decode cX12_waits 7 = .ok (.ldc2_w 254, 3) := by decide +kernel
theorem dX12_waits_10 : decode cX12_waits 10 = .ok (.invokestatic 58, 3) := by decide +kernel
theorem dX12_waits_13 : decode cX12_waits 13 = .ok (.ifCond .eq 40, 3) := by decide +kernel
theorem dX12_waits_16 : decode cX12_waits 16 = .ok (.iload_n 2, 1) := by decide +kernel
theorem dX12_waits_17 : decode cX12_waits 17 = .ok (.i2l, 1) := by decide +kernel
theorem dX12_waits_18 : decode cX12_waits 18 = .ok (.lconst 0, 1) := by decide +kernel
theorem dX12_waits_19 : decode cX12_waits 19 = .ok (.ldc2_w 217, 3) := by decide +kernel
theorem dX12_waits_22 : decode cX12_waits 22 = .ok (.invokestatic 58, 3) := by decide +kernel
theorem dX12_waits_25 : decode cX12_waits 25 = .ok (.ifCond .eq 28, 3) := by decide +kernel
theorem dX12_waits_28 : decode cX12_waits 28 = .ok (.iload_n 3, 1) := by decide +kernel
theorem dX12_waits_29 : decode cX12_waits 29 = .ok (.i2l, 1) := by decide +kernel
theorem dX12_waits_30 : decode cX12_waits 30 = .ok (.lconst 0, 1) := by decide +kernel
theorem dX12_waits_31 : decode cX12_waits 31 = .ok (.ldc2_w 256, 3) := by decide +kernel
theorem dX12_waits_34 : decode cX12_waits 34 = .ok (.invokestatic 58, 3) := by decide +kernel
theorem dX12_waits_37 : decode cX12_waits 37 = .ok (.ifCond .eq 16, 3) := by decide +kernel
theorem dX12_waits_40 : decode cX12_waits 40 = .ok (.iload 4, 2) := by decide +kernel
theorem dX12_waits_42 : decode cX12_waits 42 = .ok (.i2l, 1) := by decide +kernel
theorem dX12_waits_43 : decode cX12_waits 43 = .ok (.lconst 0, 1) := by decide +kernel
theorem dX12_waits_44 : decode cX12_waits 44 = .ok (.ldc2_w 72, 3) := by decide +kernel
theorem dX12_waits_47 : decode cX12_waits 47 = .ok (.invokestatic 58, 3) := by decide +kernel
theorem dX12_waits_50 : decode cX12_waits 50 = .ok (.ifCond .ne 9, 3) := by decide +kernel
theorem dX12_waits_53 : decode cX12_waits 53 = .ok (.bipush (-2), 2) := by decide +kernel
theorem dX12_waits_55 : decode cX12_waits 55 = .ok (.invokestatic 201, 3) := by decide +kernel
theorem dX12_waits_58 : decode cX12_waits 58 = .ok (.lreturn, 1) := by decide +kernel
theorem dX12_waits_59 : decode cX12_waits 59 = .ok (.aload_n 0, 1) := by decide +kernel
theorem dX12_waits_60 : decode cX12_waits 60 = .ok (.iload_n 1, 1) := by decide +kernel
theorem dX12_waits_61 : decode cX12_waits 61 = .ok (.iload_n 2, 1) := by decide +kernel
theorem dX12_waits_62 : decode cX12_waits 62 = .ok (.iload_n 3, 1) := by decide +kernel
theorem dX12_waits_63 : decode cX12_waits 63 = .ok (.invokevirtual 258, 3) := by decide +kernel
theorem dX12_waits_66 : decode cX12_waits 66 = .ok (.aload_n 0, 1) := by decide +kernel
theorem dX12_waits_67 : decode cX12_waits 67 = .ok (.iload 4, 2) := by decide +kernel
theorem dX12_waits_69 : decode cX12_waits 69 = .ok (.invokevirtual 262, 3) := by decide +kernel
theorem dX12_waits_72 : decode cX12_waits 72 = .ok (.lreturn, 1) := by decide +kernel
theorem dX12_comesInto_0 : decode cX12_comesInto 0 = .ok (.iload_n 3, 1) := by decide +kernel
theorem dX12_comesInto_1 : decode cX12_comesInto 1 = .ok (.aload_n 0, 1) := by decide +kernel
theorem dX12_comesInto_2 : decode cX12_comesInto 2 = .ok (.iload_n 1, 1) := by decide +kernel
theorem dX12_comesInto_3 : decode cX12_comesInto 3 = .ok (.invokevirtual 149, 3) := by decide +kernel
theorem dX12_comesInto_6 : decode cX12_comesInto 6 = .ok (.iload_n 2, 1) := by decide +kernel
theorem dX12_comesInto_7 : decode cX12_comesInto 7 = .ok (.aload_n 0, 1) := by decide +kernel
theorem dX12_comesInto_8 : decode cX12_comesInto 8 = .ok (.invokevirtual 152, 3) := by decide +kernel
theorem dX12_comesInto_11 : decode cX12_comesInto 11 = .ok (.imul, 1) := by decide +kernel
theorem dX12_comesInto_12 : decode cX12_comesInto 12 = .ok (.iadd, 1) := by decide +kernel
theorem dX12_comesInto_13 : decode cX12_comesInto 13 = .ok (.if_icmp .ne 7, 3) := by decide +kernel
theorem dX12_comesInto_16 : decode cX12_comesInto 16 = .ok (.iconst 1, 1) := by decide +kernel
theorem dX12_comesInto_17 : decode cX12_comesInto 17 = .ok (.goto 4, 3) := by decide +kernel
theorem dX12_comesInto_20 : decode cX12_comesInto 20 = .ok (.iconst 0, 1) := by decide +kernel
theorem dX12_comesInto_21 : decode cX12_comesInto 21 = .ok (.ireturn, 1) := by decide +kernel
theorem dX12_footOf_0 : decode cX12_footOf 0 = .ok (.iconst 0, 1) := by decide +kernel
theorem dX12_footOf_1 : decode cX12_footOf 1 = .ok (.istore 4, 2) := by decide +kernel
theorem dX12_footOf_3 : decode cX12_footOf 3 = .ok (.iconst 0, 1) := by decide +kernel
theorem dX12_footOf_4 : decode cX12_footOf 4 = .ok (.istore 5, 2) := by decide +kernel
theorem dX12_footOf_6 : decode cX12_footOf 6 = .ok (.iload 5, 2) := by decide +kernel
theorem dX12_footOf_8 : decode cX12_footOf 8 = .ok (.aload_n 0, 1) := by decide +kernel
theorem dX12_footOf_9 : decode cX12_footOf 9 = .ok (.getfield 106, 3) := by decide +kernel
theorem dX12_footOf_12 : decode cX12_footOf 12 = .ok (.if_icmp .ge 41, 3) := by decide +kernel
theorem dX12_footOf_15 : decode cX12_footOf 15 = .ok (.iload 4, 2) := by decide +kernel
theorem dX12_footOf_17 : decode cX12_footOf 17 = .ok (.aload_n 0, 1) := by decide +kernel
theorem dX12_footOf_18 : decode cX12_footOf 18 = .ok (.iload 5, 2) := by decide +kernel
theorem dX12_footOf_20 : decode cX12_footOf 20 = .ok (.iload_n 1, 1) := by decide +kernel
theorem dX12_footOf_21 : decode cX12_footOf 21 = .ok (.iload_n 2, 1) := by decide +kernel
theorem dX12_footOf_22 : decode cX12_footOf 22 = .ok (.invokevirtual 265, 3) := by decide +kernel
theorem dX12_footOf_25 : decode cX12_footOf 25 = .ok (.ifCond .eq 18, 3) := by decide +kernel
theorem dX12_footOf_28 : decode cX12_footOf 28 = .ok (.aload_n 0, 1) := by decide +kernel
theorem dX12_footOf_29 : decode cX12_footOf 29 = .ok (.aload_n 0, 1) := by decide +kernel
theorem dX12_footOf_30 : decode cX12_footOf 30 = .ok (.getfield 47, 3) := by decide +kernel
theorem dX12_footOf_33 : decode cX12_footOf 33 = .ok (.iload 5, 2) := by decide +kernel
theorem dX12_footOf_35 : decode cX12_footOf 35 = .ok (.iaload, 1) := by decide +kernel
theorem dX12_footOf_36 : decode cX12_footOf 36 = .ok (.iload_n 1, 1) := by decide +kernel
theorem dX12_footOf_37 : decode cX12_footOf 37 = .ok (.invokevirtual 169, 3) := by decide +kernel
theorem dX12_footOf_40 : decode cX12_footOf 40 = .ok (.goto 4, 3) := by decide +kernel
theorem dX12_footOf_43 : decode cX12_footOf 43 = .ok (.iconst 0, 1) := by decide +kernel
theorem dX12_footOf_44 : decode cX12_footOf 44 = .ok (.iadd, 1) := by decide +kernel
theorem dX12_footOf_45 : decode cX12_footOf 45 = .ok (.istore 4, 2) := by decide +kernel
theorem dX12_footOf_47 : decode cX12_footOf 47 = .ok (.iinc 5 1, 3) := by decide +kernel
theorem dX12_footOf_50 : decode cX12_footOf 50 = .ok (.goto (-44), 3) := by decide +kernel
theorem dX12_footOf_53 : decode cX12_footOf 53 = .ok (.iload 4, 2) := by decide +kernel
theorem dX12_footOf_55 : decode cX12_footOf 55 = .ok (.aload_n 0, 1) := by decide +kernel
theorem dX12_footOf_56 : decode cX12_footOf 56 = .ok (.getfield 31, 3) := by decide +kernel
theorem dX12_footOf_59 : decode cX12_footOf 59 = .ok (.iload_n 1, 1) := by decide +kernel
theorem dX12_footOf_60 : decode cX12_footOf 60 = .ok (.iaload, 1) := by decide +kernel
theorem dX12_footOf_61 : decode cX12_footOf 61 = .ok (.ifCond .le 22, 3) := by decide +kernel
theorem dX12_footOf_64 : decode cX12_footOf 64 = .ok (.iload_n 2, 1) := by decide +kernel
theorem dX12_footOf_65 : decode cX12_footOf 65 = .ok (.aload_n 0, 1) := by decide +kernel
theorem dX12_footOf_66 : decode cX12_footOf 66 = .ok (.getfield 44, 3) := by decide +kernel
theorem dX12_footOf_69 : decode cX12_footOf 69 = .ok (.iconst 4, 1) := by decide +kernel
theorem dX12_footOf_70 : decode cX12_footOf 70 = .ok (.iaload, 1) := by decide +kernel
theorem dX12_footOf_71 : decode cX12_footOf 71 = .ok (.if_icmp .lt 12, 3) := by decide +kernel
theorem dX12_footOf_74 : decode cX12_footOf 74 = .ok (.aload_n 0, 1) := by decide +kernel
theorem dX12_footOf_75 : decode cX12_footOf 75 = .ok (.getfield 44, 3) := by decide +kernel
theorem dX12_footOf_78 : decode cX12_footOf 78 = .ok (.iconst 5, 1) := by decide +kernel
theorem dX12_footOf_79 : decode cX12_footOf 79 = .ok (.iaload, 1) := by decide +kernel
theorem dX12_footOf_80 : decode cX12_footOf 80 = .ok (.goto 4, 3) := by decide +kernel
theorem dX12_footOf_83 : decode cX12_footOf 83 = .ok (.iconst 0, 1) := by decide +kernel
theorem dX12_footOf_84 : decode cX12_footOf 84 = .ok (.iadd, 1) := by decide +kernel
theorem dX12_footOf_85 : decode cX12_footOf 85 = .ok (.istore 5, 2) := by decide +kernel
theorem dX12_footOf_87 : decode cX12_footOf 87 = .ok (.iload 5, 2) := by decide +kernel
theorem dX12_footOf_89 : decode cX12_footOf 89 = .ok (.ifCond .ne 11, 3) := by decide +kernel
theorem dX12_footOf_92 : decode cX12_footOf 92 = .ok (.bipush (-3), 2) := by decide +kernel
theorem dX12_footOf_94 : decode cX12_footOf 94 = .ok (.invokestatic 201, 3) := by decide +kernel
theorem dX12_footOf_97 : decode cX12_footOf 97 = .ok (.goto 13, 3) := by decide +kernel
theorem dX12_footOf_100 : decode cX12_footOf 100 = .ok (.iload 4, 2) := by decide +kernel
theorem dX12_footOf_102 : decode cX12_footOf 102 = .ok (.i2l, 1) := by decide +kernel
theorem dX12_footOf_103 : decode cX12_footOf 103 = .ok (.iload 5, 2) := by decide +kernel
theorem dX12_footOf_105 : decode cX12_footOf 105 = .ok (.i2l, 1) := by decide +kernel
theorem dX12_footOf_106 : decode cX12_footOf 106 = .ok (.iload_n 3, 1) := by decide +kernel
theorem dX12_footOf_107 : decode cX12_footOf 107 = .ok (.invokestatic 197, 3) := by decide +kernel
theorem dX12_footOf_110 : decode cX12_footOf 110 = .ok (.lreturn, 1) := by decide +kernel
theorem dX12_foot_0 : decode cX12_foot 0 = .ok (.aload_n 0, 1) := by decide +kernel
theorem dX12_foot_1 : decode cX12_foot 1 = .ok (.invokevirtual 120, 3) := by decide +kernel
theorem dX12_foot_4 : decode cX12_foot 4 = .ok (.aload_n 0, 1) := by decide +kernel
theorem dX12_foot_5 : decode cX12_foot 5 = .ok (.iload_n 1, 1) := by decide +kernel
theorem dX12_foot_6 : decode cX12_foot 6 = .ok (.invokevirtual 123, 3) := by decide +kernel
theorem dX12_foot_9 : decode cX12_foot 9 = .ok (.ifCond .eq 32, 3) := by decide +kernel
theorem dX12_foot_12 : decode cX12_foot 12 = .ok (.iload_n 2, 1) := by decide +kernel
theorem dX12_foot_13 : decode cX12_foot 13 = .ok (.i2l, 1) := by decide +kernel
theorem dX12_foot_14 : decode cX12_foot 14 = .ok (.lconst 0, 1) := by decide +kernel
theorem dX12_foot_15 : decode cX12_foot 15 = .ok (.ldc2_w 155, 3) := by decide +kernel
theorem dX12_foot_18 : decode cX12_foot 18 = .ok (.invokestatic 58, 3) := by decide +kernel
theorem dX12_foot_21 : decode cX12_foot 21 = .ok (.ifCond .eq 20, 3) := by decide +kernel
theorem dX12_foot_24 : decode cX12_foot 24 = .ok (.iload_n 3, 1) := by decide +kernel
theorem dX12_foot_25 : decode cX12_foot 25 = .ok (.invokestatic 87, 3) := by decide +kernel
theorem dX12_foot_28 : decode cX12_foot 28 = .ok (.ifCond .eq 13, 3) := by decide +kernel
theorem dX12_foot_31 : decode cX12_foot 31 = .ok (.aload_n 0, 1) := by decide +kernel
theorem dX12_foot_32 : decode cX12_foot 32 = .ok (.iload_n 1, 1) := by decide +kernel
theorem dX12_foot_33 : decode cX12_foot 33 = .ok (.iload_n 2, 1) := by decide +kernel
theorem dX12_foot_34 : decode cX12_foot 34 = .ok (.iload_n 3, 1) := by decide +kernel
theorem dX12_foot_35 : decode cX12_foot 35 = .ok (.invokevirtual 269, 3) := by decide +kernel
theorem dX12_foot_38 : decode cX12_foot 38 = .ok (.goto 8, 3) := by decide +kernel
theorem dX12_foot_41 : decode cX12_foot 41 = .ok (.bipush (-2), 2) := by decide +kernel
theorem dX12_foot_43 : decode cX12_foot 43 = .ok (.invokestatic 201, 3) := by decide +kernel
theorem dX12_foot_46 : decode cX12_foot 46 = .ok (.lreturn, 1) := by decide +kernel
theorem dX12_fell_0 : decode cX12_fell 0 = .ok (.iload_n 1, 1) := by decide +kernel
theorem dX12_fell_1 : decode cX12_fell 1 = .ok (.i2l, 1) := by decide +kernel
theorem dX12_fell_2 : decode cX12_fell 2 = .ok (.lconst 0, 1) := by decide +kernel
theorem dX12_fell_3 : decode cX12_fell 3 = .ok (.ldc2_w 132, 3) := by decide +kernel
theorem dX12_fell_6 : decode cX12_fell 6 = .ok (.invokestatic 58, 3) := by decide +kernel
theorem dX12_fell_9 : decode cX12_fell 9 = .ok (.ifCond .eq 22, 3) := by decide +kernel
theorem dX12_fell_12 : decode cX12_fell 12 = .ok (.iload_n 2, 1) := by decide +kernel
theorem dX12_fell_13 : decode cX12_fell 13 = .ok (.i2l, 1) := by decide +kernel
theorem dX12_fell_14 : decode cX12_fell 14 = .ok (.lconst 0, 1) := by decide +kernel
theorem dX12_fell_15 : decode cX12_fell 15 = .ok (.ldc2_w 273, 3) := by decide +kernel
theorem dX12_fell_18 : decode cX12_fell 18 = .ok (.invokestatic 58, 3) := by decide +kernel
theorem dX12_fell_21 : decode cX12_fell 21 = .ok (.ifCond .eq 10, 3) := by decide +kernel
theorem dX12_fell_24 : decode cX12_fell 24 = .ok (.iload_n 3, 1) := by decide +kernel
theorem dX12_fell_25 : decode cX12_fell 25 = .ok (.invokestatic 87, 3) := by decide +kernel
theorem dX12_fell_28 : decode cX12_fell 28 = .ok (.ifCond .ne 6, 3) := by decide +kernel
theorem dX12_fell_31 : decode cX12_fell 31 = .ok (.bipush (-2), 2) := by decide +kernel
theorem dX12_fell_33 : decode cX12_fell 33 = .ok (.ireturn, 1) := by decide +kernel
theorem dX12_fell_34 : decode cX12_fell 34 = .ok (.aload_n 0, 1) := by decide +kernel
theorem dX12_fell_35 : decode cX12_fell 35 = .ok (.getfield 275, 3) := by decide +kernel
theorem dX12_fell_38 : decode cX12_fell 38 = .ok (.bipush 8, 2) := by decide +kernel
theorem dX12_fell_40 : decode cX12_fell 40 = .ok (.if_icmp .ne 6, 3) := by decide +kernel
theorem dX12_fell_43 : decode cX12_fell 43 = .ok (.bipush (-4), 2) := by decide +kernel
theorem dX12_fell_45 : decode cX12_fell 45 = .ok (.ireturn, 1) := by decide +kernel
theorem dX12_fell_46 : decode cX12_fell 46 = .ok (.aload_n 0, 1) := by decide +kernel
theorem dX12_fell_47 : decode cX12_fell 47 = .ok (.getfield 53, 3) := by decide +kernel
theorem dX12_fell_50 : decode cX12_fell 50 = .ok (.iconst 3, 1) := by decide +kernel
theorem dX12_fell_51 : decode cX12_fell 51 = .ok (.aload_n 0, 1) := by decide +kernel
theorem dX12_fell_52 : decode cX12_fell 52 = .ok (.getfield 275, 3) := by decide +kernel
theorem dX12_fell_55 : decode cX12_fell 55 = .ok (.imul, 1) := by decide +kernel
theorem dX12_fell_56 : decode cX12_fell 56 = .ok (.iload_n 1, 1) := by decide +kernel
theorem dX12_fell_57 : decode cX12_fell 57 = .ok (.iastore, 1) := by decide +kernel
theorem dX12_fell_58 : decode cX12_fell 58 = .ok (.aload_n 0, 1) := by decide +kernel
theorem dX12_fell_59 : decode cX12_fell 59 = .ok (.getfield 53, 3) := by decide +kernel
theorem dX12_fell_62 : decode cX12_fell 62 = .ok (.iconst 3, 1) := by decide +kernel
theorem dX12_fell_63 : decode cX12_fell 63 = .ok (.aload_n 0, 1) := by decide +kernel
theorem dX12_fell_64 : decode cX12_fell 64 = .ok (.getfield 275, 3) := by decide +kernel
theorem dX12_fell_67 : decode cX12_fell 67 = .ok (.imul, 1) := by decide +kernel
theorem dX12_fell_68 : decode cX12_fell 68 = .ok (.iconst 1, 1) := by decide +kernel
theorem dX12_fell_69 : decode cX12_fell 69 = .ok (.iadd, 1) := by decide +kernel
theorem dX12_fell_70 : decode cX12_fell 70 = .ok (.iload_n 2, 1) := by decide +kernel
theorem dX12_fell_71 : decode cX12_fell 71 = .ok (.iastore, 1) := by decide +kernel
theorem dX12_fell_72 : decode cX12_fell 72 = .ok (.aload_n 0, 1) := by decide +kernel
theorem dX12_fell_73 : decode cX12_fell 73 = .ok (.getfield 53, 3) := by decide +kernel
theorem dX12_fell_76 : decode cX12_fell 76 = .ok (.iconst 3, 1) := by decide +kernel
theorem dX12_fell_77 : decode cX12_fell 77 = .ok (.aload_n 0, 1) := by decide +kernel
theorem dX12_fell_78 : decode cX12_fell 78 = .ok (.getfield 275, 3) := by decide +kernel
theorem dX12_fell_81 : decode cX12_fell 81 = .ok (.imul, 1) := by decide +kernel
theorem dX12_fell_82 : decode cX12_fell 82 = .ok (.iconst 2, 1) := by decide +kernel
theorem dX12_fell_83 : decode cX12_fell 83 = .ok (.iadd, 1) := by decide +kernel
theorem dX12_fell_84 : decode cX12_fell 84 = .ok (.iload_n 3, 1) := by decide +kernel
theorem dX12_fell_85 : decode cX12_fell 85 = .ok (.iastore, 1) := by decide +kernel
theorem dX12_fell_86 : decode cX12_fell 86 = .ok (.aload_n 0, 1) := by decide +kernel
theorem dX12_fell_87 : decode cX12_fell 87 = .ok (.dup, 1) := by decide +kernel
theorem dX12_fell_88 : decode cX12_fell 88 = .ok (.getfield 275, 3) := by decide +kernel
theorem dX12_fell_91 : decode cX12_fell 91 = .ok (.iconst 1, 1) := by decide +kernel
theorem dX12_fell_92 : decode cX12_fell 92 = .ok (.iadd, 1) := by decide +kernel
theorem dX12_fell_93 : decode cX12_fell 93 = .ok (.putfield 275, 3) := by decide +kernel
theorem dX12_fell_96 : decode cX12_fell 96 = .ok (.aload_n 0, 1) := by decide +kernel
theorem dX12_fell_97 : decode cX12_fell 97 = .ok (.getfield 275, 3) := by decide +kernel
theorem dX12_fell_100 : decode cX12_fell 100 = .ok (.ireturn, 1) := by decide +kernel
theorem dX12_forget_0 : decode cX12_forget 0 = .ok (.aload_n 0, 1) := by decide +kernel
theorem dX12_forget_1 : decode cX12_forget 1 = .ok (.getfield 275, 3) := by decide +kernel
theorem dX12_forget_4 : decode cX12_forget 4 = .ok (.istore_n 1, 1) := by decide +kernel
theorem dX12_forget_5 : decode cX12_forget 5 = .ok (.aload_n 0, 1) := by decide +kernel
theorem dX12_forget_6 : decode cX12_forget 6 = .ok (.iconst 0, 1) := by decide +kernel
theorem dX12_forget_7 : decode cX12_forget 7 = .ok (.putfield 275, 3) := by decide +kernel
theorem dX12_forget_10 : decode cX12_forget 10 = .ok (.iload_n 1, 1) := by decide +kernel
theorem dX12_forget_11 : decode cX12_forget 11 = .ok (.ireturn, 1) := by decide +kernel
theorem dX12_read_0 : decode cX12_read 0 = .ok (.iload_n 1, 1) := by decide +kernel
theorem dX12_read_1 : decode cX12_read 1 = .ok (.invokestatic 68, 3) := by decide +kernel
theorem dX12_read_4 : decode cX12_read 4 = .ok (.ifCond .ne 6, 3) := by decide +kernel
theorem dX12_read_7 : decode cX12_read 7 = .ok (.bipush (-2), 2) := by decide +kernel
theorem dX12_read_9 : decode cX12_read 9 = .ok (.ireturn, 1) := by decide +kernel
theorem dX12_read_10 : decode cX12_read 10 = .ok (.aload_n 0, 1) := by decide +kernel
theorem dX12_read_11 : decode cX12_read 11 = .ok (.getfield 7, 3) := by decide +kernel
theorem dX12_read_14 : decode cX12_read 14 = .ok (.iload_n 1, 1) := by decide +kernel
theorem dX12_read_15 : decode cX12_read 15 = .ok (.iaload, 1) := by decide +kernel
theorem dX12_read_16 : decode cX12_read 16 = .ok (.ifCond .ge 9, 3) := by decide +kernel
theorem dX12_read_19 : decode cX12_read 19 = .ok (.aload_n 0, 1) := by decide +kernel
theorem dX12_read_20 : decode cX12_read 20 = .ok (.iconst 1, 1) := by decide +kernel
theorem dX12_read_21 : decode cX12_read 21 = .ok (.invokevirtual 74, 3) := by decide +kernel
theorem dX12_read_24 : decode cX12_read 24 = .ok (.ireturn, 1) := by decide +kernel
theorem dX12_read_25 : decode cX12_read 25 = .ok (.iconst 0, 1) := by decide +kernel
theorem dX12_read_26 : decode cX12_read 26 = .ok (.istore_n 2, 1) := by decide +kernel
theorem dX12_read_27 : decode cX12_read 27 = .ok (.iconst 1, 1) := by decide +kernel
theorem dX12_read_28 : decode cX12_read 28 = .ok (.istore_n 3, 1) := by decide +kernel
theorem dX12_read_29 : decode cX12_read 29 = .ok (.iload_n 3, 1) := by decide +kernel
theorem dX12_read_30 : decode cX12_read 30 = .ok (.ifCond .eq 80, 3) := by decide +kernel
theorem dX12_read_33 : decode cX12_read 33 = .ok (.iconst 3, 1) := by decide +kernel
theorem dX12_read_34 : decode cX12_read 34 = .ok (.iload_n 2, 1) := by decide +kernel
theorem dX12_read_35 : decode cX12_read 35 = .ok (.imul, 1) := by decide +kernel
theorem dX12_read_36 : decode cX12_read 36 = .ok (.iconst 3, 1) := by decide +kernel
theorem dX12_read_37 : decode cX12_read 37 = .ok (.iadd, 1) := by decide +kernel
theorem dX12_read_38 : decode cX12_read 38 = .ok (.aload_n 0, 1) := by decide +kernel
theorem dX12_read_39 : decode cX12_read 39 = .ok (.getfield 13, 3) := by decide +kernel
theorem dX12_read_42 : decode cX12_read 42 = .ok (.iload_n 1, 1) := by decide +kernel
theorem dX12_read_43 : decode cX12_read 43 = .ok (.iaload, 1) := by decide +kernel
theorem dX12_read_44 : decode cX12_read 44 = .ok (.if_icmp .gt 66, 3) := by decide +kernel
theorem dX12_read_47 : decode cX12_read 47 = .ok (.bipush 60, 2) := by decide +kernel
theorem dX12_read_49 : decode cX12_read 49 = .ok (.iload_n 1, 1) := by decide +kernel
theorem dX12_read_50 : decode cX12_read 50 = .ok (.imul, 1) := by decide +kernel
theorem dX12_read_51 : decode cX12_read 51 = .ok (.iconst 3, 1) := by decide +kernel
theorem dX12_read_52 : decode cX12_read 52 = .ok (.iload_n 2, 1) := by decide +kernel
theorem dX12_read_53 : decode cX12_read 53 = .ok (.imul, 1) := by decide +kernel
theorem dX12_read_54 : decode cX12_read 54 = .ok (.iadd, 1) := by decide +kernel
theorem dX12_read_55 : decode cX12_read 55 = .ok (.istore 4, 2) := by decide +kernel
theorem dX12_read_57 : decode cX12_read 57 = .ok (.aload_n 0, 1) := by decide +kernel
theorem dX12_read_58 : decode cX12_read 58 = .ok (.aload_n 0, 1) := by decide +kernel
theorem dX12_read_59 : decode cX12_read 59 = .ok (.getfield 16, 3) := by decide +kernel
theorem dX12_read_62 : decode cX12_read 62 = .ok (.iload 4, 2) := by decide +kernel
theorem dX12_read_64 : decode cX12_read 64 = .ok (.iaload, 1) := by decide +kernel
theorem dX12_read_65 : decode cX12_read 65 = .ok (.aload_n 0, 1) := by decide +kernel
theorem dX12_read_66 : decode cX12_read 66 = .ok (.getfield 16, 3) := by decide +kernel
theorem dX12_read_69 : decode cX12_read 69 = .ok (.iload 4, 2) := by decide +kernel
theorem dX12_read_71 : decode cX12_read 71 = .ok (.iconst 1, 1) := by decide +kernel
theorem dX12_read_72 : decode cX12_read 72 = .ok (.iadd, 1) := by decide +kernel
theorem dX12_read_73 : decode cX12_read 73 = .ok (.iaload, 1) := by decide +kernel
theorem dX12_read_74 : decode cX12_read 74 = .ok (.aload_n 0, 1) := by decide +kernel
theorem dX12_read_75 : decode cX12_read 75 = .ok (.getfield 16, 3) := by decide +kernel
theorem dX12_read_78 : decode cX12_read 78 = .ok (.iload 4, 2) := by decide +kernel
theorem dX12_read_80 : decode cX12_read 80 = .ok (.iconst 2, 1) := by decide +kernel
theorem dX12_read_81 : decode cX12_read 81 = .ok (.iadd, 1) := by decide +kernel
theorem dX12_read_82 : decode cX12_read 82 = .ok (.iaload, 1) := by decide +kernel
theorem dX12_read_83 : decode cX12_read 83 = .ok (.invokevirtual 278, 3) := by decide +kernel
theorem dX12_read_86 : decode cX12_read 86 = .ok (.ifCond .lt 7, 3) := by decide +kernel
theorem dX12_read_89 : decode cX12_read 89 = .ok (.iconst 1, 1) := by decide +kernel
theorem dX12_read_90 : decode cX12_read 90 = .ok (.goto 4, 3) := by decide +kernel
theorem dX12_read_93 : decode cX12_read 93 = .ok (.iconst 0, 1) := by decide +kernel
theorem dX12_read_94 : decode cX12_read 94 = .ok (.istore_n 3, 1) := by decide +kernel
theorem dX12_read_95 : decode cX12_read 95 = .ok (.iload_n 2, 1) := by decide +kernel
theorem dX12_read_96 : decode cX12_read 96 = .ok (.iload_n 3, 1) := by decide +kernel
theorem dX12_read_97 : decode cX12_read 97 = .ok (.ifCond .eq 7, 3) := by decide +kernel
theorem dX12_read_100 : decode cX12_read 100 = .ok (.iconst 1, 1) := by decide +kernel
theorem dX12_read_101 : decode cX12_read 101 = .ok (.goto 4, 3) := by decide +kernel
theorem dX12_read_104 : decode cX12_read 104 = .ok (.iconst 0, 1) := by decide +kernel
theorem dX12_read_105 : decode cX12_read 105 = .ok (.iadd, 1) := by decide +kernel
theorem dX12_read_106 : decode cX12_read 106 = .ok (.istore_n 2, 1) := by decide +kernel
theorem dX12_read_107 : decode cX12_read 107 = .ok (.goto (-78), 3) := by decide +kernel
theorem dX12_read_110 : decode cX12_read 110 = .ok (.iload_n 2, 1) := by decide +kernel
theorem dX12_read_111 : decode cX12_read 111 = .ok (.ireturn, 1) := by decide +kernel
theorem dX12_likely_0 : decode cX12_likely 0 = .ok (.lconst 1, 1) := by decide +kernel
theorem dX12_likely_1 : decode cX12_likely 1 = .ok (.lstore_n 3, 1) := by decide +kernel
theorem dX12_likely_2 : decode cX12_likely 2 = .ok (.iconst 0, 1) := by decide +kernel
theorem dX12_likely_3 : decode cX12_likely 3 = .ok (.istore 5, 2) := by decide +kernel
theorem dX12_likely_5 : decode cX12_likely 5 = .ok (.iload 5, 2) := by decide +kernel
theorem dX12_likely_7 : decode cX12_likely 7 = .ok (.aload_n 0, 1) := by decide +kernel
theorem dX12_likely_8 : decode cX12_likely 8 = .ok (.getfield 275, 3) := by decide +kernel
theorem dX12_likely_11 : decode cX12_likely 11 = .ok (.if_icmp .ge 95, 3) := by decide +kernel
theorem dX12_likely_14 : decode cX12_likely 14 = .ok (.aload_n 0, 1) := by decide +kernel
theorem dX12_likely_15 : decode cX12_likely 15 = .ok (.getfield 53, 3) := by decide +kernel
theorem dX12_likely_18 : decode cX12_likely 18 = .ok (.iconst 3, 1) := by decide +kernel
theorem dX12_likely_19 : decode cX12_likely 19 = .ok (.iload 5, 2) := by decide +kernel
theorem dX12_likely_21 : decode cX12_likely 21 = .ok (.imul, 1) := by decide +kernel
theorem dX12_likely_22 : decode cX12_likely 22 = .ok (.iaload, 1) := by decide +kernel
theorem dX12_likely_23 : decode cX12_likely 23 = .ok (.istore 6, 2) := by decide +kernel
theorem dX12_likely_25 : decode cX12_likely 25 = .ok (.aload_n 0, 1) := by decide +kernel
theorem dX12_likely_26 : decode cX12_likely 26 = .ok (.iload 6, 2) := by decide +kernel
theorem dX12_likely_28 : decode cX12_likely 28 = .ok (.invokevirtual 126, 3) := by decide +kernel
theorem dX12_likely_31 : decode cX12_likely 31 = .ok (.ifCond .eq 69, 3) := by decide +kernel
theorem dX12_likely_34 : decode cX12_likely 34 = .ok (.aload_n 0, 1) := by decide +kernel
theorem dX12_likely_35 : decode cX12_likely 35 = .ok (.getfield 53, 3) := by decide +kernel
theorem dX12_likely_38 : decode cX12_likely 38 = .ok (.iconst 3, 1) := by decide +kernel
theorem dX12_likely_39 : decode cX12_likely 39 = .ok (.iload 5, 2) := by decide +kernel
theorem dX12_likely_41 : decode cX12_likely 41 = .ok (.imul, 1) := by decide +kernel
theorem dX12_likely_42 : decode cX12_likely 42 = .ok (.iconst 1, 1) := by decide +kernel
theorem dX12_likely_43 : decode cX12_likely 43 = .ok (.iadd, 1) := by decide +kernel
theorem dX12_likely_44 : decode cX12_likely 44 = .ok (.iaload, 1) := by decide +kernel
theorem dX12_likely_45 : decode cX12_likely 45 = .ok (.iload_n 1, 1) := by decide +kernel
theorem dX12_likely_46 : decode cX12_likely 46 = .ok (.if_icmp .ne 54, 3) := by decide +kernel
theorem dX12_likely_49 : decode cX12_likely 49 = .ok (.aload_n 0, 1) := by decide +kernel
theorem dX12_likely_50 : decode cX12_likely 50 = .ok (.iload_n 2, 1) := by decide +kernel
theorem dX12_likely_51 : decode cX12_likely 51 = .ok (.aload_n 0, 1) := by decide +kernel
theorem dX12_likely_52 : decode cX12_likely 52 = .ok (.getfield 34, 3) := by decide +kernel
theorem dX12_likely_55 : decode cX12_likely 55 = .ok (.iload 6, 2) := by decide +kernel
theorem dX12_likely_57 : decode cX12_likely 57 = .ok (.iaload, 1) := by decide +kernel
theorem dX12_likely_58 : decode cX12_likely 58 = .ok (.aload_n 0, 1) := by decide +kernel
theorem dX12_likely_59 : decode cX12_likely 59 = .ok (.getfield 37, 3) := by decide +kernel
theorem dX12_likely_62 : decode cX12_likely 62 = .ok (.iload 6, 2) := by decide +kernel
theorem dX12_likely_64 : decode cX12_likely 64 = .ok (.iaload, 1) := by decide +kernel
theorem dX12_likely_65 : decode cX12_likely 65 = .ok (.invokevirtual 166, 3) := by decide +kernel
theorem dX12_likely_68 : decode cX12_likely 68 = .ok (.istore 7, 2) := by decide +kernel
theorem dX12_likely_70 : decode cX12_likely 70 = .ok (.lload_n 3, 1) := by decide +kernel
theorem dX12_likely_71 : decode cX12_likely 71 = .ok (.aload_n 0, 1) := by decide +kernel
theorem dX12_likely_72 : decode cX12_likely 72 = .ok (.getfield 53, 3) := by decide +kernel
theorem dX12_likely_75 : decode cX12_likely 75 = .ok (.iconst 3, 1) := by decide +kernel
theorem dX12_likely_76 : decode cX12_likely 76 = .ok (.iload 5, 2) := by decide +kernel
theorem dX12_likely_78 : decode cX12_likely 78 = .ok (.imul, 1) := by decide +kernel
theorem dX12_likely_79 : decode cX12_likely 79 = .ok (.iconst 2, 1) := by decide +kernel
theorem dX12_likely_80 : decode cX12_likely 80 = .ok (.iadd, 1) := by decide +kernel
theorem dX12_likely_81 : decode cX12_likely 81 = .ok (.iaload, 1) := by decide +kernel
theorem dX12_likely_82 : decode cX12_likely 82 = .ok (.iconst 1, 1) := by decide +kernel
theorem dX12_likely_83 : decode cX12_likely 83 = .ok (.if_icmp .ne 9, 3) := by decide +kernel
theorem dX12_likely_86 : decode cX12_likely 86 = .ok (.iload 7, 2) := by decide +kernel
theorem dX12_likely_88 : decode cX12_likely 88 = .ok (.i2l, 1) := by decide +kernel
theorem dX12_likely_89 : decode cX12_likely 89 = .ok (.goto 9, 3) := by decide +kernel
theorem dX12_likely_92 : decode cX12_likely 92 = .ok (.bipush 16, 2) := by decide +kernel
theorem dX12_likely_94 : decode cX12_likely 94 = .ok (.iload 7, 2) := by decide +kernel
theorem dX12_likely_96 : decode cX12_likely 96 = .ok (.isub, 1) := by decide +kernel
theorem dX12_likely_97 : decode cX12_likely 97 = .ok (.i2l, 1) := by decide +kernel
theorem dX12_likely_98 : decode cX12_likely 98 = .ok (.lmul, 1) := by decide +kernel
theorem dX12_likely_99 : decode cX12_likely 99 = .ok (.lstore_n 3, 1) := by decide +kernel
theorem dX12_likely_100 : decode cX12_likely 100 = .ok (.iinc 5 1, 3) := by decide +kernel
theorem dX12_likely_103 : decode cX12_likely 103 = .ok (.goto (-98), 3) := by decide +kernel
theorem dX12_likely_106 : decode cX12_likely 106 = .ok (.lload_n 3, 1) := by decide +kernel
theorem dX12_likely_107 : decode cX12_likely 107 = .ok (.lreturn, 1) := by decide +kernel
theorem dX12_looseOf_0 : decode cX12_looseOf 0 = .ok (.iconst (-1), 1) := by decide +kernel
theorem dX12_looseOf_1 : decode cX12_looseOf 1 = .ok (.istore_n 2, 1) := by decide +kernel
theorem dX12_looseOf_2 : decode cX12_looseOf 2 = .ok (.lconst 0, 1) := by decide +kernel
theorem dX12_looseOf_3 : decode cX12_looseOf 3 = .ok (.lstore_n 3, 1) := by decide +kernel
theorem dX12_looseOf_4 : decode cX12_looseOf 4 = .ok (.iconst 1, 1) := by decide +kernel
theorem dX12_looseOf_5 : decode cX12_looseOf 5 = .ok (.istore 5, 2) := by decide +kernel
theorem dX12_looseOf_7 : decode cX12_looseOf 7 = .ok (.iload 5, 2) := by decide +kernel
theorem dX12_looseOf_9 : decode cX12_looseOf 9 = .ok (.bipush 10, 2) := by decide +kernel
theorem dX12_looseOf_11 : decode cX12_looseOf 11 = .ok (.if_icmp .ge 46, 3) := by decide +kernel
theorem dX12_looseOf_14 : decode cX12_looseOf 14 = .ok (.aload_n 0, 1) := by decide +kernel
theorem dX12_looseOf_15 : decode cX12_looseOf 15 = .ok (.iload_n 1, 1) := by decide +kernel
theorem dX12_looseOf_16 : decode cX12_looseOf 16 = .ok (.iload 5, 2) := by decide +kernel
theorem dX12_looseOf_18 : decode cX12_looseOf 18 = .ok (.invokevirtual 280, 3) := by decide +kernel
theorem dX12_looseOf_21 : decode cX12_looseOf 21 = .ok (.lstore 6, 2) := by decide +kernel
theorem dX12_looseOf_23 : decode cX12_looseOf 23 = .ok (.lload 6, 2) := by decide +kernel
theorem dX12_looseOf_25 : decode cX12_looseOf 25 = .ok (.lload_n 3, 1) := by decide +kernel
theorem dX12_looseOf_26 : decode cX12_looseOf 26 = .ok (.lcmp, 1) := by decide +kernel
theorem dX12_looseOf_27 : decode cX12_looseOf 27 = .ok (.ifCond .le 8, 3) := by decide +kernel
theorem dX12_looseOf_30 : decode cX12_looseOf 30 = .ok (.iload 5, 2) := by decide +kernel
theorem dX12_looseOf_32 : decode cX12_looseOf 32 = .ok (.goto 4, 3) := by decide +kernel
theorem dX12_looseOf_35 : decode cX12_looseOf 35 = .ok (.iload_n 2, 1) := by decide +kernel
theorem dX12_looseOf_36 : decode cX12_looseOf 36 = .ok (.istore_n 2, 1) := by decide +kernel
theorem dX12_looseOf_37 : decode cX12_looseOf 37 = .ok (.lload 6, 2) := by decide +kernel
theorem dX12_looseOf_39 : decode cX12_looseOf 39 = .ok (.lload_n 3, 1) := by decide +kernel
theorem dX12_looseOf_40 : decode cX12_looseOf 40 = .ok (.lcmp, 1) := by decide +kernel
theorem dX12_looseOf_41 : decode cX12_looseOf 41 = .ok (.ifCond .le 8, 3) := by decide +kernel
theorem dX12_looseOf_44 : decode cX12_looseOf 44 = .ok (.lload 6, 2) := by decide +kernel
theorem dX12_looseOf_46 : decode cX12_looseOf 46 = .ok (.goto 4, 3) := by decide +kernel
theorem dX12_looseOf_49 : decode cX12_looseOf 49 = .ok (.lload_n 3, 1) := by decide +kernel
theorem dX12_looseOf_50 : decode cX12_looseOf 50 = .ok (.lstore_n 3, 1) := by decide +kernel
theorem dX12_looseOf_51 : decode cX12_looseOf 51 = .ok (.iinc 5 1, 3) := by decide +kernel
theorem dX12_looseOf_54 : decode cX12_looseOf 54 = .ok (.goto (-47), 3) := by decide +kernel
theorem dX12_looseOf_57 : decode cX12_looseOf 57 = .ok (.iload_n 2, 1) := by decide +kernel
theorem dX12_looseOf_58 : decode cX12_looseOf 58 = .ok (.ireturn, 1) := by decide +kernel
theorem dX12_loose_0 : decode cX12_loose 0 = .ok (.aload_n 0, 1) := by decide +kernel
theorem dX12_loose_1 : decode cX12_loose 1 = .ok (.invokevirtual 120, 3) := by decide +kernel
theorem dX12_loose_4 : decode cX12_loose 4 = .ok (.aload_n 0, 1) := by decide +kernel
theorem dX12_loose_5 : decode cX12_loose 5 = .ok (.iload_n 1, 1) := by decide +kernel
theorem dX12_loose_6 : decode cX12_loose 6 = .ok (.invokevirtual 123, 3) := by decide +kernel
theorem dX12_loose_9 : decode cX12_loose 9 = .ok (.ifCond .eq 11, 3) := by decide +kernel
theorem dX12_loose_12 : decode cX12_loose 12 = .ok (.aload_n 0, 1) := by decide +kernel
theorem dX12_loose_13 : decode cX12_loose 13 = .ok (.iload_n 1, 1) := by decide +kernel
theorem dX12_loose_14 : decode cX12_loose 14 = .ok (.invokevirtual 283, 3) := by decide +kernel
theorem dX12_loose_17 : decode cX12_loose 17 = .ok (.goto 5, 3) := by decide +kernel
theorem dX12_loose_20 : decode cX12_loose 20 = .ok (.bipush (-2), 2) := by decide +kernel
theorem dX12_loose_22 : decode cX12_loose 22 = .ok (.ireturn, 1) := by decide +kernel
theorem dX12_lot_0 : decode cX12_lot 0 = .ok (.aload_n 0, 1) := by decide +kernel
theorem dX12_lot_1 : decode cX12_lot 1 = .ok (.ldc_w 286, 3) := by decide +kernel
theorem dX12_lot_4 : decode cX12_lot 4 = .ok (.aload_n 0, 1) := by decide +kernel
theorem dX12_lot_5 : decode cX12_lot 5 = .ok (.getfield 287, 3) := by decide +kernel
theorem dX12_lot_8 : decode cX12_lot 8 = .ok (.imul, 1) := by decide +kernel
theorem dX12_lot_9 : decode cX12_lot 9 = .ok (.sipush 12345, 3) := by decide +kernel
theorem dX12_lot_12 : decode cX12_lot 12 = .ok (.iadd, 1) := by decide +kernel
theorem dX12_lot_13 : decode cX12_lot 13 = .ok (.putfield 287, 3) := by decide +kernel
theorem dX12_lot_16 : decode cX12_lot 16 = .ok (.aload_n 0, 1) := by decide +kernel
theorem dX12_lot_17 : decode cX12_lot 17 = .ok (.getfield 287, 3) := by decide +kernel
theorem dX12_lot_20 : decode cX12_lot 20 = .ok (.bipush 16, 2) := by decide +kernel
theorem dX12_lot_22 : decode cX12_lot 22 = .ok (.iushr, 1) := by decide +kernel
theorem dX12_lot_23 : decode cX12_lot 23 = .ok (.bipush 16, 2) := by decide +kernel
theorem dX12_lot_25 : decode cX12_lot 25 = .ok (.irem, 1) := by decide +kernel
theorem dX12_lot_26 : decode cX12_lot 26 = .ok (.ireturn, 1) := by decide +kernel
theorem dX12_falls_0 : decode cX12_falls 0 = .ok (.iconst 0, 1) := by decide +kernel
theorem dX12_falls_1 : decode cX12_falls 1 = .ok (.istore 4, 2) := by decide +kernel
theorem dX12_falls_3 : decode cX12_falls 3 = .ok (.iconst 0, 1) := by decide +kernel
theorem dX12_falls_4 : decode cX12_falls 4 = .ok (.istore 5, 2) := by decide +kernel
theorem dX12_falls_6 : decode cX12_falls 6 = .ok (.iload 5, 2) := by decide +kernel
theorem dX12_falls_8 : decode cX12_falls 8 = .ok (.aload_n 0, 1) := by decide +kernel
theorem dX12_falls_9 : decode cX12_falls 9 = .ok (.getfield 106, 3) := by decide +kernel
theorem dX12_falls_12 : decode cX12_falls 12 = .ok (.if_icmp .ge 62, 3) := by decide +kernel
theorem dX12_falls_15 : decode cX12_falls 15 = .ok (.iload_n 2, 1) := by decide +kernel
theorem dX12_falls_16 : decode cX12_falls 16 = .ok (.iconst (-1), 1) := by decide +kernel
theorem dX12_falls_17 : decode cX12_falls 17 = .ok (.if_icmp .eq 17, 3) := by decide +kernel
theorem dX12_falls_20 : decode cX12_falls 20 = .ok (.aload_n 0, 1) := by decide +kernel
theorem dX12_falls_21 : decode cX12_falls 21 = .ok (.iload_n 2, 1) := by decide +kernel
theorem dX12_falls_22 : decode cX12_falls 22 = .ok (.iload 5, 2) := by decide +kernel
theorem dX12_falls_24 : decode cX12_falls 24 = .ok (.invokevirtual 180, 3) := by decide +kernel
theorem dX12_falls_27 : decode cX12_falls 27 = .ok (.ifCond .eq 7, 3) := by decide +kernel
theorem dX12_falls_30 : decode cX12_falls 30 = .ok (.iconst 0, 1) := by decide +kernel
theorem dX12_falls_31 : decode cX12_falls 31 = .ok (.goto 11, 3) := by decide +kernel
theorem dX12_falls_34 : decode cX12_falls 34 = .ok (.aload_n 0, 1) := by decide +kernel
theorem dX12_falls_35 : decode cX12_falls 35 = .ok (.iload_n 1, 1) := by decide +kernel
theorem dX12_falls_36 : decode cX12_falls 36 = .ok (.iload 5, 2) := by decide +kernel
theorem dX12_falls_38 : decode cX12_falls 38 = .ok (.iload_n 3, 1) := by decide +kernel
theorem dX12_falls_39 : decode cX12_falls 39 = .ok (.invokevirtual 183, 3) := by decide +kernel
theorem dX12_falls_42 : decode cX12_falls 42 = .ok (.istore 6, 2) := by decide +kernel
theorem dX12_falls_44 : decode cX12_falls 44 = .ok (.iload 4, 2) := by decide +kernel
theorem dX12_falls_46 : decode cX12_falls 46 = .ok (.iload 6, 2) := by decide +kernel
theorem dX12_falls_48 : decode cX12_falls 48 = .ok (.ifCond .le 16, 3) := by decide +kernel
theorem dX12_falls_51 : decode cX12_falls 51 = .ok (.aload_n 0, 1) := by decide +kernel
theorem dX12_falls_52 : decode cX12_falls 52 = .ok (.invokevirtual 290, 3) := by decide +kernel
theorem dX12_falls_55 : decode cX12_falls 55 = .ok (.iload 6, 2) := by decide +kernel
theorem dX12_falls_57 : decode cX12_falls 57 = .ok (.if_icmp .ge 7, 3) := by decide +kernel
theorem dX12_falls_60 : decode cX12_falls 60 = .ok (.iconst 1, 1) := by decide +kernel
theorem dX12_falls_61 : decode cX12_falls 61 = .ok (.goto 4, 3) := by decide +kernel
theorem dX12_falls_64 : decode cX12_falls 64 = .ok (.iconst 0, 1) := by decide +kernel
theorem dX12_falls_65 : decode cX12_falls 65 = .ok (.iadd, 1) := by decide +kernel
theorem dX12_falls_66 : decode cX12_falls 66 = .ok (.istore 4, 2) := by decide +kernel
theorem dX12_falls_68 : decode cX12_falls 68 = .ok (.iinc 5 1, 3) := by decide +kernel
theorem dX12_falls_71 : decode cX12_falls 71 = .ok (.goto (-65), 3) := by decide +kernel
theorem dX12_falls_74 : decode cX12_falls 74 = .ok (.iload 4, 2) := by decide +kernel
theorem dX12_falls_76 : decode cX12_falls 76 = .ok (.ireturn, 1) := by decide +kernel
theorem dX12_morningOf_0 : decode cX12_morningOf 0 = .ok (.aload_n 0, 1) := by decide +kernel
theorem dX12_morningOf_1 : decode cX12_morningOf 1 = .ok (.iload_n 1, 1) := by decide +kernel
theorem dX12_morningOf_2 : decode cX12_morningOf 2 = .ok (.putfield 287, 3) := by decide +kernel
theorem dX12_morningOf_5 : decode cX12_morningOf 5 = .ok (.iconst 0, 1) := by decide +kernel
theorem dX12_morningOf_6 : decode cX12_morningOf 6 = .ok (.istore_n 2, 1) := by decide +kernel
theorem dX12_morningOf_7 : decode cX12_morningOf 7 = .ok (.aload_n 0, 1) := by decide +kernel
theorem dX12_morningOf_8 : decode cX12_morningOf 8 = .ok (.getfield 44, 3) := by decide +kernel
theorem dX12_morningOf_11 : decode cX12_morningOf 11 = .ok (.iconst 3, 1) := by decide +kernel
theorem dX12_morningOf_12 : decode cX12_morningOf 12 = .ok (.iaload, 1) := by decide +kernel
theorem dX12_morningOf_13 : decode cX12_morningOf 13 = .ok (.istore_n 3, 1) := by decide +kernel
theorem dX12_morningOf_14 : decode cX12_morningOf 14 = .ok (.iload_n 3, 1) := by decide +kernel
theorem dX12_morningOf_15 : decode cX12_morningOf 15 = .ok (.aload_n 0, 1) := by decide +kernel
theorem dX12_morningOf_16 : decode cX12_morningOf 16 = .ok (.invokevirtual 211, 3) := by decide +kernel
theorem dX12_morningOf_19 : decode cX12_morningOf 19 = .ok (.if_icmp .ge 161, 3) := by decide +kernel
theorem dX12_morningOf_22 : decode cX12_morningOf 22 = .ok (.iconst 0, 1) := by decide +kernel
theorem dX12_morningOf_23 : decode cX12_morningOf 23 = .ok (.istore 4, 2) := by decide +kernel
theorem dX12_morningOf_25 : decode cX12_morningOf 25 = .ok (.iload 4, 2) := by decide +kernel
theorem dX12_morningOf_27 : decode cX12_morningOf 27 = .ok (.aload_n 0, 1) := by decide +kernel
theorem dX12_morningOf_28 : decode cX12_morningOf 28 = .ok (.getfield 106, 3) := by decide +kernel
theorem dX12_morningOf_31 : decode cX12_morningOf 31 = .ok (.if_icmp .ge 81, 3) := by decide +kernel
theorem dX12_morningOf_34 : decode cX12_morningOf 34 = .ok (.iconst 0, 1) := by decide +kernel
theorem dX12_morningOf_35 : decode cX12_morningOf 35 = .ok (.istore 5, 2) := by decide +kernel
theorem dX12_morningOf_37 : decode cX12_morningOf 37 = .ok (.iload 5, 2) := by decide +kernel
theorem dX12_morningOf_39 : decode cX12_morningOf 39 = .ok (.aload_n 0, 1) := by decide +kernel
theorem dX12_morningOf_40 : decode cX12_morningOf 40 = .ok (.getfield 95, 3) := by decide +kernel
theorem dX12_morningOf_43 : decode cX12_morningOf 43 = .ok (.if_icmp .ge 63, 3) := by decide +kernel
theorem dX12_morningOf_46 : decode cX12_morningOf 46 = .ok (.aload_n 0, 1) := by decide +kernel
theorem dX12_morningOf_47 : decode cX12_morningOf 47 = .ok (.getfield 31, 3) := by decide +kernel
theorem dX12_morningOf_50 : decode cX12_morningOf 50 = .ok (.iload 5, 2) := by decide +kernel
theorem dX12_morningOf_52 : decode cX12_morningOf 52 = .ok (.iaload, 1) := by decide +kernel
theorem dX12_morningOf_53 : decode cX12_morningOf 53 = .ok (.ifCond .le 47, 3) := by decide +kernel
theorem dX12_morningOf_56 : decode cX12_morningOf 56 = .ok (.aload_n 0, 1) := by decide +kernel
theorem dX12_morningOf_57 : decode cX12_morningOf 57 = .ok (.iload 4, 2) := by decide +kernel
theorem dX12_morningOf_59 : decode cX12_morningOf 59 = .ok (.iload 5, 2) := by decide +kernel
theorem dX12_morningOf_61 : decode cX12_morningOf 61 = .ok (.iload_n 3, 1) := by decide +kernel
theorem dX12_morningOf_62 : decode cX12_morningOf 62 = .ok (.invokevirtual 265, 3) := by decide +kernel
theorem dX12_morningOf_65 : decode cX12_morningOf 65 = .ok (.ifCond .eq 35, 3) := by decide +kernel
theorem dX12_morningOf_68 : decode cX12_morningOf 68 = .ok (.aload_n 0, 1) := by decide +kernel
theorem dX12_morningOf_69 : decode cX12_morningOf 69 = .ok (.invokevirtual 290, 3) := by decide +kernel
theorem dX12_morningOf_72 : decode cX12_morningOf 72 = .ok (.aload_n 0, 1) := by decide +kernel
theorem dX12_morningOf_73 : decode cX12_morningOf 73 = .ok (.aload_n 0, 1) := by decide +kernel
theorem dX12_morningOf_74 : decode cX12_morningOf 74 = .ok (.getfield 47, 3) := by decide +kernel
theorem dX12_morningOf_77 : decode cX12_morningOf 77 = .ok (.iload 4, 2) := by decide +kernel
theorem dX12_morningOf_79 : decode cX12_morningOf 79 = .ok (.iaload, 1) := by decide +kernel
theorem dX12_morningOf_80 : decode cX12_morningOf 80 = .ok (.iload 5, 2) := by decide +kernel
theorem dX12_morningOf_82 : decode cX12_morningOf 82 = .ok (.invokevirtual 169, 3) := by decide +kernel
theorem dX12_morningOf_85 : decode cX12_morningOf 85 = .ok (.if_icmp .ge 15, 3) := by decide +kernel
theorem dX12_morningOf_88 : decode cX12_morningOf 88 = .ok (.iload_n 2, 1) := by decide +kernel
theorem dX12_morningOf_89 : decode cX12_morningOf 89 = .ok (.aload_n 0, 1) := by decide +kernel
theorem dX12_morningOf_90 : decode cX12_morningOf 90 = .ok (.iload 5, 2) := by decide +kernel
theorem dX12_morningOf_92 : decode cX12_morningOf 92 = .ok (.iload 4, 2) := by decide +kernel
theorem dX12_morningOf_94 : decode cX12_morningOf 94 = .ok (.iload_n 3, 1) := by decide +kernel
theorem dX12_morningOf_95 : decode cX12_morningOf 95 = .ok (.invokevirtual 293, 3) := by decide +kernel
theorem dX12_morningOf_98 : decode cX12_morningOf 98 = .ok (.iadd, 1) := by decide +kernel
theorem dX12_morningOf_99 : decode cX12_morningOf 99 = .ok (.istore_n 2, 1) := by decide +kernel
theorem dX12_morningOf_100 : decode cX12_morningOf 100 = .ok (.iinc 5 1, 3) := by decide +kernel
theorem dX12_morningOf_103 : decode cX12_morningOf 103 = .ok (.goto (-66), 3) := by decide +kernel
theorem dX12_morningOf_106 : decode cX12_morningOf 106 = .ok (.iinc 4 1, 3) := by decide +kernel
theorem dX12_morningOf_109 : decode cX12_morningOf 109 = .ok (.goto (-84), 3) := by decide +kernel
theorem dX12_morningOf_112 : decode cX12_morningOf 112 = .ok (.iconst 0, 1) := by decide +kernel
theorem dX12_morningOf_113 : decode cX12_morningOf 113 = .ok (.istore 4, 2) := by decide +kernel
theorem dX12_morningOf_115 : decode cX12_morningOf 115 = .ok (.iload 4, 2) := by decide +kernel
theorem dX12_morningOf_117 : decode cX12_morningOf 117 = .ok (.aload_n 0, 1) := by decide +kernel
theorem dX12_morningOf_118 : decode cX12_morningOf 118 = .ok (.getfield 95, 3) := by decide +kernel
theorem dX12_morningOf_121 : decode cX12_morningOf 121 = .ok (.if_icmp .ge 53, 3) := by decide +kernel
theorem dX12_morningOf_124 : decode cX12_morningOf 124 = .ok (.iload_n 3, 1) := by decide +kernel
theorem dX12_morningOf_125 : decode cX12_morningOf 125 = .ok (.aload_n 0, 1) := by decide +kernel
theorem dX12_morningOf_126 : decode cX12_morningOf 126 = .ok (.getfield 44, 3) := by decide +kernel
theorem dX12_morningOf_129 : decode cX12_morningOf 129 = .ok (.iconst 4, 1) := by decide +kernel
theorem dX12_morningOf_130 : decode cX12_morningOf 130 = .ok (.iaload, 1) := by decide +kernel
theorem dX12_morningOf_131 : decode cX12_morningOf 131 = .ok (.if_icmp .lt 43, 3) := by decide +kernel
theorem dX12_morningOf_134 : decode cX12_morningOf 134 = .ok (.aload_n 0, 1) := by decide +kernel
theorem dX12_morningOf_135 : decode cX12_morningOf 135 = .ok (.getfield 31, 3) := by decide +kernel
theorem dX12_morningOf_138 : decode cX12_morningOf 138 = .ok (.iload 4, 2) := by decide +kernel
theorem dX12_morningOf_140 : decode cX12_morningOf 140 = .ok (.iaload, 1) := by decide +kernel
theorem dX12_morningOf_141 : decode cX12_morningOf 141 = .ok (.ifCond .le 27, 3) := by decide +kernel
theorem dX12_morningOf_144 : decode cX12_morningOf 144 = .ok (.aload_n 0, 1) := by decide +kernel
theorem dX12_morningOf_145 : decode cX12_morningOf 145 = .ok (.invokevirtual 290, 3) := by decide +kernel
theorem dX12_morningOf_148 : decode cX12_morningOf 148 = .ok (.aload_n 0, 1) := by decide +kernel
theorem dX12_morningOf_149 : decode cX12_morningOf 149 = .ok (.getfield 44, 3) := by decide +kernel
theorem dX12_morningOf_152 : decode cX12_morningOf 152 = .ok (.iconst 5, 1) := by decide +kernel
theorem dX12_morningOf_153 : decode cX12_morningOf 153 = .ok (.iaload, 1) := by decide +kernel
theorem dX12_morningOf_154 : decode cX12_morningOf 154 = .ok (.if_icmp .ge 14, 3) := by decide +kernel
theorem dX12_morningOf_157 : decode cX12_morningOf 157 = .ok (.iload_n 2, 1) := by decide +kernel
theorem dX12_morningOf_158 : decode cX12_morningOf 158 = .ok (.aload_n 0, 1) := by decide +kernel
theorem dX12_morningOf_159 : decode cX12_morningOf 159 = .ok (.iload 4, 2) := by decide +kernel
theorem dX12_morningOf_161 : decode cX12_morningOf 161 = .ok (.iconst (-1), 1) := by decide +kernel
theorem dX12_morningOf_162 : decode cX12_morningOf 162 = .ok (.iload_n 3, 1) := by decide +kernel
theorem dX12_morningOf_163 : decode cX12_morningOf 163 = .ok (.invokevirtual 293, 3) := by decide +kernel
theorem dX12_morningOf_166 : decode cX12_morningOf 166 = .ok (.iadd, 1) := by decide +kernel
theorem dX12_morningOf_167 : decode cX12_morningOf 167 = .ok (.istore_n 2, 1) := by decide +kernel
theorem dX12_morningOf_168 : decode cX12_morningOf 168 = .ok (.iinc 4 1, 3) := by decide +kernel
theorem dX12_morningOf_171 : decode cX12_morningOf 171 = .ok (.goto (-56), 3) := by decide +kernel
theorem dX12_morningOf_174 : decode cX12_morningOf 174 = .ok (.iinc 3 1, 3) := by decide +kernel
theorem dX12_morningOf_177 : decode cX12_morningOf 177 = .ok (.goto (-163), 3) := by decide +kernel
theorem dX12_morningOf_180 : decode cX12_morningOf 180 = .ok (.iload_n 2, 1) := by decide +kernel
theorem dX12_morningOf_181 : decode cX12_morningOf 181 = .ok (.ireturn, 1) := by decide +kernel
theorem dX12_morning_0 : decode cX12_morning 0 = .ok (.aload_n 0, 1) := by decide +kernel
theorem dX12_morning_1 : decode cX12_morning 1 = .ok (.invokevirtual 120, 3) := by decide +kernel
theorem dX12_morning_4 : decode cX12_morning 4 = .ok (.aload_n 0, 1) := by decide +kernel
theorem dX12_morning_5 : decode cX12_morning 5 = .ok (.iload_n 1, 1) := by decide +kernel
theorem dX12_morning_6 : decode cX12_morning 6 = .ok (.invokevirtual 296, 3) := by decide +kernel
theorem dX12_morning_9 : decode cX12_morning 9 = .ok (.ireturn, 1) := by decide +kernel
theorem dX12_write_0 : decode cX12_write 0 = .ok (.iload_n 1, 1) := by decide +kernel
theorem dX12_write_1 : decode cX12_write 1 = .ok (.i2l, 1) := by decide +kernel
theorem dX12_write_2 : decode cX12_write 2 = .ok (.lconst 0, 1) := by decide +kernel
theorem dX12_write_3 : decode cX12_write 3 = .ok (.ldc2_w 155, 3) := by decide +kernel
theorem dX12_write_6 : decode cX12_write 6 = .ok (.invokestatic 58, 3) := by decide +kernel
theorem dX12_write_9 : decode cX12_write 9 = .ok (.ifCond .eq 10, 3) := by decide +kernel
theorem dX12_write_12 : decode cX12_write 12 = .ok (.iload_n 2, 1) := by decide +kernel
theorem dX12_write_13 : decode cX12_write 13 = .ok (.invokestatic 68, 3) := by decide +kernel
theorem dX12_write_16 : decode cX12_write 16 = .ok (.ifCond .ne 6, 3) := by decide +kernel
theorem dX12_write_19 : decode cX12_write 19 = .ok (.bipush (-2), 2) := by decide +kernel
theorem dX12_write_21 : decode cX12_write 21 = .ok (.ireturn, 1) := by decide +kernel
theorem dX12_write_22 : decode cX12_write 22 = .ok (.aload_n 0, 1) := by decide +kernel
theorem dX12_write_23 : decode cX12_write 23 = .ok (.getfield 7, 3) := by decide +kernel
theorem dX12_write_26 : decode cX12_write 26 = .ok (.iload_n 2, 1) := by decide +kernel
theorem dX12_write_27 : decode cX12_write 27 = .ok (.iaload, 1) := by decide +kernel
theorem dX12_write_28 : decode cX12_write 28 = .ok (.ifCond .ge 9, 3) := by decide +kernel
theorem dX12_write_31 : decode cX12_write 31 = .ok (.aload_n 0, 1) := by decide +kernel
theorem dX12_write_32 : decode cX12_write 32 = .ok (.iconst 1, 1) := by decide +kernel
theorem dX12_write_33 : decode cX12_write 33 = .ok (.invokevirtual 74, 3) := by decide +kernel
theorem dX12_write_36 : decode cX12_write 36 = .ok (.ireturn, 1) := by decide +kernel
theorem dX12_write_37 : decode cX12_write 37 = .ok (.aload_n 0, 1) := by decide +kernel
theorem dX12_write_38 : decode cX12_write 38 = .ok (.invokevirtual 120, 3) := by decide +kernel
theorem dX12_write_41 : decode cX12_write 41 = .ok (.aload_n 0, 1) := by decide +kernel
theorem dX12_write_42 : decode cX12_write 42 = .ok (.getfield 13, 3) := by decide +kernel
theorem dX12_write_45 : decode cX12_write 45 = .ok (.iload_n 2, 1) := by decide +kernel
theorem dX12_write_46 : decode cX12_write 46 = .ok (.iaload, 1) := by decide +kernel
theorem dX12_write_47 : decode cX12_write 47 = .ok (.aload_n 0, 1) := by decide +kernel
theorem dX12_write_48 : decode cX12_write 48 = .ok (.getfield 106, 3) := by decide +kernel
theorem dX12_write_51 : decode cX12_write 51 = .ok (.invokestatic 163, 3) := by decide +kernel
theorem dX12_write_54 : decode cX12_write 54 = .ok (.istore_n 3, 1) := by decide +kernel
theorem dX12_write_55 : decode cX12_write 55 = .ok (.iconst 0, 1) := by decide +kernel
theorem dX12_write_56 : decode cX12_write 56 = .ok (.istore 4, 2) := by decide +kernel
theorem dX12_write_58 : decode cX12_write 58 = .ok (.iload 4, 2) := by decide +kernel
theorem dX12_write_60 : decode cX12_write 60 = .ok (.iload_n 3, 1) := by decide +kernel
theorem dX12_write_61 : decode cX12_write 61 = .ok (.if_icmp .ge 37, 3) := by decide +kernel
theorem dX12_write_64 : decode cX12_write 64 = .ok (.aload_n 0, 1) := by decide +kernel
theorem dX12_write_65 : decode cX12_write 65 = .ok (.getfield 16, 3) := by decide +kernel
theorem dX12_write_68 : decode cX12_write 68 = .ok (.bipush 60, 2) := by decide +kernel
theorem dX12_write_70 : decode cX12_write 70 = .ok (.iload_n 2, 1) := by decide +kernel
theorem dX12_write_71 : decode cX12_write 71 = .ok (.imul, 1) := by decide +kernel
theorem dX12_write_72 : decode cX12_write 72 = .ok (.iload 4, 2) := by decide +kernel
theorem dX12_write_74 : decode cX12_write 74 = .ok (.iadd, 1) := by decide +kernel
theorem dX12_write_75 : decode cX12_write 75 = .ok (.aload_n 0, 1) := by decide +kernel
theorem dX12_write_76 : decode cX12_write 76 = .ok (.getfield 7, 3) := by decide +kernel
theorem dX12_write_79 : decode cX12_write 79 = .ok (.iload_n 2, 1) := by decide +kernel
theorem dX12_write_80 : decode cX12_write 80 = .ok (.iaload, 1) := by decide +kernel
theorem dX12_write_81 : decode cX12_write 81 = .ok (.aload_n 0, 1) := by decide +kernel
theorem dX12_write_82 : decode cX12_write 82 = .ok (.iload 4, 2) := by decide +kernel
theorem dX12_write_84 : decode cX12_write 84 = .ok (.iload_n 1, 1) := by decide +kernel
theorem dX12_write_85 : decode cX12_write 85 = .ok (.invokevirtual 157, 3) := by decide +kernel
theorem dX12_write_88 : decode cX12_write 88 = .ok (.invokestatic 82, 3) := by decide +kernel
theorem dX12_write_91 : decode cX12_write 91 = .ok (.iastore, 1) := by decide +kernel
theorem dX12_write_92 : decode cX12_write 92 = .ok (.iinc 4 1, 3) := by decide +kernel
theorem dX12_write_95 : decode cX12_write 95 = .ok (.goto (-37), 3) := by decide +kernel
theorem dX12_write_98 : decode cX12_write 98 = .ok (.iload_n 3, 1) := by decide +kernel
theorem dX12_write_99 : decode cX12_write 99 = .ok (.ireturn, 1) := by decide +kernel
theorem dX12_count_0 : decode cX12_count 0 = .ok (.iconst 0, 1) := by decide +kernel
theorem dX12_count_1 : decode cX12_count 1 = .ok (.istore_n 2, 1) := by decide +kernel
theorem dX12_count_2 : decode cX12_count 2 = .ok (.aload_n 0, 1) := by decide +kernel
theorem dX12_count_3 : decode cX12_count 3 = .ok (.invokevirtual 120, 3) := by decide +kernel
theorem dX12_count_6 : decode cX12_count 6 = .ok (.iload_n 1, 1) := by decide +kernel
theorem dX12_count_7 : decode cX12_count 7 = .ok (.tableswitch 120 0 8 #[49, 54, 59, 59, 68, 73, 100, 107, 115], 49) := by decide +kernel
theorem dX12_count_56 : decode cX12_count 56 = .ok (.aload_n 0, 1) := by decide +kernel
theorem dX12_count_57 : decode cX12_count 57 = .ok (.getfield 95, 3) := by decide +kernel
theorem dX12_count_60 : decode cX12_count 60 = .ok (.ireturn, 1) := by decide +kernel
theorem dX12_count_61 : decode cX12_count 61 = .ok (.aload_n 0, 1) := by decide +kernel
theorem dX12_count_62 : decode cX12_count 62 = .ok (.getfield 106, 3) := by decide +kernel
theorem dX12_count_65 : decode cX12_count 65 = .ok (.ireturn, 1) := by decide +kernel
theorem dX12_count_66 : decode cX12_count 66 = .ok (.aload_n 0, 1) := by decide +kernel
theorem dX12_count_67 : decode cX12_count 67 = .ok (.getfield 25, 3) := by decide +kernel
theorem dX12_count_70 : decode cX12_count 70 = .ok (.iload_n 1, 1) := by decide +kernel
theorem dX12_count_71 : decode cX12_count 71 = .ok (.iconst 2, 1) := by decide +kernel
theorem dX12_count_72 : decode cX12_count 72 = .ok (.isub, 1) := by decide +kernel
theorem dX12_count_73 : decode cX12_count 73 = .ok (.iaload, 1) := by decide +kernel
theorem dX12_count_74 : decode cX12_count 74 = .ok (.ireturn, 1) := by decide +kernel
theorem dX12_count_75 : decode cX12_count 75 = .ok (.aload_n 0, 1) := by decide +kernel
theorem dX12_count_76 : decode cX12_count 76 = .ok (.getfield 275, 3) := by decide +kernel
theorem dX12_count_79 : decode cX12_count 79 = .ok (.ireturn, 1) := by decide +kernel
theorem dX12_count_80 : decode cX12_count 80 = .ok (.iconst 0, 1) := by decide +kernel
theorem dX12_count_81 : decode cX12_count 81 = .ok (.istore_n 3, 1) := by decide +kernel
theorem dX12_count_82 : decode cX12_count 82 = .ok (.iload_n 3, 1) := by decide +kernel
theorem dX12_count_83 : decode cX12_count 83 = .ok (.aload_n 0, 1) := by decide +kernel
theorem dX12_count_84 : decode cX12_count 84 = .ok (.getfield 95, 3) := by decide +kernel
theorem dX12_count_87 : decode cX12_count 87 = .ok (.if_icmp .ge 18, 3) := by decide +kernel
theorem dX12_count_90 : decode cX12_count 90 = .ok (.iload_n 2, 1) := by decide +kernel
theorem dX12_count_91 : decode cX12_count 91 = .ok (.aload_n 0, 1) := by decide +kernel
theorem dX12_count_92 : decode cX12_count 92 = .ok (.getfield 31, 3) := by decide +kernel
theorem dX12_count_95 : decode cX12_count 95 = .ok (.iload_n 3, 1) := by decide +kernel
theorem dX12_count_96 : decode cX12_count 96 = .ok (.iaload, 1) := by decide +kernel
theorem dX12_count_97 : decode cX12_count 97 = .ok (.iadd, 1) := by decide +kernel
theorem dX12_count_98 : decode cX12_count 98 = .ok (.istore_n 2, 1) := by decide +kernel
theorem dX12_count_99 : decode cX12_count 99 = .ok (.iinc 3 1, 3) := by decide +kernel
theorem dX12_count_102 : decode cX12_count 102 = .ok (.goto (-20), 3) := by decide +kernel
theorem dX12_count_105 : decode cX12_count 105 = .ok (.iload_n 2, 1) := by decide +kernel
theorem dX12_count_106 : decode cX12_count 106 = .ok (.ireturn, 1) := by decide +kernel
theorem dX12_count_107 : decode cX12_count 107 = .ok (.aload_n 0, 1) := by decide +kernel
theorem dX12_count_108 : decode cX12_count 108 = .ok (.getfield 44, 3) := by decide +kernel
theorem dX12_count_111 : decode cX12_count 111 = .ok (.iconst 0, 1) := by decide +kernel
theorem dX12_count_112 : decode cX12_count 112 = .ok (.iaload, 1) := by decide +kernel
theorem dX12_count_113 : decode cX12_count 113 = .ok (.ireturn, 1) := by decide +kernel
theorem dX12_count_114 : decode cX12_count 114 = .ok (.aload_n 0, 1) := by decide +kernel
theorem dX12_count_115 : decode cX12_count 115 = .ok (.invokevirtual 140, 3) := by decide +kernel
theorem dX12_count_118 : decode cX12_count 118 = .ok (.invokestatic 232, 3) := by decide +kernel
theorem dX12_count_121 : decode cX12_count 121 = .ok (.ireturn, 1) := by decide +kernel
theorem dX12_count_122 : decode cX12_count 122 = .ok (.aload_n 0, 1) := by decide +kernel
theorem dX12_count_123 : decode cX12_count 123 = .ok (.getfield 62, 3) := by decide +kernel
theorem dX12_count_126 : decode cX12_count 126 = .ok (.ireturn, 1) := by decide +kernel
theorem dX12_count_127 : decode cX12_count 127 = .ok (.bipush (-2), 2) := by decide +kernel
theorem dX12_count_129 : decode cX12_count 129 = .ok (.ireturn, 1) := by decide +kernel
theorem dX12_tellsWalker_0 : decode cX12_tellsWalker 0 = .ok (.lload_n 1, 1) := by decide +kernel
theorem dX12_tellsWalker_1 : decode cX12_tellsWalker 1 = .ok (.lstore 4, 2) := by decide +kernel
theorem dX12_tellsWalker_3 : decode cX12_tellsWalker 3 = .ok (.iconst 0, 1) := by decide +kernel
theorem dX12_tellsWalker_4 : decode cX12_tellsWalker 4 = .ok (.istore 6, 2) := by decide +kernel
theorem dX12_tellsWalker_6 : decode cX12_tellsWalker 6 = .ok (.iload 6, 2) := by decide +kernel
theorem dX12_tellsWalker_8 : decode cX12_tellsWalker 8 = .ok (.iconst 3, 1) := by decide +kernel
theorem dX12_tellsWalker_9 : decode cX12_tellsWalker 9 = .ok (.if_icmp .ge 26, 3) := by decide +kernel
theorem dX12_tellsWalker_12 : decode cX12_tellsWalker 12 = .ok (.ldc2_w 299, 3) := by decide +kernel
theorem dX12_tellsWalker_15 : decode cX12_tellsWalker 15 = .ok (.lload 4, 2) := by decide +kernel
theorem dX12_tellsWalker_17 : decode cX12_tellsWalker 17 = .ok (.lmul, 1) := by decide +kernel
theorem dX12_tellsWalker_18 : decode cX12_tellsWalker 18 = .ok (.aload_n 0, 1) := by decide +kernel
theorem dX12_tellsWalker_19 : decode cX12_tellsWalker 19 = .ok (.iload_n 3, 1) := by decide +kernel
theorem dX12_tellsWalker_20 : decode cX12_tellsWalker 20 = .ok (.iload 6, 2) := by decide +kernel
theorem dX12_tellsWalker_22 : decode cX12_tellsWalker 22 = .ok (.invokevirtual 129, 3) := by decide +kernel
theorem dX12_tellsWalker_25 : decode cX12_tellsWalker 25 = .ok (.i2l, 1) := by decide +kernel
theorem dX12_tellsWalker_26 : decode cX12_tellsWalker 26 = .ok (.ladd, 1) := by decide +kernel
theorem dX12_tellsWalker_27 : decode cX12_tellsWalker 27 = .ok (.lstore 4, 2) := by decide +kernel
theorem dX12_tellsWalker_29 : decode cX12_tellsWalker 29 = .ok (.iinc 6 1, 3) := by decide +kernel
theorem dX12_tellsWalker_32 : decode cX12_tellsWalker 32 = .ok (.goto (-26), 3) := by decide +kernel
theorem dX12_tellsWalker_35 : decode cX12_tellsWalker 35 = .ok (.ldc2_w 299, 3) := by decide +kernel
theorem dX12_tellsWalker_38 : decode cX12_tellsWalker 38 = .ok (.lload 4, 2) := by decide +kernel
theorem dX12_tellsWalker_40 : decode cX12_tellsWalker 40 = .ok (.lmul, 1) := by decide +kernel
theorem dX12_tellsWalker_41 : decode cX12_tellsWalker 41 = .ok (.aload_n 0, 1) := by decide +kernel
theorem dX12_tellsWalker_42 : decode cX12_tellsWalker 42 = .ok (.iload_n 3, 1) := by decide +kernel
theorem dX12_tellsWalker_43 : decode cX12_tellsWalker 43 = .ok (.iconst 5, 1) := by decide +kernel
theorem dX12_tellsWalker_44 : decode cX12_tellsWalker 44 = .ok (.invokevirtual 157, 3) := by decide +kernel
theorem dX12_tellsWalker_47 : decode cX12_tellsWalker 47 = .ok (.i2l, 1) := by decide +kernel
theorem dX12_tellsWalker_48 : decode cX12_tellsWalker 48 = .ok (.ladd, 1) := by decide +kernel
theorem dX12_tellsWalker_49 : decode cX12_tellsWalker 49 = .ok (.lstore 4, 2) := by decide +kernel
theorem dX12_tellsWalker_51 : decode cX12_tellsWalker 51 = .ok (.ldc2_w 299, 3) := by decide +kernel
theorem dX12_tellsWalker_54 : decode cX12_tellsWalker 54 = .ok (.lload 4, 2) := by decide +kernel
theorem dX12_tellsWalker_56 : decode cX12_tellsWalker 56 = .ok (.lmul, 1) := by decide +kernel
theorem dX12_tellsWalker_57 : decode cX12_tellsWalker 57 = .ok (.aload_n 0, 1) := by decide +kernel
theorem dX12_tellsWalker_58 : decode cX12_tellsWalker 58 = .ok (.iload_n 3, 1) := by decide +kernel
theorem dX12_tellsWalker_59 : decode cX12_tellsWalker 59 = .ok (.iconst 2, 1) := by decide +kernel
theorem dX12_tellsWalker_60 : decode cX12_tellsWalker 60 = .ok (.invokevirtual 301, 3) := by decide +kernel
theorem dX12_tellsWalker_63 : decode cX12_tellsWalker 63 = .ok (.i2l, 1) := by decide +kernel
theorem dX12_tellsWalker_64 : decode cX12_tellsWalker 64 = .ok (.ladd, 1) := by decide +kernel
theorem dX12_tellsWalker_65 : decode cX12_tellsWalker 65 = .ok (.lstore 4, 2) := by decide +kernel
theorem dX12_tellsWalker_67 : decode cX12_tellsWalker 67 = .ok (.iconst 0, 1) := by decide +kernel
theorem dX12_tellsWalker_68 : decode cX12_tellsWalker 68 = .ok (.istore 6, 2) := by decide +kernel
theorem dX12_tellsWalker_70 : decode cX12_tellsWalker 70 = .ok (.iload 6, 2) := by decide +kernel
theorem dX12_tellsWalker_72 : decode cX12_tellsWalker 72 = .ok (.iconst 2, 1) := by decide +kernel
theorem dX12_tellsWalker_73 : decode cX12_tellsWalker 73 = .ok (.if_icmp .ge 26, 3) := by decide +kernel
theorem dX12_tellsWalker_76 : decode cX12_tellsWalker 76 = .ok (.ldc2_w 299, 3) := by decide +kernel
theorem dX12_tellsWalker_79 : decode cX12_tellsWalker 79 = .ok (.lload 4, 2) := by decide +kernel
theorem dX12_tellsWalker_81 : decode cX12_tellsWalker 81 = .ok (.lmul, 1) := by decide +kernel
theorem dX12_tellsWalker_82 : decode cX12_tellsWalker 82 = .ok (.aload_n 0, 1) := by decide +kernel
theorem dX12_tellsWalker_83 : decode cX12_tellsWalker 83 = .ok (.iconst 0, 1) := by decide +kernel
theorem dX12_tellsWalker_84 : decode cX12_tellsWalker 84 = .ok (.iload_n 3, 1) := by decide +kernel
theorem dX12_tellsWalker_85 : decode cX12_tellsWalker 85 = .ok (.iload 6, 2) := by decide +kernel
theorem dX12_tellsWalker_87 : decode cX12_tellsWalker 87 = .ok (.invokevirtual 304, 3) := by decide +kernel
theorem dX12_tellsWalker_90 : decode cX12_tellsWalker 90 = .ok (.ladd, 1) := by decide +kernel
theorem dX12_tellsWalker_91 : decode cX12_tellsWalker 91 = .ok (.lstore 4, 2) := by decide +kernel
theorem dX12_tellsWalker_93 : decode cX12_tellsWalker 93 = .ok (.iinc 6 1, 3) := by decide +kernel
theorem dX12_tellsWalker_96 : decode cX12_tellsWalker 96 = .ok (.goto (-26), 3) := by decide +kernel
theorem dX12_tellsWalker_99 : decode cX12_tellsWalker 99 = .ok (.iconst 0, 1) := by decide +kernel
theorem dX12_tellsWalker_100 : decode cX12_tellsWalker 100 = .ok (.istore 6, 2) := by decide +kernel
theorem dX12_tellsWalker_102 : decode cX12_tellsWalker 102 = .ok (.iload 6, 2) := by decide +kernel
theorem dX12_tellsWalker_104 : decode cX12_tellsWalker 104 = .ok (.iconst 2, 1) := by decide +kernel
theorem dX12_tellsWalker_105 : decode cX12_tellsWalker 105 = .ok (.if_icmp .ge 26, 3) := by decide +kernel
theorem dX12_tellsWalker_108 : decode cX12_tellsWalker 108 = .ok (.ldc2_w 299, 3) := by decide +kernel
theorem dX12_tellsWalker_111 : decode cX12_tellsWalker 111 = .ok (.lload 4, 2) := by decide +kernel
theorem dX12_tellsWalker_113 : decode cX12_tellsWalker 113 = .ok (.lmul, 1) := by decide +kernel
theorem dX12_tellsWalker_114 : decode cX12_tellsWalker 114 = .ok (.aload_n 0, 1) := by decide +kernel
theorem dX12_tellsWalker_115 : decode cX12_tellsWalker 115 = .ok (.iconst (-1), 1) := by decide +kernel
theorem dX12_tellsWalker_116 : decode cX12_tellsWalker 116 = .ok (.iload_n 3, 1) := by decide +kernel
theorem dX12_tellsWalker_117 : decode cX12_tellsWalker 117 = .ok (.iload 6, 2) := by decide +kernel
theorem dX12_tellsWalker_119 : decode cX12_tellsWalker 119 = .ok (.invokevirtual 304, 3) := by decide +kernel
theorem dX12_tellsWalker_122 : decode cX12_tellsWalker 122 = .ok (.ladd, 1) := by decide +kernel
theorem dX12_tellsWalker_123 : decode cX12_tellsWalker 123 = .ok (.lstore 4, 2) := by decide +kernel
theorem dX12_tellsWalker_125 : decode cX12_tellsWalker 125 = .ok (.iinc 6 1, 3) := by decide +kernel
theorem dX12_tellsWalker_128 : decode cX12_tellsWalker 128 = .ok (.goto (-26), 3) := by decide +kernel
theorem dX12_tellsWalker_131 : decode cX12_tellsWalker 131 = .ok (.iconst 0, 1) := by decide +kernel
theorem dX12_tellsWalker_132 : decode cX12_tellsWalker 132 = .ok (.istore 6, 2) := by decide +kernel
theorem dX12_tellsWalker_134 : decode cX12_tellsWalker 134 = .ok (.iload 6, 2) := by decide +kernel
theorem dX12_tellsWalker_136 : decode cX12_tellsWalker 136 = .ok (.iconst 2, 1) := by decide +kernel
theorem dX12_tellsWalker_137 : decode cX12_tellsWalker 137 = .ok (.if_icmp .ge 25, 3) := by decide +kernel
theorem dX12_tellsWalker_140 : decode cX12_tellsWalker 140 = .ok (.ldc2_w 299, 3) := by decide +kernel
theorem dX12_tellsWalker_143 : decode cX12_tellsWalker 143 = .ok (.lload 4, 2) := by decide +kernel
theorem dX12_tellsWalker_145 : decode cX12_tellsWalker 145 = .ok (.lmul, 1) := by decide +kernel
theorem dX12_tellsWalker_146 : decode cX12_tellsWalker 146 = .ok (.aload_n 0, 1) := by decide +kernel
theorem dX12_tellsWalker_147 : decode cX12_tellsWalker 147 = .ok (.iload_n 3, 1) := by decide +kernel
theorem dX12_tellsWalker_148 : decode cX12_tellsWalker 148 = .ok (.iload 6, 2) := by decide +kernel
theorem dX12_tellsWalker_150 : decode cX12_tellsWalker 150 = .ok (.invokevirtual 307, 3) := by decide +kernel
theorem dX12_tellsWalker_153 : decode cX12_tellsWalker 153 = .ok (.ladd, 1) := by decide +kernel
theorem dX12_tellsWalker_154 : decode cX12_tellsWalker 154 = .ok (.lstore 4, 2) := by decide +kernel
theorem dX12_tellsWalker_156 : decode cX12_tellsWalker 156 = .ok (.iinc 6 1, 3) := by decide +kernel
theorem dX12_tellsWalker_159 : decode cX12_tellsWalker 159 = .ok (.goto (-25), 3) := by decide +kernel
theorem dX12_tellsWalker_162 : decode cX12_tellsWalker 162 = .ok (.lload 4, 2) := by decide +kernel
theorem dX12_tellsWalker_164 : decode cX12_tellsWalker 164 = .ok (.lreturn, 1) := by decide +kernel
theorem dX12_digest_0 : decode cX12_digest 0 = .ok (.ldc2_w 310, 3) := by decide +kernel
theorem dX12_digest_3 : decode cX12_digest 3 = .ok (.lstore_n 1, 1) := by decide +kernel
theorem dX12_digest_4 : decode cX12_digest 4 = .ok (.iconst 0, 1) := by decide +kernel
theorem dX12_digest_5 : decode cX12_digest 5 = .ok (.istore_n 3, 1) := by decide +kernel
theorem dX12_digest_6 : decode cX12_digest 6 = .ok (.iload_n 3, 1) := by decide +kernel
theorem dX12_digest_7 : decode cX12_digest 7 = .ok (.bipush 8, 2) := by decide +kernel
theorem dX12_digest_9 : decode cX12_digest 9 = .ok (.if_icmp .ge 22, 3) := by decide +kernel
theorem dX12_digest_12 : decode cX12_digest 12 = .ok (.ldc2_w 299, 3) := by decide +kernel
theorem dX12_digest_15 : decode cX12_digest 15 = .ok (.lload_n 1, 1) := by decide +kernel
theorem dX12_digest_16 : decode cX12_digest 16 = .ok (.lmul, 1) := by decide +kernel
theorem dX12_digest_17 : decode cX12_digest 17 = .ok (.aload_n 0, 1) := by decide +kernel
theorem dX12_digest_18 : decode cX12_digest 18 = .ok (.iload_n 3, 1) := by decide +kernel
theorem dX12_digest_19 : decode cX12_digest 19 = .ok (.invokevirtual 312, 3) := by decide +kernel
theorem dX12_digest_22 : decode cX12_digest 22 = .ok (.i2l, 1) := by decide +kernel
theorem dX12_digest_23 : decode cX12_digest 23 = .ok (.ladd, 1) := by decide +kernel
theorem dX12_digest_24 : decode cX12_digest 24 = .ok (.lstore_n 1, 1) := by decide +kernel
theorem dX12_digest_25 : decode cX12_digest 25 = .ok (.iinc 3 1, 3) := by decide +kernel
theorem dX12_digest_28 : decode cX12_digest 28 = .ok (.goto (-22), 3) := by decide +kernel
theorem dX12_digest_31 : decode cX12_digest 31 = .ok (.iconst 0, 1) := by decide +kernel
theorem dX12_digest_32 : decode cX12_digest 32 = .ok (.istore_n 3, 1) := by decide +kernel
theorem dX12_digest_33 : decode cX12_digest 33 = .ok (.iload_n 3, 1) := by decide +kernel
theorem dX12_digest_34 : decode cX12_digest 34 = .ok (.iconst 2, 1) := by decide +kernel
theorem dX12_digest_35 : decode cX12_digest 35 = .ok (.if_icmp .ge 22, 3) := by decide +kernel
theorem dX12_digest_38 : decode cX12_digest 38 = .ok (.ldc2_w 299, 3) := by decide +kernel
theorem dX12_digest_41 : decode cX12_digest 41 = .ok (.lload_n 1, 1) := by decide +kernel
theorem dX12_digest_42 : decode cX12_digest 42 = .ok (.lmul, 1) := by decide +kernel
theorem dX12_digest_43 : decode cX12_digest 43 = .ok (.aload_n 0, 1) := by decide +kernel
theorem dX12_digest_44 : decode cX12_digest 44 = .ok (.iload_n 3, 1) := by decide +kernel
theorem dX12_digest_45 : decode cX12_digest 45 = .ok (.invokevirtual 315, 3) := by decide +kernel
theorem dX12_digest_48 : decode cX12_digest 48 = .ok (.i2l, 1) := by decide +kernel
theorem dX12_digest_49 : decode cX12_digest 49 = .ok (.ladd, 1) := by decide +kernel
theorem dX12_digest_50 : decode cX12_digest 50 = .ok (.lstore_n 1, 1) := by decide +kernel
theorem dX12_digest_51 : decode cX12_digest 51 = .ok (.iinc 3 1, 3) := by decide +kernel
theorem dX12_digest_54 : decode cX12_digest 54 = .ok (.goto (-21), 3) := by decide +kernel
theorem dX12_digest_57 : decode cX12_digest 57 = .ok (.aload_n 0, 1) := by decide +kernel
theorem dX12_digest_58 : decode cX12_digest 58 = .ok (.invokevirtual 120, 3) := by decide +kernel
theorem dX12_digest_61 : decode cX12_digest 61 = .ok (.iconst 0, 1) := by decide +kernel
theorem dX12_digest_62 : decode cX12_digest 62 = .ok (.istore_n 3, 1) := by decide +kernel
theorem dX12_digest_63 : decode cX12_digest 63 = .ok (.iload_n 3, 1) := by decide +kernel
theorem dX12_digest_64 : decode cX12_digest 64 = .ok (.aload_n 0, 1) := by decide +kernel
theorem dX12_digest_65 : decode cX12_digest 65 = .ok (.getfield 95, 3) := by decide +kernel
theorem dX12_digest_68 : decode cX12_digest 68 = .ok (.if_icmp .ge 80, 3) := by decide +kernel
theorem dX12_digest_71 : decode cX12_digest 71 = .ok (.ldc2_w 299, 3) := by decide +kernel
theorem dX12_digest_74 : decode cX12_digest 74 = .ok (.lload_n 1, 1) := by decide +kernel
theorem dX12_digest_75 : decode cX12_digest 75 = .ok (.lmul, 1) := by decide +kernel
theorem dX12_digest_76 : decode cX12_digest 76 = .ok (.aload_n 0, 1) := by decide +kernel
theorem dX12_digest_77 : decode cX12_digest 77 = .ok (.getfield 28, 3) := by decide +kernel
theorem dX12_digest_80 : decode cX12_digest 80 = .ok (.iload_n 3, 1) := by decide +kernel
theorem dX12_digest_81 : decode cX12_digest 81 = .ok (.iaload, 1) := by decide +kernel
theorem dX12_digest_82 : decode cX12_digest 82 = .ok (.i2l, 1) := by decide +kernel
theorem dX12_digest_83 : decode cX12_digest 83 = .ok (.ladd, 1) := by decide +kernel
theorem dX12_digest_84 : decode cX12_digest 84 = .ok (.lstore_n 1, 1) := by decide +kernel
theorem dX12_digest_85 : decode cX12_digest 85 = .ok (.ldc2_w 299, 3) := by decide +kernel
theorem dX12_digest_88 : decode cX12_digest 88 = .ok (.lload_n 1, 1) := by decide +kernel
theorem dX12_digest_89 : decode cX12_digest 89 = .ok (.lmul, 1) := by decide +kernel
theorem dX12_digest_90 : decode cX12_digest 90 = .ok (.aload_n 0, 1) := by decide +kernel
theorem dX12_digest_91 : decode cX12_digest 91 = .ok (.getfield 31, 3) := by decide +kernel
theorem dX12_digest_94 : decode cX12_digest 94 = .ok (.iload_n 3, 1) := by decide +kernel
theorem dX12_digest_95 : decode cX12_digest 95 = .ok (.iaload, 1) := by decide +kernel
theorem dX12_digest_96 : decode cX12_digest 96 = .ok (.i2l, 1) := by decide +kernel
theorem dX12_digest_97 : decode cX12_digest 97 = .ok (.ladd, 1) := by decide +kernel
theorem dX12_digest_98 : decode cX12_digest 98 = .ok (.lstore_n 1, 1) := by decide +kernel
theorem dX12_digest_99 : decode cX12_digest 99 = .ok (.ldc2_w 299, 3) := by decide +kernel
theorem dX12_digest_102 : decode cX12_digest 102 = .ok (.lload_n 1, 1) := by decide +kernel
theorem dX12_digest_103 : decode cX12_digest 103 = .ok (.lmul, 1) := by decide +kernel
theorem dX12_digest_104 : decode cX12_digest 104 = .ok (.aload_n 0, 1) := by decide +kernel
theorem dX12_digest_105 : decode cX12_digest 105 = .ok (.iload_n 3, 1) := by decide +kernel
theorem dX12_digest_106 : decode cX12_digest 106 = .ok (.iconst 0, 1) := by decide +kernel
theorem dX12_digest_107 : decode cX12_digest 107 = .ok (.iconst 0, 1) := by decide +kernel
theorem dX12_digest_108 : decode cX12_digest 108 = .ok (.invokevirtual 172, 3) := by decide +kernel
theorem dX12_digest_111 : decode cX12_digest 111 = .ok (.i2l, 1) := by decide +kernel
theorem dX12_digest_112 : decode cX12_digest 112 = .ok (.ladd, 1) := by decide +kernel
theorem dX12_digest_113 : decode cX12_digest 113 = .ok (.lstore_n 1, 1) := by decide +kernel
theorem dX12_digest_114 : decode cX12_digest 114 = .ok (.ldc2_w 299, 3) := by decide +kernel
theorem dX12_digest_117 : decode cX12_digest 117 = .ok (.lload_n 1, 1) := by decide +kernel
theorem dX12_digest_118 : decode cX12_digest 118 = .ok (.lmul, 1) := by decide +kernel
theorem dX12_digest_119 : decode cX12_digest 119 = .ok (.aload_n 0, 1) := by decide +kernel
theorem dX12_digest_120 : decode cX12_digest 120 = .ok (.iload_n 3, 1) := by decide +kernel
theorem dX12_digest_121 : decode cX12_digest 121 = .ok (.iconst 0, 1) := by decide +kernel
theorem dX12_digest_122 : decode cX12_digest 122 = .ok (.iconst 1, 1) := by decide +kernel
theorem dX12_digest_123 : decode cX12_digest 123 = .ok (.invokevirtual 172, 3) := by decide +kernel
theorem dX12_digest_126 : decode cX12_digest 126 = .ok (.i2l, 1) := by decide +kernel
theorem dX12_digest_127 : decode cX12_digest 127 = .ok (.ladd, 1) := by decide +kernel
theorem dX12_digest_128 : decode cX12_digest 128 = .ok (.lstore_n 1, 1) := by decide +kernel
theorem dX12_digest_129 : decode cX12_digest 129 = .ok (.ldc2_w 299, 3) := by decide +kernel
theorem dX12_digest_132 : decode cX12_digest 132 = .ok (.lload_n 1, 1) := by decide +kernel
theorem dX12_digest_133 : decode cX12_digest 133 = .ok (.lmul, 1) := by decide +kernel
theorem dX12_digest_134 : decode cX12_digest 134 = .ok (.aload_n 0, 1) := by decide +kernel
theorem dX12_digest_135 : decode cX12_digest 135 = .ok (.iload_n 3, 1) := by decide +kernel
theorem dX12_digest_136 : decode cX12_digest 136 = .ok (.invokevirtual 283, 3) := by decide +kernel
theorem dX12_digest_139 : decode cX12_digest 139 = .ok (.i2l, 1) := by decide +kernel
theorem dX12_digest_140 : decode cX12_digest 140 = .ok (.ladd, 1) := by decide +kernel
theorem dX12_digest_141 : decode cX12_digest 141 = .ok (.lstore_n 1, 1) := by decide +kernel
theorem dX12_digest_142 : decode cX12_digest 142 = .ok (.iinc 3 1, 3) := by decide +kernel
theorem dX12_digest_145 : decode cX12_digest 145 = .ok (.goto (-82), 3) := by decide +kernel
theorem dX12_digest_148 : decode cX12_digest 148 = .ok (.iconst 0, 1) := by decide +kernel
theorem dX12_digest_149 : decode cX12_digest 149 = .ok (.istore_n 3, 1) := by decide +kernel
theorem dX12_digest_150 : decode cX12_digest 150 = .ok (.iload_n 3, 1) := by decide +kernel
theorem dX12_digest_151 : decode cX12_digest 151 = .ok (.aload_n 0, 1) := by decide +kernel
theorem dX12_digest_152 : decode cX12_digest 152 = .ok (.getfield 106, 3) := by decide +kernel
theorem dX12_digest_155 : decode cX12_digest 155 = .ok (.if_icmp .ge 16, 3) := by decide +kernel
theorem dX12_digest_158 : decode cX12_digest 158 = .ok (.aload_n 0, 1) := by decide +kernel
theorem dX12_digest_159 : decode cX12_digest 159 = .ok (.lload_n 1, 1) := by decide +kernel
theorem dX12_digest_160 : decode cX12_digest 160 = .ok (.iload_n 3, 1) := by decide +kernel
theorem dX12_digest_161 : decode cX12_digest 161 = .ok (.invokevirtual 318, 3) := by decide +kernel
theorem dX12_digest_164 : decode cX12_digest 164 = .ok (.lstore_n 1, 1) := by decide +kernel
theorem dX12_digest_165 : decode cX12_digest 165 = .ok (.iinc 3 1, 3) := by decide +kernel
theorem dX12_digest_168 : decode cX12_digest 168 = .ok (.goto (-18), 3) := by decide +kernel
theorem dX12_digest_171 : decode cX12_digest 171 = .ok (.iconst 0, 1) := by decide +kernel
theorem dX12_digest_172 : decode cX12_digest 172 = .ok (.istore_n 3, 1) := by decide +kernel
theorem dX12_digest_173 : decode cX12_digest 173 = .ok (.iload_n 3, 1) := by decide +kernel
theorem dX12_digest_174 : decode cX12_digest 174 = .ok (.iconst 2, 1) := by decide +kernel
theorem dX12_digest_175 : decode cX12_digest 175 = .ok (.if_icmp .ge 22, 3) := by decide +kernel
theorem dX12_digest_178 : decode cX12_digest 178 = .ok (.ldc2_w 299, 3) := by decide +kernel
theorem dX12_digest_181 : decode cX12_digest 181 = .ok (.lload_n 1, 1) := by decide +kernel
theorem dX12_digest_182 : decode cX12_digest 182 = .ok (.lmul, 1) := by decide +kernel
theorem dX12_digest_183 : decode cX12_digest 183 = .ok (.aload_n 0, 1) := by decide +kernel
theorem dX12_digest_184 : decode cX12_digest 184 = .ok (.iconst (-1), 1) := by decide +kernel
theorem dX12_digest_185 : decode cX12_digest 185 = .ok (.iload_n 3, 1) := by decide +kernel
theorem dX12_digest_186 : decode cX12_digest 186 = .ok (.invokevirtual 307, 3) := by decide +kernel
theorem dX12_digest_189 : decode cX12_digest 189 = .ok (.ladd, 1) := by decide +kernel
theorem dX12_digest_190 : decode cX12_digest 190 = .ok (.lstore_n 1, 1) := by decide +kernel
theorem dX12_digest_191 : decode cX12_digest 191 = .ok (.iinc 3 1, 3) := by decide +kernel
theorem dX12_digest_194 : decode cX12_digest 194 = .ok (.goto (-21), 3) := by decide +kernel
theorem dX12_digest_197 : decode cX12_digest 197 = .ok (.ldc2_w 299, 3) := by decide +kernel
theorem dX12_digest_200 : decode cX12_digest 200 = .ok (.lload_n 1, 1) := by decide +kernel
theorem dX12_digest_201 : decode cX12_digest 201 = .ok (.lmul, 1) := by decide +kernel
theorem dX12_digest_202 : decode cX12_digest 202 = .ok (.aload_n 0, 1) := by decide +kernel
theorem dX12_digest_203 : decode cX12_digest 203 = .ok (.invokevirtual 211, 3) := by decide +kernel
theorem dX12_digest_206 : decode cX12_digest 206 = .ok (.i2l, 1) := by decide +kernel
theorem dX12_digest_207 : decode cX12_digest 207 = .ok (.ladd, 1) := by decide +kernel
theorem dX12_digest_208 : decode cX12_digest 208 = .ok (.lstore_n 1, 1) := by decide +kernel
theorem dX12_digest_209 : decode cX12_digest 209 = .ok (.ldc2_w 299, 3) := by decide +kernel
theorem dX12_digest_212 : decode cX12_digest 212 = .ok (.lload_n 1, 1) := by decide +kernel
theorem dX12_digest_213 : decode cX12_digest 213 = .ok (.lmul, 1) := by decide +kernel
theorem dX12_digest_214 : decode cX12_digest 214 = .ok (.aload_n 0, 1) := by decide +kernel
theorem dX12_digest_215 : decode cX12_digest 215 = .ok (.invokevirtual 214, 3) := by decide +kernel
theorem dX12_digest_218 : decode cX12_digest 218 = .ok (.i2l, 1) := by decide +kernel
theorem dX12_digest_219 : decode cX12_digest 219 = .ok (.ladd, 1) := by decide +kernel
theorem dX12_digest_220 : decode cX12_digest 220 = .ok (.lstore_n 1, 1) := by decide +kernel
theorem dX12_digest_221 : decode cX12_digest 221 = .ok (.iconst 0, 1) := by decide +kernel
theorem dX12_digest_222 : decode cX12_digest 222 = .ok (.istore_n 3, 1) := by decide +kernel
theorem dX12_digest_223 : decode cX12_digest 223 = .ok (.iload_n 3, 1) := by decide +kernel
theorem dX12_digest_224 : decode cX12_digest 224 = .ok (.iconst 2, 1) := by decide +kernel
theorem dX12_digest_225 : decode cX12_digest 225 = .ok (.if_icmp .ge 22, 3) := by decide +kernel
theorem dX12_digest_228 : decode cX12_digest 228 = .ok (.ldc2_w 299, 3) := by decide +kernel
theorem dX12_digest_231 : decode cX12_digest 231 = .ok (.lload_n 1, 1) := by decide +kernel
theorem dX12_digest_232 : decode cX12_digest 232 = .ok (.lmul, 1) := by decide +kernel
theorem dX12_digest_233 : decode cX12_digest 233 = .ok (.aload_n 0, 1) := by decide +kernel
theorem dX12_digest_234 : decode cX12_digest 234 = .ok (.iconst 0, 1) := by decide +kernel
theorem dX12_digest_235 : decode cX12_digest 235 = .ok (.iload_n 3, 1) := by decide +kernel
theorem dX12_digest_236 : decode cX12_digest 236 = .ok (.invokevirtual 322, 3) := by decide +kernel
theorem dX12_digest_239 : decode cX12_digest 239 = .ok (.ladd, 1) := by decide +kernel
theorem dX12_digest_240 : decode cX12_digest 240 = .ok (.lstore_n 1, 1) := by decide +kernel
theorem dX12_digest_241 : decode cX12_digest 241 = .ok (.iinc 3 1, 3) := by decide +kernel
theorem dX12_digest_244 : decode cX12_digest 244 = .ok (.goto (-21), 3) := by decide +kernel
theorem dX12_digest_247 : decode cX12_digest 247 = .ok (.ldc2_w 299, 3) := by decide +kernel
theorem dX12_digest_250 : decode cX12_digest 250 = .ok (.lload_n 1, 1) := by decide +kernel
theorem dX12_digest_251 : decode cX12_digest 251 = .ok (.lmul, 1) := by decide +kernel
theorem dX12_digest_252 : decode cX12_digest 252 = .ok (.aload_n 0, 1) := by decide +kernel
theorem dX12_digest_253 : decode cX12_digest 253 = .ok (.bipush 20, 2) := by decide +kernel
theorem dX12_digest_255 : decode cX12_digest 255 = .ok (.invokevirtual 222, 3) := by decide +kernel
theorem dX12_digest_258 : decode cX12_digest 258 = .ok (.i2l, 1) := by decide +kernel
theorem dX12_digest_259 : decode cX12_digest 259 = .ok (.ladd, 1) := by decide +kernel
theorem dX12_digest_260 : decode cX12_digest 260 = .ok (.lstore_n 1, 1) := by decide +kernel
theorem dX12_digest_261 : decode cX12_digest 261 = .ok (.aload_n 0, 1) := by decide +kernel
theorem dX12_digest_262 : decode cX12_digest 262 = .ok (.invokevirtual 229, 3) := by decide +kernel
theorem dX12_digest_265 : decode cX12_digest 265 = .ok (.istore_n 3, 1) := by decide +kernel
theorem dX12_digest_266 : decode cX12_digest 266 = .ok (.iconst 0, 1) := by decide +kernel
theorem dX12_digest_267 : decode cX12_digest 267 = .ok (.istore 4, 2) := by decide +kernel
theorem dX12_digest_269 : decode cX12_digest 269 = .ok (.iload 4, 2) := by decide +kernel
theorem dX12_digest_271 : decode cX12_digest 271 = .ok (.iconst 2, 1) := by decide +kernel
theorem dX12_digest_272 : decode cX12_digest 272 = .ok (.if_icmp .ge 37, 3) := by decide +kernel
theorem dX12_digest_275 : decode cX12_digest 275 = .ok (.ldc2_w 299, 3) := by decide +kernel
theorem dX12_digest_278 : decode cX12_digest 278 = .ok (.lload_n 1, 1) := by decide +kernel
theorem dX12_digest_279 : decode cX12_digest 279 = .ok (.lmul, 1) := by decide +kernel
theorem dX12_digest_280 : decode cX12_digest 280 = .ok (.iload 4, 2) := by decide +kernel
theorem dX12_digest_282 : decode cX12_digest 282 = .ok (.aload_n 0, 1) := by decide +kernel
theorem dX12_digest_283 : decode cX12_digest 283 = .ok (.getfield 106, 3) := by decide +kernel
theorem dX12_digest_286 : decode cX12_digest 286 = .ok (.if_icmp .ge 13, 3) := by decide +kernel
theorem dX12_digest_289 : decode cX12_digest 289 = .ok (.aload_n 0, 1) := by decide +kernel
theorem dX12_digest_290 : decode cX12_digest 290 = .ok (.getfield 50, 3) := by decide +kernel
theorem dX12_digest_293 : decode cX12_digest 293 = .ok (.iload 4, 2) := by decide +kernel
theorem dX12_digest_295 : decode cX12_digest 295 = .ok (.iaload, 1) := by decide +kernel
theorem dX12_digest_296 : decode cX12_digest 296 = .ok (.goto 4, 3) := by decide +kernel
theorem dX12_digest_299 : decode cX12_digest 299 = .ok (.iconst (-1), 1) := by decide +kernel
theorem dX12_digest_300 : decode cX12_digest 300 = .ok (.i2l, 1) := by decide +kernel
theorem dX12_digest_301 : decode cX12_digest 301 = .ok (.ladd, 1) := by decide +kernel
theorem dX12_digest_302 : decode cX12_digest 302 = .ok (.lstore_n 1, 1) := by decide +kernel
theorem dX12_digest_303 : decode cX12_digest 303 = .ok (.iinc 4 1, 3) := by decide +kernel
theorem dX12_digest_306 : decode cX12_digest 306 = .ok (.goto (-37), 3) := by decide +kernel
theorem dX12_digest_309 : decode cX12_digest 309 = .ok (.iconst 0, 1) := by decide +kernel
theorem dX12_digest_310 : decode cX12_digest 310 = .ok (.istore 4, 2) := by decide +kernel
theorem dX12_digest_312 : decode cX12_digest 312 = .ok (.iload 4, 2) := by decide +kernel
theorem dX12_digest_314 : decode cX12_digest 314 = .ok (.iconst 2, 1) := by decide +kernel
theorem dX12_digest_315 : decode cX12_digest 315 = .ok (.if_icmp .ge 26, 3) := by decide +kernel
theorem dX12_digest_318 : decode cX12_digest 318 = .ok (.ldc2_w 299, 3) := by decide +kernel
theorem dX12_digest_321 : decode cX12_digest 321 = .ok (.lload_n 1, 1) := by decide +kernel
theorem dX12_digest_322 : decode cX12_digest 322 = .ok (.lmul, 1) := by decide +kernel
theorem dX12_digest_323 : decode cX12_digest 323 = .ok (.iload_n 3, 1) := by decide +kernel
theorem dX12_digest_324 : decode cX12_digest 324 = .ok (.i2l, 1) := by decide +kernel
theorem dX12_digest_325 : decode cX12_digest 325 = .ok (.ldc2_w 195, 3) := by decide +kernel
theorem dX12_digest_328 : decode cX12_digest 328 = .ok (.iload 4, 2) := by decide +kernel
theorem dX12_digest_330 : decode cX12_digest 330 = .ok (.invokestatic 197, 3) := by decide +kernel
theorem dX12_digest_333 : decode cX12_digest 333 = .ok (.ladd, 1) := by decide +kernel
theorem dX12_digest_334 : decode cX12_digest 334 = .ok (.lstore_n 1, 1) := by decide +kernel
theorem dX12_digest_335 : decode cX12_digest 335 = .ok (.iinc 4 1, 3) := by decide +kernel
theorem dX12_digest_338 : decode cX12_digest 338 = .ok (.goto (-26), 3) := by decide +kernel
theorem dX12_digest_341 : decode cX12_digest 341 = .ok (.iconst 0, 1) := by decide +kernel
theorem dX12_digest_342 : decode cX12_digest 342 = .ok (.istore 4, 2) := by decide +kernel
theorem dX12_digest_344 : decode cX12_digest 344 = .ok (.iload 4, 2) := by decide +kernel
theorem dX12_digest_346 : decode cX12_digest 346 = .ok (.iconst 3, 1) := by decide +kernel
theorem dX12_digest_347 : decode cX12_digest 347 = .ok (.if_icmp .ge 23, 3) := by decide +kernel
theorem dX12_digest_350 : decode cX12_digest 350 = .ok (.ldc2_w 299, 3) := by decide +kernel
theorem dX12_digest_353 : decode cX12_digest 353 = .ok (.lload_n 1, 1) := by decide +kernel
theorem dX12_digest_354 : decode cX12_digest 354 = .ok (.lmul, 1) := by decide +kernel
theorem dX12_digest_355 : decode cX12_digest 355 = .ok (.aload_n 0, 1) := by decide +kernel
theorem dX12_digest_356 : decode cX12_digest 356 = .ok (.iconst 1, 1) := by decide +kernel
theorem dX12_digest_357 : decode cX12_digest 357 = .ok (.iload 4, 2) := by decide +kernel
theorem dX12_digest_359 : decode cX12_digest 359 = .ok (.invokevirtual 325, 3) := by decide +kernel
theorem dX12_digest_362 : decode cX12_digest 362 = .ok (.ladd, 1) := by decide +kernel
theorem dX12_digest_363 : decode cX12_digest 363 = .ok (.lstore_n 1, 1) := by decide +kernel
theorem dX12_digest_364 : decode cX12_digest 364 = .ok (.iinc 4 1, 3) := by decide +kernel
theorem dX12_digest_367 : decode cX12_digest 367 = .ok (.goto (-23), 3) := by decide +kernel
theorem dX12_digest_370 : decode cX12_digest 370 = .ok (.aload_n 0, 1) := by decide +kernel
theorem dX12_digest_371 : decode cX12_digest 371 = .ok (.iconst 3, 1) := by decide +kernel
theorem dX12_digest_372 : decode cX12_digest 372 = .ok (.iconst 2, 1) := by decide +kernel
theorem dX12_digest_373 : decode cX12_digest 373 = .ok (.bipush 90, 2) := by decide +kernel
theorem dX12_digest_375 : decode cX12_digest 375 = .ok (.invokevirtual 258, 3) := by decide +kernel
theorem dX12_digest_378 : decode cX12_digest 378 = .ok (.iconst 0, 1) := by decide +kernel
theorem dX12_digest_379 : decode cX12_digest 379 = .ok (.istore 4, 2) := by decide +kernel
theorem dX12_digest_381 : decode cX12_digest 381 = .ok (.iload 4, 2) := by decide +kernel
theorem dX12_digest_383 : decode cX12_digest 383 = .ok (.iconst 3, 1) := by decide +kernel
theorem dX12_digest_384 : decode cX12_digest 384 = .ok (.if_icmp .ge 22, 3) := by decide +kernel
theorem dX12_digest_387 : decode cX12_digest 387 = .ok (.ldc2_w 299, 3) := by decide +kernel
theorem dX12_digest_390 : decode cX12_digest 390 = .ok (.lload_n 1, 1) := by decide +kernel
theorem dX12_digest_391 : decode cX12_digest 391 = .ok (.lmul, 1) := by decide +kernel
theorem dX12_digest_392 : decode cX12_digest 392 = .ok (.aload_n 0, 1) := by decide +kernel
theorem dX12_digest_393 : decode cX12_digest 393 = .ok (.iload 4, 2) := by decide +kernel
theorem dX12_digest_395 : decode cX12_digest 395 = .ok (.invokevirtual 262, 3) := by decide +kernel
theorem dX12_digest_398 : decode cX12_digest 398 = .ok (.ladd, 1) := by decide +kernel
theorem dX12_digest_399 : decode cX12_digest 399 = .ok (.lstore_n 1, 1) := by decide +kernel
theorem dX12_digest_400 : decode cX12_digest 400 = .ok (.iinc 4 1, 3) := by decide +kernel
theorem dX12_digest_403 : decode cX12_digest 403 = .ok (.goto (-22), 3) := by decide +kernel
theorem dX12_digest_406 : decode cX12_digest 406 = .ok (.iconst 0, 1) := by decide +kernel
theorem dX12_digest_407 : decode cX12_digest 407 = .ok (.istore 4, 2) := by decide +kernel
theorem dX12_digest_409 : decode cX12_digest 409 = .ok (.iload 4, 2) := by decide +kernel
theorem dX12_digest_411 : decode cX12_digest 411 = .ok (.iconst 2, 1) := by decide +kernel
theorem dX12_digest_412 : decode cX12_digest 412 = .ok (.if_icmp .ge 24, 3) := by decide +kernel
theorem dX12_digest_415 : decode cX12_digest 415 = .ok (.ldc2_w 299, 3) := by decide +kernel
theorem dX12_digest_418 : decode cX12_digest 418 = .ok (.lload_n 1, 1) := by decide +kernel
theorem dX12_digest_419 : decode cX12_digest 419 = .ok (.lmul, 1) := by decide +kernel
theorem dX12_digest_420 : decode cX12_digest 420 = .ok (.aload_n 0, 1) := by decide +kernel
theorem dX12_digest_421 : decode cX12_digest 421 = .ok (.iconst 1, 1) := by decide +kernel
theorem dX12_digest_422 : decode cX12_digest 422 = .ok (.iconst 1, 1) := by decide +kernel
theorem dX12_digest_423 : decode cX12_digest 423 = .ok (.iload 4, 2) := by decide +kernel
theorem dX12_digest_425 : decode cX12_digest 425 = .ok (.invokevirtual 327, 3) := by decide +kernel
theorem dX12_digest_428 : decode cX12_digest 428 = .ok (.ladd, 1) := by decide +kernel
theorem dX12_digest_429 : decode cX12_digest 429 = .ok (.lstore_n 1, 1) := by decide +kernel
theorem dX12_digest_430 : decode cX12_digest 430 = .ok (.iinc 4 1, 3) := by decide +kernel
theorem dX12_digest_433 : decode cX12_digest 433 = .ok (.goto (-24), 3) := by decide +kernel
theorem dX12_digest_436 : decode cX12_digest 436 = .ok (.ldc2_w 299, 3) := by decide +kernel
theorem dX12_digest_439 : decode cX12_digest 439 = .ok (.lload_n 1, 1) := by decide +kernel
theorem dX12_digest_440 : decode cX12_digest 440 = .ok (.lmul, 1) := by decide +kernel
theorem dX12_digest_441 : decode cX12_digest 441 = .ok (.aload_n 0, 1) := by decide +kernel
theorem dX12_digest_442 : decode cX12_digest 442 = .ok (.bipush 7, 2) := by decide +kernel
theorem dX12_digest_444 : decode cX12_digest 444 = .ok (.invokevirtual 296, 3) := by decide +kernel
theorem dX12_digest_447 : decode cX12_digest 447 = .ok (.i2l, 1) := by decide +kernel
theorem dX12_digest_448 : decode cX12_digest 448 = .ok (.ladd, 1) := by decide +kernel
theorem dX12_digest_449 : decode cX12_digest 449 = .ok (.lreturn, 1) := by decide +kernel
theorem dL_law_0 : decode cL_law 0 = .ok (.new 7, 3) := by decide +kernel
theorem dL_law_3 : decode cL_law 3 = .ok (.dup, 1) := by decide +kernel
theorem dL_law_4 : decode cL_law 4 = .ok (.invokespecial 9, 3) := by decide +kernel
theorem dL_law_7 : decode cL_law 7 = .ok (.astore_n 1, 1) := by decide +kernel
theorem dL_law_8 : decode cL_law 8 = .ok (.new 10, 3) := by decide +kernel
theorem dL_law_11 : decode cL_law 11 = .ok (.dup, 1) := by decide +kernel
theorem dL_law_12 : decode cL_law 12 = .ok (.invokespecial 12, 3) := by decide +kernel
theorem dL_law_15 : decode cL_law 15 = .ok (.astore_n 2, 1) := by decide +kernel
theorem dL_law_16 : decode cL_law 16 = .ok (.iconst 0, 1) := by decide +kernel
theorem dL_law_17 : decode cL_law 17 = .ok (.istore_n 3, 1) := by decide +kernel
theorem dL_law_18 : decode cL_law 18 = .ok (.iload_n 3, 1) := by decide +kernel
theorem dL_law_19 : decode cL_law 19 = .ok (.aload_n 0, 1) := by decide +kernel
theorem dL_law_20 : decode cL_law 20 = .ok (.arraylength, 1) := by decide +kernel
theorem dL_law_21 : decode cL_law 21 = .ok (.bipush 6, 2) := by decide +kernel
theorem dL_law_23 : decode cL_law 23 = .ok (.isub, 1) := by decide +kernel
theorem dL_law_24 : decode cL_law 24 = .ok (.if_icmp .gt 1236, 3) := by decide +kernel
theorem dL_law_27 : decode cL_law 27 = .ok (.aload_n 0, 1) := by decide +kernel
theorem dL_law_28 : decode cL_law 28 = .ok (.iload_n 3, 1) := by decide +kernel
theorem dL_law_29 : decode cL_law 29 = .ok (.iaload, 1) := by decide +kernel
theorem dL_law_30 : decode cL_law 30 = .ok (.bipush 63, 2) := by decide +kernel
theorem dL_law_32 : decode cL_law 32 = .ok (.iand, 1) := by decide +kernel
theorem dL_law_33 : decode cL_law 33 = .ok (.tableswitch 1221 0 33 #[151, 184, 207, 230, 253, 286, 319, 352, 385, 418, 461, 505, 539, 552, 565, 599, 622, 645, 669, 703, 757, 801, 844, 857, 880, 903, 926, 969, 992, 1045, 1088, 1151, 1184, 1207], 151) := by decide +kernel
theorem dL_law_184 : decode cL_law 184 = .ok (.aload_n 1, 1) := by decide +kernel
theorem dL_law_185 : decode cL_law 185 = .ok (.aload_n 0, 1) := by decide +kernel
theorem dL_law_186 : decode cL_law 186 = .ok (.iload_n 3, 1) := by decide +kernel
theorem dL_law_187 : decode cL_law 187 = .ok (.iconst 1, 1) := by decide +kernel
theorem dL_law_188 : decode cL_law 188 = .ok (.iadd, 1) := by decide +kernel
theorem dL_law_189 : decode cL_law 189 = .ok (.iaload, 1) := by decide +kernel
theorem dL_law_190 : decode cL_law 190 = .ok (.aload_n 0, 1) := by decide +kernel
theorem dL_law_191 : decode cL_law 191 = .ok (.iload_n 3, 1) := by decide +kernel
theorem dL_law_192 : decode cL_law 192 = .ok (.iconst 2, 1) := by decide +kernel
theorem dL_law_193 : decode cL_law 193 = .ok (.iadd, 1) := by decide +kernel
theorem dL_law_194 : decode cL_law 194 = .ok (.iaload, 1) := by decide +kernel
theorem dL_law_195 : decode cL_law 195 = .ok (.invokevirtual 13, 3) := by decide +kernel
theorem dL_law_198 : decode cL_law 198 = .ok (.aload_n 2, 1) := by decide +kernel
theorem dL_law_199 : decode cL_law 199 = .ok (.aload_n 0, 1) := by decide +kernel
theorem dL_law_200 : decode cL_law 200 = .ok (.iload_n 3, 1) := by decide +kernel
theorem dL_law_201 : decode cL_law 201 = .ok (.iconst 1, 1) := by decide +kernel
theorem dL_law_202 : decode cL_law 202 = .ok (.iadd, 1) := by decide +kernel
theorem dL_law_203 : decode cL_law 203 = .ok (.iaload, 1) := by decide +kernel
theorem dL_law_204 : decode cL_law 204 = .ok (.aload_n 0, 1) := by decide +kernel
theorem dL_law_205 : decode cL_law 205 = .ok (.iload_n 3, 1) := by decide +kernel
theorem dL_law_206 : decode cL_law 206 = .ok (.iconst 2, 1) := by decide +kernel
theorem dL_law_207 : decode cL_law 207 = .ok (.iadd, 1) := by decide +kernel
theorem dL_law_208 : decode cL_law 208 = .ok (.iaload, 1) := by decide +kernel
theorem dL_law_209 : decode cL_law 209 = .ok (.invokevirtual 17, 3) := by decide +kernel
theorem dL_law_212 : decode cL_law 212 = .ok (.if_icmp .eq 1042, 3) := by decide +kernel
theorem dL_law_215 : decode cL_law 215 = .ok (.iconst 0, 1) := by decide +kernel
theorem dL_law_216 : decode cL_law 216 = .ok (.ireturn, 1) := by decide +kernel
theorem dL_law_217 : decode cL_law 217 = .ok (.aload_n 1, 1) := by decide +kernel
theorem dL_law_218 : decode cL_law 218 = .ok (.aload_n 0, 1) := by decide +kernel
theorem dL_law_219 : decode cL_law 219 = .ok (.iload_n 3, 1) := by decide +kernel
theorem dL_law_220 : decode cL_law 220 = .ok (.iconst 1, 1) := by decide +kernel
theorem dL_law_221 : decode cL_law 221 = .ok (.iadd, 1) := by decide +kernel
theorem dL_law_222 : decode cL_law 222 = .ok (.iaload, 1) := by decide +kernel
theorem dL_law_223 : decode cL_law 223 = .ok (.invokevirtual 18, 3) := by decide +kernel
theorem dL_law_226 : decode cL_law 226 = .ok (.aload_n 2, 1) := by decide +kernel
theorem dL_law_227 : decode cL_law 227 = .ok (.aload_n 0, 1) := by decide +kernel
theorem dL_law_228 : decode cL_law 228 = .ok (.iload_n 3, 1) := by decide +kernel
theorem dL_law_229 : decode cL_law 229 = .ok (.iconst 1, 1) := by decide +kernel
theorem dL_law_230 : decode cL_law 230 = .ok (.iadd, 1) := by decide +kernel
theorem dL_law_231 : decode cL_law 231 = .ok (.iaload, 1) := by decide +kernel
theorem dL_law_232 : decode cL_law 232 = .ok (.invokevirtual 22, 3) := by decide +kernel
theorem dL_law_235 : decode cL_law 235 = .ok (.if_icmp .eq 1019, 3) := by decide +kernel
theorem dL_law_238 : decode cL_law 238 = .ok (.iconst 0, 1) := by decide +kernel
theorem dL_law_239 : decode cL_law 239 = .ok (.ireturn, 1) := by decide +kernel
theorem dL_law_240 : decode cL_law 240 = .ok (.aload_n 1, 1) := by decide +kernel
theorem dL_law_241 : decode cL_law 241 = .ok (.aload_n 0, 1) := by decide +kernel
theorem dL_law_242 : decode cL_law 242 = .ok (.iload_n 3, 1) := by decide +kernel
theorem dL_law_243 : decode cL_law 243 = .ok (.iconst 1, 1) := by decide +kernel
theorem dL_law_244 : decode cL_law 244 = .ok (.iadd, 1) := by decide +kernel
theorem dL_law_245 : decode cL_law 245 = .ok (.iaload, 1) := by decide +kernel
theorem dL_law_246 : decode cL_law 246 = .ok (.invokevirtual 23, 3) := by decide +kernel
theorem dL_law_249 : decode cL_law 249 = .ok (.aload_n 2, 1) := by decide +kernel
theorem dL_law_250 : decode cL_law 250 = .ok (.aload_n 0, 1) := by decide +kernel
theorem dL_law_251 : decode cL_law 251 = .ok (.iload_n 3, 1) := by decide +kernel
theorem dL_law_252 : decode cL_law 252 = .ok (.iconst 1, 1) := by decide +kernel
theorem dL_law_253 : decode cL_law 253 = .ok (.iadd, 1) := by decide +kernel
theorem dL_law_254 : decode cL_law 254 = .ok (.iaload, 1) := by decide +kernel
theorem dL_law_255 : decode cL_law 255 = .ok (.invokevirtual 26, 3) := by decide +kernel
theorem dL_law_258 : decode cL_law 258 = .ok (.if_icmp .eq 996, 3) := by decide +kernel
theorem dL_law_261 : decode cL_law 261 = .ok (.iconst 0, 1) := by decide +kernel
theorem dL_law_262 : decode cL_law 262 = .ok (.ireturn, 1) := by decide +kernel
theorem dL_law_263 : decode cL_law 263 = .ok (.aload_n 1, 1) := by decide +kernel
theorem dL_law_264 : decode cL_law 264 = .ok (.aload_n 0, 1) := by decide +kernel
theorem dL_law_265 : decode cL_law 265 = .ok (.iload_n 3, 1) := by decide +kernel
theorem dL_law_266 : decode cL_law 266 = .ok (.iconst 1, 1) := by decide +kernel
theorem dL_law_267 : decode cL_law 267 = .ok (.iadd, 1) := by decide +kernel
theorem dL_law_268 : decode cL_law 268 = .ok (.iaload, 1) := by decide +kernel
theorem dL_law_269 : decode cL_law 269 = .ok (.invokevirtual 27, 3) := by decide +kernel
theorem dL_law_272 : decode cL_law 272 = .ok (.aload_n 2, 1) := by decide +kernel
theorem dL_law_273 : decode cL_law 273 = .ok (.aload_n 0, 1) := by decide +kernel
theorem dL_law_274 : decode cL_law 274 = .ok (.iload_n 3, 1) := by decide +kernel
theorem dL_law_275 : decode cL_law 275 = .ok (.iconst 1, 1) := by decide +kernel
theorem dL_law_276 : decode cL_law 276 = .ok (.iadd, 1) := by decide +kernel
theorem dL_law_277 : decode cL_law 277 = .ok (.iaload, 1) := by decide +kernel
theorem dL_law_278 : decode cL_law 278 = .ok (.invokevirtual 30, 3) := by decide +kernel
theorem dL_law_281 : decode cL_law 281 = .ok (.if_icmp .eq 973, 3) := by decide +kernel
theorem dL_law_284 : decode cL_law 284 = .ok (.iconst 0, 1) := by decide +kernel
theorem dL_law_285 : decode cL_law 285 = .ok (.ireturn, 1) := by decide +kernel
theorem dL_law_286 : decode cL_law 286 = .ok (.aload_n 1, 1) := by decide +kernel
theorem dL_law_287 : decode cL_law 287 = .ok (.aload_n 0, 1) := by decide +kernel
theorem dL_law_288 : decode cL_law 288 = .ok (.iload_n 3, 1) := by decide +kernel
theorem dL_law_289 : decode cL_law 289 = .ok (.iconst 1, 1) := by decide +kernel
theorem dL_law_290 : decode cL_law 290 = .ok (.iadd, 1) := by decide +kernel
theorem dL_law_291 : decode cL_law 291 = .ok (.iaload, 1) := by decide +kernel
theorem dL_law_292 : decode cL_law 292 = .ok (.aload_n 0, 1) := by decide +kernel
theorem dL_law_293 : decode cL_law 293 = .ok (.iload_n 3, 1) := by decide +kernel
theorem dL_law_294 : decode cL_law 294 = .ok (.iconst 2, 1) := by decide +kernel
theorem dL_law_295 : decode cL_law 295 = .ok (.iadd, 1) := by decide +kernel
theorem dL_law_296 : decode cL_law 296 = .ok (.iaload, 1) := by decide +kernel
theorem dL_law_297 : decode cL_law 297 = .ok (.invokevirtual 31, 3) := by decide +kernel
theorem dL_law_300 : decode cL_law 300 = .ok (.aload_n 2, 1) := by decide +kernel
theorem dL_law_301 : decode cL_law 301 = .ok (.aload_n 0, 1) := by decide +kernel
theorem dL_law_302 : decode cL_law 302 = .ok (.iload_n 3, 1) := by decide +kernel
theorem dL_law_303 : decode cL_law 303 = .ok (.iconst 1, 1) := by decide +kernel
theorem dL_law_304 : decode cL_law 304 = .ok (.iadd, 1) := by decide +kernel
theorem dL_law_305 : decode cL_law 305 = .ok (.iaload, 1) := by decide +kernel
theorem dL_law_306 : decode cL_law 306 = .ok (.aload_n 0, 1) := by decide +kernel
theorem dL_law_307 : decode cL_law 307 = .ok (.iload_n 3, 1) := by decide +kernel
theorem dL_law_308 : decode cL_law 308 = .ok (.iconst 2, 1) := by decide +kernel
theorem dL_law_309 : decode cL_law 309 = .ok (.iadd, 1) := by decide +kernel
theorem dL_law_310 : decode cL_law 310 = .ok (.iaload, 1) := by decide +kernel
theorem dL_law_311 : decode cL_law 311 = .ok (.invokevirtual 34, 3) := by decide +kernel
theorem dL_law_314 : decode cL_law 314 = .ok (.if_icmp .eq 940, 3) := by decide +kernel
theorem dL_law_317 : decode cL_law 317 = .ok (.iconst 0, 1) := by decide +kernel
theorem dL_law_318 : decode cL_law 318 = .ok (.ireturn, 1) := by decide +kernel
theorem dL_law_319 : decode cL_law 319 = .ok (.aload_n 1, 1) := by decide +kernel
theorem dL_law_320 : decode cL_law 320 = .ok (.aload_n 0, 1) := by decide +kernel
theorem dL_law_321 : decode cL_law 321 = .ok (.iload_n 3, 1) := by decide +kernel
theorem dL_law_322 : decode cL_law 322 = .ok (.iconst 1, 1) := by decide +kernel
theorem dL_law_323 : decode cL_law 323 = .ok (.iadd, 1) := by decide +kernel
theorem dL_law_324 : decode cL_law 324 = .ok (.iaload, 1) := by decide +kernel
theorem dL_law_325 : decode cL_law 325 = .ok (.aload_n 0, 1) := by decide +kernel
theorem dL_law_326 : decode cL_law 326 = .ok (.iload_n 3, 1) := by decide +kernel
theorem dL_law_327 : decode cL_law 327 = .ok (.iconst 2, 1) := by decide +kernel
theorem dL_law_328 : decode cL_law 328 = .ok (.iadd, 1) := by decide +kernel
theorem dL_law_329 : decode cL_law 329 = .ok (.iaload, 1) := by decide +kernel
theorem dL_law_330 : decode cL_law 330 = .ok (.invokevirtual 35, 3) := by decide +kernel
theorem dL_law_333 : decode cL_law 333 = .ok (.aload_n 2, 1) := by decide +kernel
theorem dL_law_334 : decode cL_law 334 = .ok (.aload_n 0, 1) := by decide +kernel
theorem dL_law_335 : decode cL_law 335 = .ok (.iload_n 3, 1) := by decide +kernel
theorem dL_law_336 : decode cL_law 336 = .ok (.iconst 1, 1) := by decide +kernel
theorem dL_law_337 : decode cL_law 337 = .ok (.iadd, 1) := by decide +kernel
theorem dL_law_338 : decode cL_law 338 = .ok (.iaload, 1) := by decide +kernel
theorem dL_law_339 : decode cL_law 339 = .ok (.aload_n 0, 1) := by decide +kernel
theorem dL_law_340 : decode cL_law 340 = .ok (.iload_n 3, 1) := by decide +kernel
theorem dL_law_341 : decode cL_law 341 = .ok (.iconst 2, 1) := by decide +kernel
theorem dL_law_342 : decode cL_law 342 = .ok (.iadd, 1) := by decide +kernel
theorem dL_law_343 : decode cL_law 343 = .ok (.iaload, 1) := by decide +kernel
theorem dL_law_344 : decode cL_law 344 = .ok (.invokevirtual 38, 3) := by decide +kernel
theorem dL_law_347 : decode cL_law 347 = .ok (.if_icmp .eq 907, 3) := by decide +kernel
theorem dL_law_350 : decode cL_law 350 = .ok (.iconst 0, 1) := by decide +kernel
theorem dL_law_351 : decode cL_law 351 = .ok (.ireturn, 1) := by decide +kernel
theorem dL_law_352 : decode cL_law 352 = .ok (.aload_n 1, 1) := by decide +kernel
theorem dL_law_353 : decode cL_law 353 = .ok (.aload_n 0, 1) := by decide +kernel
theorem dL_law_354 : decode cL_law 354 = .ok (.iload_n 3, 1) := by decide +kernel
theorem dL_law_355 : decode cL_law 355 = .ok (.iconst 1, 1) := by decide +kernel
theorem dL_law_356 : decode cL_law 356 = .ok (.iadd, 1) := by decide +kernel
theorem dL_law_357 : decode cL_law 357 = .ok (.iaload, 1) := by decide +kernel
theorem dL_law_358 : decode cL_law 358 = .ok (.aload_n 0, 1) := by decide +kernel
theorem dL_law_359 : decode cL_law 359 = .ok (.iload_n 3, 1) := by decide +kernel
theorem dL_law_360 : decode cL_law 360 = .ok (.iconst 2, 1) := by decide +kernel
theorem dL_law_361 : decode cL_law 361 = .ok (.iadd, 1) := by decide +kernel
theorem dL_law_362 : decode cL_law 362 = .ok (.iaload, 1) := by decide +kernel
theorem dL_law_363 : decode cL_law 363 = .ok (.invokevirtual 39, 3) := by decide +kernel
theorem dL_law_366 : decode cL_law 366 = .ok (.aload_n 2, 1) := by decide +kernel
theorem dL_law_367 : decode cL_law 367 = .ok (.aload_n 0, 1) := by decide +kernel
theorem dL_law_368 : decode cL_law 368 = .ok (.iload_n 3, 1) := by decide +kernel
theorem dL_law_369 : decode cL_law 369 = .ok (.iconst 1, 1) := by decide +kernel
theorem dL_law_370 : decode cL_law 370 = .ok (.iadd, 1) := by decide +kernel
theorem dL_law_371 : decode cL_law 371 = .ok (.iaload, 1) := by decide +kernel
theorem dL_law_372 : decode cL_law 372 = .ok (.aload_n 0, 1) := by decide +kernel
theorem dL_law_373 : decode cL_law 373 = .ok (.iload_n 3, 1) := by decide +kernel
theorem dL_law_374 : decode cL_law 374 = .ok (.iconst 2, 1) := by decide +kernel
theorem dL_law_375 : decode cL_law 375 = .ok (.iadd, 1) := by decide +kernel
theorem dL_law_376 : decode cL_law 376 = .ok (.iaload, 1) := by decide +kernel
theorem dL_law_377 : decode cL_law 377 = .ok (.invokevirtual 42, 3) := by decide +kernel
theorem dL_law_380 : decode cL_law 380 = .ok (.if_icmp .eq 874, 3) := by decide +kernel
theorem dL_law_383 : decode cL_law 383 = .ok (.iconst 0, 1) := by decide +kernel
theorem dL_law_384 : decode cL_law 384 = .ok (.ireturn, 1) := by decide +kernel
theorem dL_law_385 : decode cL_law 385 = .ok (.aload_n 1, 1) := by decide +kernel
theorem dL_law_386 : decode cL_law 386 = .ok (.aload_n 0, 1) := by decide +kernel
theorem dL_law_387 : decode cL_law 387 = .ok (.iload_n 3, 1) := by decide +kernel
theorem dL_law_388 : decode cL_law 388 = .ok (.iconst 1, 1) := by decide +kernel
theorem dL_law_389 : decode cL_law 389 = .ok (.iadd, 1) := by decide +kernel
theorem dL_law_390 : decode cL_law 390 = .ok (.iaload, 1) := by decide +kernel
theorem dL_law_391 : decode cL_law 391 = .ok (.aload_n 0, 1) := by decide +kernel
theorem dL_law_392 : decode cL_law 392 = .ok (.iload_n 3, 1) := by decide +kernel
theorem dL_law_393 : decode cL_law 393 = .ok (.iconst 2, 1) := by decide +kernel
theorem dL_law_394 : decode cL_law 394 = .ok (.iadd, 1) := by decide +kernel
theorem dL_law_395 : decode cL_law 395 = .ok (.iaload, 1) := by decide +kernel
theorem dL_law_396 : decode cL_law 396 = .ok (.invokevirtual 43, 3) := by decide +kernel
theorem dL_law_399 : decode cL_law 399 = .ok (.aload_n 2, 1) := by decide +kernel
theorem dL_law_400 : decode cL_law 400 = .ok (.aload_n 0, 1) := by decide +kernel
theorem dL_law_401 : decode cL_law 401 = .ok (.iload_n 3, 1) := by decide +kernel
theorem dL_law_402 : decode cL_law 402 = .ok (.iconst 1, 1) := by decide +kernel
theorem dL_law_403 : decode cL_law 403 = .ok (.iadd, 1) := by decide +kernel
theorem dL_law_404 : decode cL_law 404 = .ok (.iaload, 1) := by decide +kernel
theorem dL_law_405 : decode cL_law 405 = .ok (.aload_n 0, 1) := by decide +kernel
theorem dL_law_406 : decode cL_law 406 = .ok (.iload_n 3, 1) := by decide +kernel
theorem dL_law_407 : decode cL_law 407 = .ok (.iconst 2, 1) := by decide +kernel
theorem dL_law_408 : decode cL_law 408 = .ok (.iadd, 1) := by decide +kernel
theorem dL_law_409 : decode cL_law 409 = .ok (.iaload, 1) := by decide +kernel
theorem dL_law_410 : decode cL_law 410 = .ok (.invokevirtual 46, 3) := by decide +kernel
theorem dL_law_413 : decode cL_law 413 = .ok (.if_icmp .eq 841, 3) := by decide +kernel
theorem dL_law_416 : decode cL_law 416 = .ok (.iconst 0, 1) := by decide +kernel
theorem dL_law_417 : decode cL_law 417 = .ok (.ireturn, 1) := by decide +kernel
theorem dL_law_418 : decode cL_law 418 = .ok (.aload_n 1, 1) := by decide +kernel
theorem dL_law_419 : decode cL_law 419 = .ok (.aload_n 0, 1) := by decide +kernel
theorem dL_law_420 : decode cL_law 420 = .ok (.iload_n 3, 1) := by decide +kernel
theorem dL_law_421 : decode cL_law 421 = .ok (.iconst 1, 1) := by decide +kernel
theorem dL_law_422 : decode cL_law 422 = .ok (.iadd, 1) := by decide +kernel
theorem dL_law_423 : decode cL_law 423 = .ok (.iaload, 1) := by decide +kernel
theorem dL_law_424 : decode cL_law 424 = .ok (.aload_n 0, 1) := by decide +kernel
theorem dL_law_425 : decode cL_law 425 = .ok (.iload_n 3, 1) := by decide +kernel
theorem dL_law_426 : decode cL_law 426 = .ok (.iconst 2, 1) := by decide +kernel
theorem dL_law_427 : decode cL_law 427 = .ok (.iadd, 1) := by decide +kernel
theorem dL_law_428 : decode cL_law 428 = .ok (.iaload, 1) := by decide +kernel
theorem dL_law_429 : decode cL_law 429 = .ok (.invokevirtual 47, 3) := by decide +kernel
theorem dL_law_432 : decode cL_law 432 = .ok (.aload_n 2, 1) := by decide +kernel
theorem dL_law_433 : decode cL_law 433 = .ok (.aload_n 0, 1) := by decide +kernel
theorem dL_law_434 : decode cL_law 434 = .ok (.iload_n 3, 1) := by decide +kernel
theorem dL_law_435 : decode cL_law 435 = .ok (.iconst 1, 1) := by decide +kernel
theorem dL_law_436 : decode cL_law 436 = .ok (.iadd, 1) := by decide +kernel
theorem dL_law_437 : decode cL_law 437 = .ok (.iaload, 1) := by decide +kernel
theorem dL_law_438 : decode cL_law 438 = .ok (.aload_n 0, 1) := by decide +kernel
theorem dL_law_439 : decode cL_law 439 = .ok (.iload_n 3, 1) := by decide +kernel
theorem dL_law_440 : decode cL_law 440 = .ok (.iconst 2, 1) := by decide +kernel
theorem dL_law_441 : decode cL_law 441 = .ok (.iadd, 1) := by decide +kernel
theorem dL_law_442 : decode cL_law 442 = .ok (.iaload, 1) := by decide +kernel
theorem dL_law_443 : decode cL_law 443 = .ok (.invokevirtual 50, 3) := by decide +kernel
theorem dL_law_446 : decode cL_law 446 = .ok (.if_icmp .eq 808, 3) := by decide +kernel
theorem dL_law_449 : decode cL_law 449 = .ok (.iconst 0, 1) := by decide +kernel
theorem dL_law_450 : decode cL_law 450 = .ok (.ireturn, 1) := by decide +kernel
theorem dL_law_451 : decode cL_law 451 = .ok (.aload_n 1, 1) := by decide +kernel
theorem dL_law_452 : decode cL_law 452 = .ok (.aload_n 0, 1) := by decide +kernel
theorem dL_law_453 : decode cL_law 453 = .ok (.iload_n 3, 1) := by decide +kernel
theorem dL_law_454 : decode cL_law 454 = .ok (.iconst 1, 1) := by decide +kernel
theorem dL_law_455 : decode cL_law 455 = .ok (.iadd, 1) := by decide +kernel
theorem dL_law_456 : decode cL_law 456 = .ok (.iaload, 1) := by decide +kernel
theorem dL_law_457 : decode cL_law 457 = .ok (.aload_n 0, 1) := by decide +kernel
theorem dL_law_458 : decode cL_law 458 = .ok (.iload_n 3, 1) := by decide +kernel
theorem dL_law_459 : decode cL_law 459 = .ok (.iconst 2, 1) := by decide +kernel
theorem dL_law_460 : decode cL_law 460 = .ok (.iadd, 1) := by decide +kernel
theorem dL_law_461 : decode cL_law 461 = .ok (.iaload, 1) := by decide +kernel
theorem dL_law_462 : decode cL_law 462 = .ok (.aload_n 0, 1) := by decide +kernel
theorem dL_law_463 : decode cL_law 463 = .ok (.iload_n 3, 1) := by decide +kernel
theorem dL_law_464 : decode cL_law 464 = .ok (.iconst 3, 1) := by decide +kernel
theorem dL_law_465 : decode cL_law 465 = .ok (.iadd, 1) := by decide +kernel
theorem dL_law_466 : decode cL_law 466 = .ok (.iaload, 1) := by decide +kernel
theorem dL_law_467 : decode cL_law 467 = .ok (.invokevirtual 51, 3) := by decide +kernel
theorem dL_law_470 : decode cL_law 470 = .ok (.aload_n 2, 1) := by decide +kernel
theorem dL_law_471 : decode cL_law 471 = .ok (.aload_n 0, 1) := by decide +kernel
theorem dL_law_472 : decode cL_law 472 = .ok (.iload_n 3, 1) := by decide +kernel
theorem dL_law_473 : decode cL_law 473 = .ok (.iconst 1, 1) := by decide +kernel
theorem dL_law_474 : decode cL_law 474 = .ok (.iadd, 1) := by decide +kernel
theorem dL_law_475 : decode cL_law 475 = .ok (.iaload, 1) := by decide +kernel
theorem dL_law_476 : decode cL_law 476 = .ok (.aload_n 0, 1) := by decide +kernel
theorem dL_law_477 : decode cL_law 477 = .ok (.iload_n 3, 1) := by decide +kernel
theorem dL_law_478 : decode cL_law 478 = .ok (.iconst 2, 1) := by decide +kernel
theorem dL_law_479 : decode cL_law 479 = .ok (.iadd, 1) := by decide +kernel
theorem dL_law_480 : decode cL_law 480 = .ok (.iaload, 1) := by decide +kernel
theorem dL_law_481 : decode cL_law 481 = .ok (.aload_n 0, 1) := by decide +kernel
theorem dL_law_482 : decode cL_law 482 = .ok (.iload_n 3, 1) := by decide +kernel
theorem dL_law_483 : decode cL_law 483 = .ok (.iconst 3, 1) := by decide +kernel
theorem dL_law_484 : decode cL_law 484 = .ok (.iadd, 1) := by decide +kernel
theorem dL_law_485 : decode cL_law 485 = .ok (.iaload, 1) := by decide +kernel
theorem dL_law_486 : decode cL_law 486 = .ok (.invokevirtual 55, 3) := by decide +kernel
theorem dL_law_489 : decode cL_law 489 = .ok (.if_icmp .eq 765, 3) := by decide +kernel
theorem dL_law_492 : decode cL_law 492 = .ok (.iconst 0, 1) := by decide +kernel
theorem dL_law_493 : decode cL_law 493 = .ok (.ireturn, 1) := by decide +kernel
theorem dL_law_494 : decode cL_law 494 = .ok (.aload_n 1, 1) := by decide +kernel
theorem dL_law_495 : decode cL_law 495 = .ok (.aload_n 0, 1) := by decide +kernel
theorem dL_law_496 : decode cL_law 496 = .ok (.iload_n 3, 1) := by decide +kernel
theorem dL_law_497 : decode cL_law 497 = .ok (.iconst 1, 1) := by decide +kernel
theorem dL_law_498 : decode cL_law 498 = .ok (.iadd, 1) := by decide +kernel
theorem dL_law_499 : decode cL_law 499 = .ok (.iaload, 1) := by decide +kernel
theorem dL_law_500 : decode cL_law 500 = .ok (.aload_n 0, 1) := by decide +kernel
theorem dL_law_501 : decode cL_law 501 = .ok (.iload_n 3, 1) := by decide +kernel
theorem dL_law_502 : decode cL_law 502 = .ok (.iconst 2, 1) := by decide +kernel
theorem dL_law_503 : decode cL_law 503 = .ok (.iadd, 1) := by decide +kernel
theorem dL_law_504 : decode cL_law 504 = .ok (.iaload, 1) := by decide +kernel
theorem dL_law_505 : decode cL_law 505 = .ok (.aload_n 0, 1) := by decide +kernel
theorem dL_law_506 : decode cL_law 506 = .ok (.iload_n 3, 1) := by decide +kernel
theorem dL_law_507 : decode cL_law 507 = .ok (.iconst 3, 1) := by decide +kernel
theorem dL_law_508 : decode cL_law 508 = .ok (.iadd, 1) := by decide +kernel
theorem dL_law_509 : decode cL_law 509 = .ok (.iaload, 1) := by decide +kernel
theorem dL_law_510 : decode cL_law 510 = .ok (.invokevirtual 56, 3) := by decide +kernel
theorem dL_law_513 : decode cL_law 513 = .ok (.aload_n 2, 1) := by decide +kernel
theorem dL_law_514 : decode cL_law 514 = .ok (.aload_n 0, 1) := by decide +kernel
theorem dL_law_515 : decode cL_law 515 = .ok (.iload_n 3, 1) := by decide +kernel
theorem dL_law_516 : decode cL_law 516 = .ok (.iconst 1, 1) := by decide +kernel
theorem dL_law_517 : decode cL_law 517 = .ok (.iadd, 1) := by decide +kernel
theorem dL_law_518 : decode cL_law 518 = .ok (.iaload, 1) := by decide +kernel
theorem dL_law_519 : decode cL_law 519 = .ok (.aload_n 0, 1) := by decide +kernel
theorem dL_law_520 : decode cL_law 520 = .ok (.iload_n 3, 1) := by decide +kernel
theorem dL_law_521 : decode cL_law 521 = .ok (.iconst 2, 1) := by decide +kernel
theorem dL_law_522 : decode cL_law 522 = .ok (.iadd, 1) := by decide +kernel
theorem dL_law_523 : decode cL_law 523 = .ok (.iaload, 1) := by decide +kernel
theorem dL_law_524 : decode cL_law 524 = .ok (.aload_n 0, 1) := by decide +kernel
theorem dL_law_525 : decode cL_law 525 = .ok (.iload_n 3, 1) := by decide +kernel
theorem dL_law_526 : decode cL_law 526 = .ok (.iconst 3, 1) := by decide +kernel
theorem dL_law_527 : decode cL_law 527 = .ok (.iadd, 1) := by decide +kernel
theorem dL_law_528 : decode cL_law 528 = .ok (.iaload, 1) := by decide +kernel
theorem dL_law_529 : decode cL_law 529 = .ok (.invokevirtual 60, 3) := by decide +kernel
theorem dL_law_532 : decode cL_law 532 = .ok (.lcmp, 1) := by decide +kernel
theorem dL_law_533 : decode cL_law 533 = .ok (.ifCond .eq 721, 3) := by decide +kernel
theorem dL_law_536 : decode cL_law 536 = .ok (.iconst 0, 1) := by decide +kernel
theorem dL_law_537 : decode cL_law 537 = .ok (.ireturn, 1) := by decide +kernel
theorem dL_law_538 : decode cL_law 538 = .ok (.aload_n 1, 1) := by decide +kernel
theorem dL_law_539 : decode cL_law 539 = .ok (.aload_n 0, 1) := by decide +kernel
theorem dL_law_540 : decode cL_law 540 = .ok (.iload_n 3, 1) := by decide +kernel
theorem dL_law_541 : decode cL_law 541 = .ok (.iconst 1, 1) := by decide +kernel
theorem dL_law_542 : decode cL_law 542 = .ok (.iadd, 1) := by decide +kernel
theorem dL_law_543 : decode cL_law 543 = .ok (.iaload, 1) := by decide +kernel
theorem dL_law_544 : decode cL_law 544 = .ok (.aload_n 0, 1) := by decide +kernel
theorem dL_law_545 : decode cL_law 545 = .ok (.iload_n 3, 1) := by decide +kernel
theorem dL_law_546 : decode cL_law 546 = .ok (.iconst 2, 1) := by decide +kernel
theorem dL_law_547 : decode cL_law 547 = .ok (.iadd, 1) := by decide +kernel
theorem dL_law_548 : decode cL_law 548 = .ok (.iaload, 1) := by decide +kernel
theorem dL_law_549 : decode cL_law 549 = .ok (.invokevirtual 61, 3) := by decide +kernel
theorem dL_law_552 : decode cL_law 552 = .ok (.aload_n 2, 1) := by decide +kernel
theorem dL_law_553 : decode cL_law 553 = .ok (.aload_n 0, 1) := by decide +kernel
theorem dL_law_554 : decode cL_law 554 = .ok (.iload_n 3, 1) := by decide +kernel
theorem dL_law_555 : decode cL_law 555 = .ok (.iconst 1, 1) := by decide +kernel
theorem dL_law_556 : decode cL_law 556 = .ok (.iadd, 1) := by decide +kernel
theorem dL_law_557 : decode cL_law 557 = .ok (.iaload, 1) := by decide +kernel
theorem dL_law_558 : decode cL_law 558 = .ok (.aload_n 0, 1) := by decide +kernel
theorem dL_law_559 : decode cL_law 559 = .ok (.iload_n 3, 1) := by decide +kernel
theorem dL_law_560 : decode cL_law 560 = .ok (.iconst 2, 1) := by decide +kernel
theorem dL_law_561 : decode cL_law 561 = .ok (.iadd, 1) := by decide +kernel
theorem dL_law_562 : decode cL_law 562 = .ok (.iaload, 1) := by decide +kernel
theorem dL_law_563 : decode cL_law 563 = .ok (.invokevirtual 65, 3) := by decide +kernel
theorem dL_law_566 : decode cL_law 566 = .ok (.lcmp, 1) := by decide +kernel
theorem dL_law_567 : decode cL_law 567 = .ok (.ifCond .eq 687, 3) := by decide +kernel
theorem dL_law_570 : decode cL_law 570 = .ok (.iconst 0, 1) := by decide +kernel
theorem dL_law_571 : decode cL_law 571 = .ok (.ireturn, 1) := by decide +kernel
theorem dL_law_572 : decode cL_law 572 = .ok (.aload_n 1, 1) := by decide +kernel
theorem dL_law_573 : decode cL_law 573 = .ok (.invokevirtual 66, 3) := by decide +kernel
theorem dL_law_576 : decode cL_law 576 = .ok (.aload_n 2, 1) := by decide +kernel
theorem dL_law_577 : decode cL_law 577 = .ok (.invokevirtual 70, 3) := by decide +kernel
theorem dL_law_580 : decode cL_law 580 = .ok (.if_icmp .eq 674, 3) := by decide +kernel
theorem dL_law_583 : decode cL_law 583 = .ok (.iconst 0, 1) := by decide +kernel
theorem dL_law_584 : decode cL_law 584 = .ok (.ireturn, 1) := by decide +kernel
theorem dL_law_585 : decode cL_law 585 = .ok (.aload_n 1, 1) := by decide +kernel
theorem dL_law_586 : decode cL_law 586 = .ok (.invokevirtual 71, 3) := by decide +kernel
theorem dL_law_589 : decode cL_law 589 = .ok (.aload_n 2, 1) := by decide +kernel
theorem dL_law_590 : decode cL_law 590 = .ok (.invokevirtual 74, 3) := by decide +kernel
theorem dL_law_593 : decode cL_law 593 = .ok (.if_icmp .eq 661, 3) := by decide +kernel
theorem dL_law_596 : decode cL_law 596 = .ok (.iconst 0, 1) := by decide +kernel
theorem dL_law_597 : decode cL_law 597 = .ok (.ireturn, 1) := by decide +kernel
theorem dL_law_598 : decode cL_law 598 = .ok (.aload_n 1, 1) := by decide +kernel
theorem dL_law_599 : decode cL_law 599 = .ok (.aload_n 0, 1) := by decide +kernel
theorem dL_law_600 : decode cL_law 600 = .ok (.iload_n 3, 1) := by decide +kernel
theorem dL_law_601 : decode cL_law 601 = .ok (.iconst 1, 1) := by decide +kernel
theorem dL_law_602 : decode cL_law 602 = .ok (.iadd, 1) := by decide +kernel
theorem dL_law_603 : decode cL_law 603 = .ok (.iaload, 1) := by decide +kernel
theorem dL_law_604 : decode cL_law 604 = .ok (.aload_n 0, 1) := by decide +kernel
theorem dL_law_605 : decode cL_law 605 = .ok (.iload_n 3, 1) := by decide +kernel
theorem dL_law_606 : decode cL_law 606 = .ok (.iconst 2, 1) := by decide +kernel
theorem dL_law_607 : decode cL_law 607 = .ok (.iadd, 1) := by decide +kernel
theorem dL_law_608 : decode cL_law 608 = .ok (.iaload, 1) := by decide +kernel
theorem dL_law_609 : decode cL_law 609 = .ok (.invokevirtual 75, 3) := by decide +kernel
theorem dL_law_612 : decode cL_law 612 = .ok (.aload_n 2, 1) := by decide +kernel
theorem dL_law_613 : decode cL_law 613 = .ok (.aload_n 0, 1) := by decide +kernel
theorem dL_law_614 : decode cL_law 614 = .ok (.iload_n 3, 1) := by decide +kernel
theorem dL_law_615 : decode cL_law 615 = .ok (.iconst 1, 1) := by decide +kernel
theorem dL_law_616 : decode cL_law 616 = .ok (.iadd, 1) := by decide +kernel
theorem dL_law_617 : decode cL_law 617 = .ok (.iaload, 1) := by decide +kernel
theorem dL_law_618 : decode cL_law 618 = .ok (.aload_n 0, 1) := by decide +kernel
theorem dL_law_619 : decode cL_law 619 = .ok (.iload_n 3, 1) := by decide +kernel
theorem dL_law_620 : decode cL_law 620 = .ok (.iconst 2, 1) := by decide +kernel
theorem dL_law_621 : decode cL_law 621 = .ok (.iadd, 1) := by decide +kernel
theorem dL_law_622 : decode cL_law 622 = .ok (.iaload, 1) := by decide +kernel
theorem dL_law_623 : decode cL_law 623 = .ok (.invokevirtual 78, 3) := by decide +kernel
theorem dL_law_626 : decode cL_law 626 = .ok (.lcmp, 1) := by decide +kernel
theorem dL_law_627 : decode cL_law 627 = .ok (.ifCond .eq 627, 3) := by decide +kernel
theorem dL_law_630 : decode cL_law 630 = .ok (.iconst 0, 1) := by decide +kernel
theorem dL_law_631 : decode cL_law 631 = .ok (.ireturn, 1) := by decide +kernel
theorem dL_law_632 : decode cL_law 632 = .ok (.aload_n 1, 1) := by decide +kernel
theorem dL_law_633 : decode cL_law 633 = .ok (.aload_n 0, 1) := by decide +kernel
theorem dL_law_634 : decode cL_law 634 = .ok (.iload_n 3, 1) := by decide +kernel
theorem dL_law_635 : decode cL_law 635 = .ok (.iconst 1, 1) := by decide +kernel
theorem dL_law_636 : decode cL_law 636 = .ok (.iadd, 1) := by decide +kernel
theorem dL_law_637 : decode cL_law 637 = .ok (.iaload, 1) := by decide +kernel
theorem dL_law_638 : decode cL_law 638 = .ok (.invokevirtual 79, 3) := by decide +kernel
theorem dL_law_641 : decode cL_law 641 = .ok (.aload_n 2, 1) := by decide +kernel
theorem dL_law_642 : decode cL_law 642 = .ok (.aload_n 0, 1) := by decide +kernel
theorem dL_law_643 : decode cL_law 643 = .ok (.iload_n 3, 1) := by decide +kernel
theorem dL_law_644 : decode cL_law 644 = .ok (.iconst 1, 1) := by decide +kernel
theorem dL_law_645 : decode cL_law 645 = .ok (.iadd, 1) := by decide +kernel
theorem dL_law_646 : decode cL_law 646 = .ok (.iaload, 1) := by decide +kernel
theorem dL_law_647 : decode cL_law 647 = .ok (.invokevirtual 82, 3) := by decide +kernel
theorem dL_law_650 : decode cL_law 650 = .ok (.if_icmp .eq 604, 3) := by decide +kernel
theorem dL_law_653 : decode cL_law 653 = .ok (.iconst 0, 1) := by decide +kernel
theorem dL_law_654 : decode cL_law 654 = .ok (.ireturn, 1) := by decide +kernel
theorem dL_law_655 : decode cL_law 655 = .ok (.aload_n 1, 1) := by decide +kernel
theorem dL_law_656 : decode cL_law 656 = .ok (.aload_n 0, 1) := by decide +kernel
theorem dL_law_657 : decode cL_law 657 = .ok (.iload_n 3, 1) := by decide +kernel
theorem dL_law_658 : decode cL_law 658 = .ok (.iconst 1, 1) := by decide +kernel
theorem dL_law_659 : decode cL_law 659 = .ok (.iadd, 1) := by decide +kernel
theorem dL_law_660 : decode cL_law 660 = .ok (.iaload, 1) := by decide +kernel
theorem dL_law_661 : decode cL_law 661 = .ok (.invokevirtual 83, 3) := by decide +kernel
theorem dL_law_664 : decode cL_law 664 = .ok (.aload_n 2, 1) := by decide +kernel
theorem dL_law_665 : decode cL_law 665 = .ok (.aload_n 0, 1) := by decide +kernel
theorem dL_law_666 : decode cL_law 666 = .ok (.iload_n 3, 1) := by decide +kernel
theorem dL_law_667 : decode cL_law 667 = .ok (.iconst 1, 1) := by decide +kernel
theorem dL_law_668 : decode cL_law 668 = .ok (.iadd, 1) := by decide +kernel
theorem dL_law_669 : decode cL_law 669 = .ok (.iaload, 1) := by decide +kernel
theorem dL_law_670 : decode cL_law 670 = .ok (.invokevirtual 86, 3) := by decide +kernel
theorem dL_law_673 : decode cL_law 673 = .ok (.if_icmp .eq 581, 3) := by decide +kernel
theorem dL_law_676 : decode cL_law 676 = .ok (.iconst 0, 1) := by decide +kernel
theorem dL_law_677 : decode cL_law 677 = .ok (.ireturn, 1) := by decide +kernel
theorem dL_law_678 : decode cL_law 678 = .ok (.aload_n 1, 1) := by decide +kernel
theorem dL_law_679 : decode cL_law 679 = .ok (.aload_n 0, 1) := by decide +kernel
theorem dL_law_680 : decode cL_law 680 = .ok (.iload_n 3, 1) := by decide +kernel
theorem dL_law_681 : decode cL_law 681 = .ok (.iconst 1, 1) := by decide +kernel
theorem dL_law_682 : decode cL_law 682 = .ok (.iadd, 1) := by decide +kernel
theorem dL_law_683 : decode cL_law 683 = .ok (.iaload, 1) := by decide +kernel
theorem dL_law_684 : decode cL_law 684 = .ok (.invokevirtual 87, 3) := by decide +kernel
theorem dL_law_687 : decode cL_law 687 = .ok (.aload_n 2, 1) := by decide +kernel
theorem dL_law_688 : decode cL_law 688 = .ok (.aload_n 0, 1) := by decide +kernel
theorem dL_law_689 : decode cL_law 689 = .ok (.iload_n 3, 1) := by decide +kernel
theorem dL_law_690 : decode cL_law 690 = .ok (.iconst 1, 1) := by decide +kernel
theorem dL_law_691 : decode cL_law 691 = .ok (.iadd, 1) := by decide +kernel
theorem dL_law_692 : decode cL_law 692 = .ok (.iaload, 1) := by decide +kernel
theorem dL_law_693 : decode cL_law 693 = .ok (.invokevirtual 91, 3) := by decide +kernel
theorem dL_law_696 : decode cL_law 696 = .ok (.lcmp, 1) := by decide +kernel
theorem dL_law_697 : decode cL_law 697 = .ok (.ifCond .eq 557, 3) := by decide +kernel
theorem dL_law_700 : decode cL_law 700 = .ok (.iconst 0, 1) := by decide +kernel
theorem dL_law_701 : decode cL_law 701 = .ok (.ireturn, 1) := by decide +kernel
theorem dL_law_702 : decode cL_law 702 = .ok (.aload_n 1, 1) := by decide +kernel
theorem dL_law_703 : decode cL_law 703 = .ok (.aload_n 0, 1) := by decide +kernel
theorem dL_law_704 : decode cL_law 704 = .ok (.iload_n 3, 1) := by decide +kernel
theorem dL_law_705 : decode cL_law 705 = .ok (.iconst 1, 1) := by decide +kernel
theorem dL_law_706 : decode cL_law 706 = .ok (.iadd, 1) := by decide +kernel
theorem dL_law_707 : decode cL_law 707 = .ok (.iaload, 1) := by decide +kernel
theorem dL_law_708 : decode cL_law 708 = .ok (.aload_n 0, 1) := by decide +kernel
theorem dL_law_709 : decode cL_law 709 = .ok (.iload_n 3, 1) := by decide +kernel
theorem dL_law_710 : decode cL_law 710 = .ok (.iconst 2, 1) := by decide +kernel
theorem dL_law_711 : decode cL_law 711 = .ok (.iadd, 1) := by decide +kernel
theorem dL_law_712 : decode cL_law 712 = .ok (.iaload, 1) := by decide +kernel
theorem dL_law_713 : decode cL_law 713 = .ok (.invokevirtual 92, 3) := by decide +kernel
theorem dL_law_716 : decode cL_law 716 = .ok (.aload_n 2, 1) := by decide +kernel
theorem dL_law_717 : decode cL_law 717 = .ok (.aload_n 0, 1) := by decide +kernel
theorem dL_law_718 : decode cL_law 718 = .ok (.iload_n 3, 1) := by decide +kernel
theorem dL_law_719 : decode cL_law 719 = .ok (.iconst 1, 1) := by decide +kernel
theorem dL_law_720 : decode cL_law 720 = .ok (.iadd, 1) := by decide +kernel
theorem dL_law_721 : decode cL_law 721 = .ok (.iaload, 1) := by decide +kernel
theorem dL_law_722 : decode cL_law 722 = .ok (.aload_n 0, 1) := by decide +kernel
theorem dL_law_723 : decode cL_law 723 = .ok (.iload_n 3, 1) := by decide +kernel
theorem dL_law_724 : decode cL_law 724 = .ok (.iconst 2, 1) := by decide +kernel
theorem dL_law_725 : decode cL_law 725 = .ok (.iadd, 1) := by decide +kernel
theorem dL_law_726 : decode cL_law 726 = .ok (.iaload, 1) := by decide +kernel
theorem dL_law_727 : decode cL_law 727 = .ok (.invokevirtual 95, 3) := by decide +kernel
theorem dL_law_730 : decode cL_law 730 = .ok (.lcmp, 1) := by decide +kernel
theorem dL_law_731 : decode cL_law 731 = .ok (.ifCond .eq 523, 3) := by decide +kernel
theorem dL_law_734 : decode cL_law 734 = .ok (.iconst 0, 1) := by decide +kernel
theorem dL_law_735 : decode cL_law 735 = .ok (.ireturn, 1) := by decide +kernel
theorem dL_law_736 : decode cL_law 736 = .ok (.aload_n 1, 1) := by decide +kernel
theorem dL_law_737 : decode cL_law 737 = .ok (.aload_n 0, 1) := by decide +kernel
theorem dL_law_738 : decode cL_law 738 = .ok (.iload_n 3, 1) := by decide +kernel
theorem dL_law_739 : decode cL_law 739 = .ok (.iconst 1, 1) := by decide +kernel
theorem dL_law_740 : decode cL_law 740 = .ok (.iadd, 1) := by decide +kernel
theorem dL_law_741 : decode cL_law 741 = .ok (.iaload, 1) := by decide +kernel
theorem dL_law_742 : decode cL_law 742 = .ok (.aload_n 0, 1) := by decide +kernel
theorem dL_law_743 : decode cL_law 743 = .ok (.iload_n 3, 1) := by decide +kernel
theorem dL_law_744 : decode cL_law 744 = .ok (.iconst 2, 1) := by decide +kernel
theorem dL_law_745 : decode cL_law 745 = .ok (.iadd, 1) := by decide +kernel
theorem dL_law_746 : decode cL_law 746 = .ok (.iaload, 1) := by decide +kernel
theorem dL_law_747 : decode cL_law 747 = .ok (.aload_n 0, 1) := by decide +kernel
theorem dL_law_748 : decode cL_law 748 = .ok (.iload_n 3, 1) := by decide +kernel
theorem dL_law_749 : decode cL_law 749 = .ok (.iconst 3, 1) := by decide +kernel
theorem dL_law_750 : decode cL_law 750 = .ok (.iadd, 1) := by decide +kernel
theorem dL_law_751 : decode cL_law 751 = .ok (.iaload, 1) := by decide +kernel
theorem dL_law_752 : decode cL_law 752 = .ok (.aload_n 0, 1) := by decide +kernel
theorem dL_law_753 : decode cL_law 753 = .ok (.iload_n 3, 1) := by decide +kernel
theorem dL_law_754 : decode cL_law 754 = .ok (.iconst 4, 1) := by decide +kernel
theorem dL_law_755 : decode cL_law 755 = .ok (.iadd, 1) := by decide +kernel
theorem dL_law_756 : decode cL_law 756 = .ok (.iaload, 1) := by decide +kernel
theorem dL_law_757 : decode cL_law 757 = .ok (.invokevirtual 96, 3) := by decide +kernel
theorem dL_law_760 : decode cL_law 760 = .ok (.aload_n 2, 1) := by decide +kernel
theorem dL_law_761 : decode cL_law 761 = .ok (.aload_n 0, 1) := by decide +kernel
theorem dL_law_762 : decode cL_law 762 = .ok (.iload_n 3, 1) := by decide +kernel
theorem dL_law_763 : decode cL_law 763 = .ok (.iconst 1, 1) := by decide +kernel
theorem dL_law_764 : decode cL_law 764 = .ok (.iadd, 1) := by decide +kernel
theorem dL_law_765 : decode cL_law 765 = .ok (.iaload, 1) := by decide +kernel
theorem dL_law_766 : decode cL_law 766 = .ok (.aload_n 0, 1) := by decide +kernel
theorem dL_law_767 : decode cL_law 767 = .ok (.iload_n 3, 1) := by decide +kernel
theorem dL_law_768 : decode cL_law 768 = .ok (.iconst 2, 1) := by decide +kernel
theorem dL_law_769 : decode cL_law 769 = .ok (.iadd, 1) := by decide +kernel
theorem dL_law_770 : decode cL_law 770 = .ok (.iaload, 1) := by decide +kernel
theorem dL_law_771 : decode cL_law 771 = .ok (.aload_n 0, 1) := by decide +kernel
theorem dL_law_772 : decode cL_law 772 = .ok (.iload_n 3, 1) := by decide +kernel
theorem dL_law_773 : decode cL_law 773 = .ok (.iconst 3, 1) := by decide +kernel
theorem dL_law_774 : decode cL_law 774 = .ok (.iadd, 1) := by decide +kernel
theorem dL_law_775 : decode cL_law 775 = .ok (.iaload, 1) := by decide +kernel
theorem dL_law_776 : decode cL_law 776 = .ok (.aload_n 0, 1) := by decide +kernel
theorem dL_law_777 : decode cL_law 777 = .ok (.iload_n 3, 1) := by decide +kernel
theorem dL_law_778 : decode cL_law 778 = .ok (.iconst 4, 1) := by decide +kernel
theorem dL_law_779 : decode cL_law 779 = .ok (.iadd, 1) := by decide +kernel
theorem dL_law_780 : decode cL_law 780 = .ok (.iaload, 1) := by decide +kernel
theorem dL_law_781 : decode cL_law 781 = .ok (.invokevirtual 100, 3) := by decide +kernel
theorem dL_law_784 : decode cL_law 784 = .ok (.lcmp, 1) := by decide +kernel
theorem dL_law_785 : decode cL_law 785 = .ok (.ifCond .eq 469, 3) := by decide +kernel
theorem dL_law_788 : decode cL_law 788 = .ok (.iconst 0, 1) := by decide +kernel
theorem dL_law_789 : decode cL_law 789 = .ok (.ireturn, 1) := by decide +kernel
theorem dL_law_790 : decode cL_law 790 = .ok (.aload_n 1, 1) := by decide +kernel
theorem dL_law_791 : decode cL_law 791 = .ok (.aload_n 0, 1) := by decide +kernel
theorem dL_law_792 : decode cL_law 792 = .ok (.iload_n 3, 1) := by decide +kernel
theorem dL_law_793 : decode cL_law 793 = .ok (.iconst 1, 1) := by decide +kernel
theorem dL_law_794 : decode cL_law 794 = .ok (.iadd, 1) := by decide +kernel
theorem dL_law_795 : decode cL_law 795 = .ok (.iaload, 1) := by decide +kernel
theorem dL_law_796 : decode cL_law 796 = .ok (.aload_n 0, 1) := by decide +kernel
theorem dL_law_797 : decode cL_law 797 = .ok (.iload_n 3, 1) := by decide +kernel
theorem dL_law_798 : decode cL_law 798 = .ok (.iconst 2, 1) := by decide +kernel
theorem dL_law_799 : decode cL_law 799 = .ok (.iadd, 1) := by decide +kernel
theorem dL_law_800 : decode cL_law 800 = .ok (.iaload, 1) := by decide +kernel
theorem dL_law_801 : decode cL_law 801 = .ok (.aload_n 0, 1) := by decide +kernel
theorem dL_law_802 : decode cL_law 802 = .ok (.iload_n 3, 1) := by decide +kernel
theorem dL_law_803 : decode cL_law 803 = .ok (.iconst 3, 1) := by decide +kernel
theorem dL_law_804 : decode cL_law 804 = .ok (.iadd, 1) := by decide +kernel
theorem dL_law_805 : decode cL_law 805 = .ok (.iaload, 1) := by decide +kernel
theorem dL_law_806 : decode cL_law 806 = .ok (.invokevirtual 101, 3) := by decide +kernel
theorem dL_law_809 : decode cL_law 809 = .ok (.aload_n 2, 1) := by decide +kernel
theorem dL_law_810 : decode cL_law 810 = .ok (.aload_n 0, 1) := by decide +kernel
theorem dL_law_811 : decode cL_law 811 = .ok (.iload_n 3, 1) := by decide +kernel
theorem dL_law_812 : decode cL_law 812 = .ok (.iconst 1, 1) := by decide +kernel
theorem dL_law_813 : decode cL_law 813 = .ok (.iadd, 1) := by decide +kernel
theorem dL_law_814 : decode cL_law 814 = .ok (.iaload, 1) := by decide +kernel
theorem dL_law_815 : decode cL_law 815 = .ok (.aload_n 0, 1) := by decide +kernel
theorem dL_law_816 : decode cL_law 816 = .ok (.iload_n 3, 1) := by decide +kernel
theorem dL_law_817 : decode cL_law 817 = .ok (.iconst 2, 1) := by decide +kernel
theorem dL_law_818 : decode cL_law 818 = .ok (.iadd, 1) := by decide +kernel
theorem dL_law_819 : decode cL_law 819 = .ok (.iaload, 1) := by decide +kernel
theorem dL_law_820 : decode cL_law 820 = .ok (.aload_n 0, 1) := by decide +kernel
theorem dL_law_821 : decode cL_law 821 = .ok (.iload_n 3, 1) := by decide +kernel
theorem dL_law_822 : decode cL_law 822 = .ok (.iconst 3, 1) := by decide +kernel
theorem dL_law_823 : decode cL_law 823 = .ok (.iadd, 1) := by decide +kernel
theorem dL_law_824 : decode cL_law 824 = .ok (.iaload, 1) := by decide +kernel
theorem dL_law_825 : decode cL_law 825 = .ok (.invokevirtual 104, 3) := by decide +kernel
theorem dL_law_828 : decode cL_law 828 = .ok (.lcmp, 1) := by decide +kernel
theorem dL_law_829 : decode cL_law 829 = .ok (.ifCond .eq 425, 3) := by decide +kernel
theorem dL_law_832 : decode cL_law 832 = .ok (.iconst 0, 1) := by decide +kernel
theorem dL_law_833 : decode cL_law 833 = .ok (.ireturn, 1) := by decide +kernel
theorem dL_law_834 : decode cL_law 834 = .ok (.aload_n 1, 1) := by decide +kernel
theorem dL_law_835 : decode cL_law 835 = .ok (.aload_n 0, 1) := by decide +kernel
theorem dL_law_836 : decode cL_law 836 = .ok (.iload_n 3, 1) := by decide +kernel
theorem dL_law_837 : decode cL_law 837 = .ok (.iconst 1, 1) := by decide +kernel
theorem dL_law_838 : decode cL_law 838 = .ok (.iadd, 1) := by decide +kernel
theorem dL_law_839 : decode cL_law 839 = .ok (.iaload, 1) := by decide +kernel
theorem dL_law_840 : decode cL_law 840 = .ok (.aload_n 0, 1) := by decide +kernel
theorem dL_law_841 : decode cL_law 841 = .ok (.iload_n 3, 1) := by decide +kernel
theorem dL_law_842 : decode cL_law 842 = .ok (.iconst 2, 1) := by decide +kernel
theorem dL_law_843 : decode cL_law 843 = .ok (.iadd, 1) := by decide +kernel
theorem dL_law_844 : decode cL_law 844 = .ok (.iaload, 1) := by decide +kernel
theorem dL_law_845 : decode cL_law 845 = .ok (.aload_n 0, 1) := by decide +kernel
theorem dL_law_846 : decode cL_law 846 = .ok (.iload_n 3, 1) := by decide +kernel
theorem dL_law_847 : decode cL_law 847 = .ok (.iconst 3, 1) := by decide +kernel
theorem dL_law_848 : decode cL_law 848 = .ok (.iadd, 1) := by decide +kernel
theorem dL_law_849 : decode cL_law 849 = .ok (.iaload, 1) := by decide +kernel
theorem dL_law_850 : decode cL_law 850 = .ok (.invokevirtual 105, 3) := by decide +kernel
theorem dL_law_853 : decode cL_law 853 = .ok (.aload_n 2, 1) := by decide +kernel
theorem dL_law_854 : decode cL_law 854 = .ok (.aload_n 0, 1) := by decide +kernel
theorem dL_law_855 : decode cL_law 855 = .ok (.iload_n 3, 1) := by decide +kernel
theorem dL_law_856 : decode cL_law 856 = .ok (.iconst 1, 1) := by decide +kernel
theorem dL_law_857 : decode cL_law 857 = .ok (.iadd, 1) := by decide +kernel
theorem dL_law_858 : decode cL_law 858 = .ok (.iaload, 1) := by decide +kernel
theorem dL_law_859 : decode cL_law 859 = .ok (.aload_n 0, 1) := by decide +kernel
theorem dL_law_860 : decode cL_law 860 = .ok (.iload_n 3, 1) := by decide +kernel
theorem dL_law_861 : decode cL_law 861 = .ok (.iconst 2, 1) := by decide +kernel
theorem dL_law_862 : decode cL_law 862 = .ok (.iadd, 1) := by decide +kernel
theorem dL_law_863 : decode cL_law 863 = .ok (.iaload, 1) := by decide +kernel
theorem dL_law_864 : decode cL_law 864 = .ok (.aload_n 0, 1) := by decide +kernel
theorem dL_law_865 : decode cL_law 865 = .ok (.iload_n 3, 1) := by decide +kernel
theorem dL_law_866 : decode cL_law 866 = .ok (.iconst 3, 1) := by decide +kernel
theorem dL_law_867 : decode cL_law 867 = .ok (.iadd, 1) := by decide +kernel
theorem dL_law_868 : decode cL_law 868 = .ok (.iaload, 1) := by decide +kernel
theorem dL_law_869 : decode cL_law 869 = .ok (.invokevirtual 108, 3) := by decide +kernel
theorem dL_law_872 : decode cL_law 872 = .ok (.if_icmp .eq 382, 3) := by decide +kernel
theorem dL_law_875 : decode cL_law 875 = .ok (.iconst 0, 1) := by decide +kernel
theorem dL_law_876 : decode cL_law 876 = .ok (.ireturn, 1) := by decide +kernel
theorem dL_law_877 : decode cL_law 877 = .ok (.aload_n 1, 1) := by decide +kernel
theorem dL_law_878 : decode cL_law 878 = .ok (.invokevirtual 109, 3) := by decide +kernel
theorem dL_law_881 : decode cL_law 881 = .ok (.aload_n 2, 1) := by decide +kernel
theorem dL_law_882 : decode cL_law 882 = .ok (.invokevirtual 112, 3) := by decide +kernel
theorem dL_law_885 : decode cL_law 885 = .ok (.if_icmp .eq 369, 3) := by decide +kernel
theorem dL_law_888 : decode cL_law 888 = .ok (.iconst 0, 1) := by decide +kernel
theorem dL_law_889 : decode cL_law 889 = .ok (.ireturn, 1) := by decide +kernel
theorem dL_law_890 : decode cL_law 890 = .ok (.aload_n 1, 1) := by decide +kernel
theorem dL_law_891 : decode cL_law 891 = .ok (.aload_n 0, 1) := by decide +kernel
theorem dL_law_892 : decode cL_law 892 = .ok (.iload_n 3, 1) := by decide +kernel
theorem dL_law_893 : decode cL_law 893 = .ok (.iconst 1, 1) := by decide +kernel
theorem dL_law_894 : decode cL_law 894 = .ok (.iadd, 1) := by decide +kernel
theorem dL_law_895 : decode cL_law 895 = .ok (.iaload, 1) := by decide +kernel
theorem dL_law_896 : decode cL_law 896 = .ok (.invokevirtual 113, 3) := by decide +kernel
theorem dL_law_899 : decode cL_law 899 = .ok (.aload_n 2, 1) := by decide +kernel
theorem dL_law_900 : decode cL_law 900 = .ok (.aload_n 0, 1) := by decide +kernel
theorem dL_law_901 : decode cL_law 901 = .ok (.iload_n 3, 1) := by decide +kernel
theorem dL_law_902 : decode cL_law 902 = .ok (.iconst 1, 1) := by decide +kernel
theorem dL_law_903 : decode cL_law 903 = .ok (.iadd, 1) := by decide +kernel
theorem dL_law_904 : decode cL_law 904 = .ok (.iaload, 1) := by decide +kernel
theorem dL_law_905 : decode cL_law 905 = .ok (.invokevirtual 116, 3) := by decide +kernel
theorem dL_law_908 : decode cL_law 908 = .ok (.if_icmp .eq 346, 3) := by decide +kernel
theorem dL_law_911 : decode cL_law 911 = .ok (.iconst 0, 1) := by decide +kernel
theorem dL_law_912 : decode cL_law 912 = .ok (.ireturn, 1) := by decide +kernel
theorem dL_law_913 : decode cL_law 913 = .ok (.aload_n 1, 1) := by decide +kernel
theorem dL_law_914 : decode cL_law 914 = .ok (.aload_n 0, 1) := by decide +kernel
theorem dL_law_915 : decode cL_law 915 = .ok (.iload_n 3, 1) := by decide +kernel
theorem dL_law_916 : decode cL_law 916 = .ok (.iconst 1, 1) := by decide +kernel
theorem dL_law_917 : decode cL_law 917 = .ok (.iadd, 1) := by decide +kernel
theorem dL_law_918 : decode cL_law 918 = .ok (.iaload, 1) := by decide +kernel
theorem dL_law_919 : decode cL_law 919 = .ok (.invokevirtual 117, 3) := by decide +kernel
theorem dL_law_922 : decode cL_law 922 = .ok (.aload_n 2, 1) := by decide +kernel
theorem dL_law_923 : decode cL_law 923 = .ok (.aload_n 0, 1) := by decide +kernel
theorem dL_law_924 : decode cL_law 924 = .ok (.iload_n 3, 1) := by decide +kernel
theorem dL_law_925 : decode cL_law 925 = .ok (.iconst 1, 1) := by decide +kernel
theorem dL_law_926 : decode cL_law 926 = .ok (.iadd, 1) := by decide +kernel
theorem dL_law_927 : decode cL_law 927 = .ok (.iaload, 1) := by decide +kernel
theorem dL_law_928 : decode cL_law 928 = .ok (.invokevirtual 120, 3) := by decide +kernel
theorem dL_law_931 : decode cL_law 931 = .ok (.if_icmp .eq 323, 3) := by decide +kernel
theorem dL_law_934 : decode cL_law 934 = .ok (.iconst 0, 1) := by decide +kernel
theorem dL_law_935 : decode cL_law 935 = .ok (.ireturn, 1) := by decide +kernel
theorem dL_law_936 : decode cL_law 936 = .ok (.aload_n 1, 1) := by decide +kernel
theorem dL_law_937 : decode cL_law 937 = .ok (.aload_n 0, 1) := by decide +kernel
theorem dL_law_938 : decode cL_law 938 = .ok (.iload_n 3, 1) := by decide +kernel
theorem dL_law_939 : decode cL_law 939 = .ok (.iconst 1, 1) := by decide +kernel
theorem dL_law_940 : decode cL_law 940 = .ok (.iadd, 1) := by decide +kernel
theorem dL_law_941 : decode cL_law 941 = .ok (.iaload, 1) := by decide +kernel
theorem dL_law_942 : decode cL_law 942 = .ok (.invokevirtual 121, 3) := by decide +kernel
theorem dL_law_945 : decode cL_law 945 = .ok (.aload_n 2, 1) := by decide +kernel
theorem dL_law_946 : decode cL_law 946 = .ok (.aload_n 0, 1) := by decide +kernel
theorem dL_law_947 : decode cL_law 947 = .ok (.iload_n 3, 1) := by decide +kernel
theorem dL_law_948 : decode cL_law 948 = .ok (.iconst 1, 1) := by decide +kernel
theorem dL_law_949 : decode cL_law 949 = .ok (.iadd, 1) := by decide +kernel
theorem dL_law_950 : decode cL_law 950 = .ok (.iaload, 1) := by decide +kernel
theorem dL_law_951 : decode cL_law 951 = .ok (.invokevirtual 124, 3) := by decide +kernel
theorem dL_law_954 : decode cL_law 954 = .ok (.if_icmp .eq 300, 3) := by decide +kernel
theorem dL_law_957 : decode cL_law 957 = .ok (.iconst 0, 1) := by decide +kernel
theorem dL_law_958 : decode cL_law 958 = .ok (.ireturn, 1) := by decide +kernel
theorem dL_law_959 : decode cL_law 959 = .ok (.aload_n 1, 1) := by decide +kernel
theorem dL_law_960 : decode cL_law 960 = .ok (.aload_n 0, 1) := by decide +kernel
theorem dL_law_961 : decode cL_law 961 = .ok (.iload_n 3, 1) := by decide +kernel
theorem dL_law_962 : decode cL_law 962 = .ok (.iconst 1, 1) := by decide +kernel
theorem dL_law_963 : decode cL_law 963 = .ok (.iadd, 1) := by decide +kernel
theorem dL_law_964 : decode cL_law 964 = .ok (.iaload, 1) := by decide +kernel
theorem dL_law_965 : decode cL_law 965 = .ok (.aload_n 0, 1) := by decide +kernel
theorem dL_law_966 : decode cL_law 966 = .ok (.iload_n 3, 1) := by decide +kernel
theorem dL_law_967 : decode cL_law 967 = .ok (.iconst 2, 1) := by decide +kernel
theorem dL_law_968 : decode cL_law 968 = .ok (.iadd, 1) := by decide +kernel
theorem dL_law_969 : decode cL_law 969 = .ok (.iaload, 1) := by decide +kernel
theorem dL_law_970 : decode cL_law 970 = .ok (.aload_n 0, 1) := by decide +kernel
theorem dL_law_971 : decode cL_law 971 = .ok (.iload_n 3, 1) := by decide +kernel
theorem dL_law_972 : decode cL_law 972 = .ok (.iconst 3, 1) := by decide +kernel
theorem dL_law_973 : decode cL_law 973 = .ok (.iadd, 1) := by decide +kernel
theorem dL_law_974 : decode cL_law 974 = .ok (.iaload, 1) := by decide +kernel
theorem dL_law_975 : decode cL_law 975 = .ok (.invokevirtual 125, 3) := by decide +kernel
theorem dL_law_978 : decode cL_law 978 = .ok (.aload_n 2, 1) := by decide +kernel
theorem dL_law_979 : decode cL_law 979 = .ok (.aload_n 0, 1) := by decide +kernel
theorem dL_law_980 : decode cL_law 980 = .ok (.iload_n 3, 1) := by decide +kernel
theorem dL_law_981 : decode cL_law 981 = .ok (.iconst 1, 1) := by decide +kernel
theorem dL_law_982 : decode cL_law 982 = .ok (.iadd, 1) := by decide +kernel
theorem dL_law_983 : decode cL_law 983 = .ok (.iaload, 1) := by decide +kernel
theorem dL_law_984 : decode cL_law 984 = .ok (.aload_n 0, 1) := by decide +kernel
theorem dL_law_985 : decode cL_law 985 = .ok (.iload_n 3, 1) := by decide +kernel
theorem dL_law_986 : decode cL_law 986 = .ok (.iconst 2, 1) := by decide +kernel
theorem dL_law_987 : decode cL_law 987 = .ok (.iadd, 1) := by decide +kernel
theorem dL_law_988 : decode cL_law 988 = .ok (.iaload, 1) := by decide +kernel
theorem dL_law_989 : decode cL_law 989 = .ok (.aload_n 0, 1) := by decide +kernel
theorem dL_law_990 : decode cL_law 990 = .ok (.iload_n 3, 1) := by decide +kernel
theorem dL_law_991 : decode cL_law 991 = .ok (.iconst 3, 1) := by decide +kernel
theorem dL_law_992 : decode cL_law 992 = .ok (.iadd, 1) := by decide +kernel
theorem dL_law_993 : decode cL_law 993 = .ok (.iaload, 1) := by decide +kernel
theorem dL_law_994 : decode cL_law 994 = .ok (.invokevirtual 128, 3) := by decide +kernel
theorem dL_law_997 : decode cL_law 997 = .ok (.if_icmp .eq 257, 3) := by decide +kernel
theorem dL_law_1000 : decode cL_law 1000 = .ok (.iconst 0, 1) := by decide +kernel
theorem dL_law_1001 : decode cL_law 1001 = .ok (.ireturn, 1) := by decide +kernel
theorem dL_law_1002 : decode cL_law 1002 = .ok (.aload_n 1, 1) := by decide +kernel
theorem dL_law_1003 : decode cL_law 1003 = .ok (.aload_n 0, 1) := by decide +kernel
theorem dL_law_1004 : decode cL_law 1004 = .ok (.iload_n 3, 1) := by decide +kernel
theorem dL_law_1005 : decode cL_law 1005 = .ok (.iconst 1, 1) := by decide +kernel
theorem dL_law_1006 : decode cL_law 1006 = .ok (.iadd, 1) := by decide +kernel
theorem dL_law_1007 : decode cL_law 1007 = .ok (.iaload, 1) := by decide +kernel
theorem dL_law_1008 : decode cL_law 1008 = .ok (.invokevirtual 129, 3) := by decide +kernel
theorem dL_law_1011 : decode cL_law 1011 = .ok (.aload_n 2, 1) := by decide +kernel
theorem dL_law_1012 : decode cL_law 1012 = .ok (.aload_n 0, 1) := by decide +kernel
theorem dL_law_1013 : decode cL_law 1013 = .ok (.iload_n 3, 1) := by decide +kernel
theorem dL_law_1014 : decode cL_law 1014 = .ok (.iconst 1, 1) := by decide +kernel
theorem dL_law_1015 : decode cL_law 1015 = .ok (.iadd, 1) := by decide +kernel
theorem dL_law_1016 : decode cL_law 1016 = .ok (.iaload, 1) := by decide +kernel
theorem dL_law_1017 : decode cL_law 1017 = .ok (.invokevirtual 132, 3) := by decide +kernel
theorem dL_law_1020 : decode cL_law 1020 = .ok (.if_icmp .eq 234, 3) := by decide +kernel
theorem dL_law_1023 : decode cL_law 1023 = .ok (.iconst 0, 1) := by decide +kernel
theorem dL_law_1024 : decode cL_law 1024 = .ok (.ireturn, 1) := by decide +kernel
theorem dL_law_1025 : decode cL_law 1025 = .ok (.aload_n 1, 1) := by decide +kernel
theorem dL_law_1026 : decode cL_law 1026 = .ok (.aload_n 0, 1) := by decide +kernel
theorem dL_law_1027 : decode cL_law 1027 = .ok (.iload_n 3, 1) := by decide +kernel
theorem dL_law_1028 : decode cL_law 1028 = .ok (.iconst 1, 1) := by decide +kernel
theorem dL_law_1029 : decode cL_law 1029 = .ok (.iadd, 1) := by decide +kernel
theorem dL_law_1030 : decode cL_law 1030 = .ok (.iaload, 1) := by decide +kernel
theorem dL_law_1031 : decode cL_law 1031 = .ok (.aload_n 0, 1) := by decide +kernel
theorem dL_law_1032 : decode cL_law 1032 = .ok (.iload_n 3, 1) := by decide +kernel
theorem dL_law_1033 : decode cL_law 1033 = .ok (.iconst 2, 1) := by decide +kernel
theorem dL_law_1034 : decode cL_law 1034 = .ok (.iadd, 1) := by decide +kernel
theorem dL_law_1035 : decode cL_law 1035 = .ok (.iaload, 1) := by decide +kernel
theorem dL_law_1036 : decode cL_law 1036 = .ok (.aload_n 0, 1) := by decide +kernel
theorem dL_law_1037 : decode cL_law 1037 = .ok (.iload_n 3, 1) := by decide +kernel
theorem dL_law_1038 : decode cL_law 1038 = .ok (.iconst 3, 1) := by decide +kernel
theorem dL_law_1039 : decode cL_law 1039 = .ok (.iadd, 1) := by decide +kernel
theorem dL_law_1040 : decode cL_law 1040 = .ok (.iaload, 1) := by decide +kernel
theorem dL_law_1041 : decode cL_law 1041 = .ok (.aload_n 0, 1) := by decide +kernel
theorem dL_law_1042 : decode cL_law 1042 = .ok (.iload_n 3, 1) := by decide +kernel
theorem dL_law_1043 : decode cL_law 1043 = .ok (.iconst 4, 1) := by decide +kernel
theorem dL_law_1044 : decode cL_law 1044 = .ok (.iadd, 1) := by decide +kernel
theorem dL_law_1045 : decode cL_law 1045 = .ok (.iaload, 1) := by decide +kernel
theorem dL_law_1046 : decode cL_law 1046 = .ok (.invokevirtual 133, 3) := by decide +kernel
theorem dL_law_1049 : decode cL_law 1049 = .ok (.aload_n 2, 1) := by decide +kernel
theorem dL_law_1050 : decode cL_law 1050 = .ok (.aload_n 0, 1) := by decide +kernel
theorem dL_law_1051 : decode cL_law 1051 = .ok (.iload_n 3, 1) := by decide +kernel
theorem dL_law_1052 : decode cL_law 1052 = .ok (.iconst 1, 1) := by decide +kernel
theorem dL_law_1053 : decode cL_law 1053 = .ok (.iadd, 1) := by decide +kernel
theorem dL_law_1054 : decode cL_law 1054 = .ok (.iaload, 1) := by decide +kernel
theorem dL_law_1055 : decode cL_law 1055 = .ok (.aload_n 0, 1) := by decide +kernel
theorem dL_law_1056 : decode cL_law 1056 = .ok (.iload_n 3, 1) := by decide +kernel
theorem dL_law_1057 : decode cL_law 1057 = .ok (.iconst 2, 1) := by decide +kernel
theorem dL_law_1058 : decode cL_law 1058 = .ok (.iadd, 1) := by decide +kernel
theorem dL_law_1059 : decode cL_law 1059 = .ok (.iaload, 1) := by decide +kernel
theorem dL_law_1060 : decode cL_law 1060 = .ok (.aload_n 0, 1) := by decide +kernel
theorem dL_law_1061 : decode cL_law 1061 = .ok (.iload_n 3, 1) := by decide +kernel
theorem dL_law_1062 : decode cL_law 1062 = .ok (.iconst 3, 1) := by decide +kernel
theorem dL_law_1063 : decode cL_law 1063 = .ok (.iadd, 1) := by decide +kernel
theorem dL_law_1064 : decode cL_law 1064 = .ok (.iaload, 1) := by decide +kernel
theorem dL_law_1065 : decode cL_law 1065 = .ok (.aload_n 0, 1) := by decide +kernel
theorem dL_law_1066 : decode cL_law 1066 = .ok (.iload_n 3, 1) := by decide +kernel
theorem dL_law_1067 : decode cL_law 1067 = .ok (.iconst 4, 1) := by decide +kernel
theorem dL_law_1068 : decode cL_law 1068 = .ok (.iadd, 1) := by decide +kernel
theorem dL_law_1069 : decode cL_law 1069 = .ok (.iaload, 1) := by decide +kernel
theorem dL_law_1070 : decode cL_law 1070 = .ok (.invokevirtual 137, 3) := by decide +kernel
theorem dL_law_1073 : decode cL_law 1073 = .ok (.if_icmp .eq 181, 3) := by decide +kernel
theorem dL_law_1076 : decode cL_law 1076 = .ok (.iconst 0, 1) := by decide +kernel
theorem dL_law_1077 : decode cL_law 1077 = .ok (.ireturn, 1) := by decide +kernel
theorem dL_law_1078 : decode cL_law 1078 = .ok (.aload_n 1, 1) := by decide +kernel
theorem dL_law_1079 : decode cL_law 1079 = .ok (.aload_n 0, 1) := by decide +kernel
theorem dL_law_1080 : decode cL_law 1080 = .ok (.iload_n 3, 1) := by decide +kernel
theorem dL_law_1081 : decode cL_law 1081 = .ok (.iconst 1, 1) := by decide +kernel
theorem dL_law_1082 : decode cL_law 1082 = .ok (.iadd, 1) := by decide +kernel
theorem dL_law_1083 : decode cL_law 1083 = .ok (.iaload, 1) := by decide +kernel
theorem dL_law_1084 : decode cL_law 1084 = .ok (.aload_n 0, 1) := by decide +kernel
theorem dL_law_1085 : decode cL_law 1085 = .ok (.iload_n 3, 1) := by decide +kernel
theorem dL_law_1086 : decode cL_law 1086 = .ok (.iconst 2, 1) := by decide +kernel
theorem dL_law_1087 : decode cL_law 1087 = .ok (.iadd, 1) := by decide +kernel
theorem dL_law_1088 : decode cL_law 1088 = .ok (.iaload, 1) := by decide +kernel
theorem dL_law_1089 : decode cL_law 1089 = .ok (.aload_n 0, 1) := by decide +kernel
theorem dL_law_1090 : decode cL_law 1090 = .ok (.iload_n 3, 1) := by decide +kernel
theorem dL_law_1091 : decode cL_law 1091 = .ok (.iconst 3, 1) := by decide +kernel
theorem dL_law_1092 : decode cL_law 1092 = .ok (.iadd, 1) := by decide +kernel
theorem dL_law_1093 : decode cL_law 1093 = .ok (.iaload, 1) := by decide +kernel
theorem dL_law_1094 : decode cL_law 1094 = .ok (.invokevirtual 138, 3) := by decide +kernel
theorem dL_law_1097 : decode cL_law 1097 = .ok (.aload_n 2, 1) := by decide +kernel
theorem dL_law_1098 : decode cL_law 1098 = .ok (.aload_n 0, 1) := by decide +kernel
theorem dL_law_1099 : decode cL_law 1099 = .ok (.iload_n 3, 1) := by decide +kernel
theorem dL_law_1100 : decode cL_law 1100 = .ok (.iconst 1, 1) := by decide +kernel
theorem dL_law_1101 : decode cL_law 1101 = .ok (.iadd, 1) := by decide +kernel
theorem dL_law_1102 : decode cL_law 1102 = .ok (.iaload, 1) := by decide +kernel
theorem dL_law_1103 : decode cL_law 1103 = .ok (.aload_n 0, 1) := by decide +kernel
theorem dL_law_1104 : decode cL_law 1104 = .ok (.iload_n 3, 1) := by decide +kernel
theorem dL_law_1105 : decode cL_law 1105 = .ok (.iconst 2, 1) := by decide +kernel
theorem dL_law_1106 : decode cL_law 1106 = .ok (.iadd, 1) := by decide +kernel
theorem dL_law_1107 : decode cL_law 1107 = .ok (.iaload, 1) := by decide +kernel
theorem dL_law_1108 : decode cL_law 1108 = .ok (.aload_n 0, 1) := by decide +kernel
theorem dL_law_1109 : decode cL_law 1109 = .ok (.iload_n 3, 1) := by decide +kernel
theorem dL_law_1110 : decode cL_law 1110 = .ok (.iconst 3, 1) := by decide +kernel
theorem dL_law_1111 : decode cL_law 1111 = .ok (.iadd, 1) := by decide +kernel
theorem dL_law_1112 : decode cL_law 1112 = .ok (.iaload, 1) := by decide +kernel
theorem dL_law_1113 : decode cL_law 1113 = .ok (.invokevirtual 141, 3) := by decide +kernel
theorem dL_law_1116 : decode cL_law 1116 = .ok (.if_icmp .eq 138, 3) := by decide +kernel
theorem dL_law_1119 : decode cL_law 1119 = .ok (.iconst 0, 1) := by decide +kernel
theorem dL_law_1120 : decode cL_law 1120 = .ok (.ireturn, 1) := by decide +kernel
theorem dL_law_1121 : decode cL_law 1121 = .ok (.aload_n 1, 1) := by decide +kernel
theorem dL_law_1122 : decode cL_law 1122 = .ok (.aload_n 0, 1) := by decide +kernel
theorem dL_law_1123 : decode cL_law 1123 = .ok (.iload_n 3, 1) := by decide +kernel
theorem dL_law_1124 : decode cL_law 1124 = .ok (.iconst 1, 1) := by decide +kernel
theorem dL_law_1125 : decode cL_law 1125 = .ok (.iadd, 1) := by decide +kernel
theorem dL_law_1126 : decode cL_law 1126 = .ok (.iaload, 1) := by decide +kernel
theorem dL_law_1127 : decode cL_law 1127 = .ok (.aload_n 0, 1) := by decide +kernel
theorem dL_law_1128 : decode cL_law 1128 = .ok (.iload_n 3, 1) := by decide +kernel
theorem dL_law_1129 : decode cL_law 1129 = .ok (.iconst 2, 1) := by decide +kernel
theorem dL_law_1130 : decode cL_law 1130 = .ok (.iadd, 1) := by decide +kernel
theorem dL_law_1131 : decode cL_law 1131 = .ok (.iaload, 1) := by decide +kernel
theorem dL_law_1132 : decode cL_law 1132 = .ok (.aload_n 0, 1) := by decide +kernel
theorem dL_law_1133 : decode cL_law 1133 = .ok (.iload_n 3, 1) := by decide +kernel
theorem dL_law_1134 : decode cL_law 1134 = .ok (.iconst 3, 1) := by decide +kernel
theorem dL_law_1135 : decode cL_law 1135 = .ok (.iadd, 1) := by decide +kernel
theorem dL_law_1136 : decode cL_law 1136 = .ok (.iaload, 1) := by decide +kernel
theorem dL_law_1137 : decode cL_law 1137 = .ok (.aload_n 0, 1) := by decide +kernel
theorem dL_law_1138 : decode cL_law 1138 = .ok (.iload_n 3, 1) := by decide +kernel
theorem dL_law_1139 : decode cL_law 1139 = .ok (.iconst 4, 1) := by decide +kernel
theorem dL_law_1140 : decode cL_law 1140 = .ok (.iadd, 1) := by decide +kernel
theorem dL_law_1141 : decode cL_law 1141 = .ok (.iaload, 1) := by decide +kernel
theorem dL_law_1142 : decode cL_law 1142 = .ok (.aload_n 0, 1) := by decide +kernel
theorem dL_law_1143 : decode cL_law 1143 = .ok (.iload_n 3, 1) := by decide +kernel
theorem dL_law_1144 : decode cL_law 1144 = .ok (.iconst 5, 1) := by decide +kernel
theorem dL_law_1145 : decode cL_law 1145 = .ok (.iadd, 1) := by decide +kernel
theorem dL_law_1146 : decode cL_law 1146 = .ok (.iaload, 1) := by decide +kernel
theorem dL_law_1147 : decode cL_law 1147 = .ok (.invokevirtual 142, 3) := by decide +kernel
theorem dL_law_1150 : decode cL_law 1150 = .ok (.aload_n 2, 1) := by decide +kernel
theorem dL_law_1151 : decode cL_law 1151 = .ok (.aload_n 0, 1) := by decide +kernel
theorem dL_law_1152 : decode cL_law 1152 = .ok (.iload_n 3, 1) := by decide +kernel
theorem dL_law_1153 : decode cL_law 1153 = .ok (.iconst 1, 1) := by decide +kernel
theorem dL_law_1154 : decode cL_law 1154 = .ok (.iadd, 1) := by decide +kernel
theorem dL_law_1155 : decode cL_law 1155 = .ok (.iaload, 1) := by decide +kernel
theorem dL_law_1156 : decode cL_law 1156 = .ok (.aload_n 0, 1) := by decide +kernel
theorem dL_law_1157 : decode cL_law 1157 = .ok (.iload_n 3, 1) := by decide +kernel
theorem dL_law_1158 : decode cL_law 1158 = .ok (.iconst 2, 1) := by decide +kernel
theorem dL_law_1159 : decode cL_law 1159 = .ok (.iadd, 1) := by decide +kernel
theorem dL_law_1160 : decode cL_law 1160 = .ok (.iaload, 1) := by decide +kernel
theorem dL_law_1161 : decode cL_law 1161 = .ok (.aload_n 0, 1) := by decide +kernel
theorem dL_law_1162 : decode cL_law 1162 = .ok (.iload_n 3, 1) := by decide +kernel
theorem dL_law_1163 : decode cL_law 1163 = .ok (.iconst 3, 1) := by decide +kernel
theorem dL_law_1164 : decode cL_law 1164 = .ok (.iadd, 1) := by decide +kernel
theorem dL_law_1165 : decode cL_law 1165 = .ok (.iaload, 1) := by decide +kernel
theorem dL_law_1166 : decode cL_law 1166 = .ok (.aload_n 0, 1) := by decide +kernel
theorem dL_law_1167 : decode cL_law 1167 = .ok (.iload_n 3, 1) := by decide +kernel
theorem dL_law_1168 : decode cL_law 1168 = .ok (.iconst 4, 1) := by decide +kernel
theorem dL_law_1169 : decode cL_law 1169 = .ok (.iadd, 1) := by decide +kernel
theorem dL_law_1170 : decode cL_law 1170 = .ok (.iaload, 1) := by decide +kernel
theorem dL_law_1171 : decode cL_law 1171 = .ok (.aload_n 0, 1) := by decide +kernel
theorem dL_law_1172 : decode cL_law 1172 = .ok (.iload_n 3, 1) := by decide +kernel
theorem dL_law_1173 : decode cL_law 1173 = .ok (.iconst 5, 1) := by decide +kernel
theorem dL_law_1174 : decode cL_law 1174 = .ok (.iadd, 1) := by decide +kernel
theorem dL_law_1175 : decode cL_law 1175 = .ok (.iaload, 1) := by decide +kernel
theorem dL_law_1176 : decode cL_law 1176 = .ok (.invokevirtual 146, 3) := by decide +kernel
theorem dL_law_1179 : decode cL_law 1179 = .ok (.if_icmp .eq 75, 3) := by decide +kernel
theorem dL_law_1182 : decode cL_law 1182 = .ok (.iconst 0, 1) := by decide +kernel
theorem dL_law_1183 : decode cL_law 1183 = .ok (.ireturn, 1) := by decide +kernel
theorem dL_law_1184 : decode cL_law 1184 = .ok (.aload_n 1, 1) := by decide +kernel
theorem dL_law_1185 : decode cL_law 1185 = .ok (.aload_n 0, 1) := by decide +kernel
theorem dL_law_1186 : decode cL_law 1186 = .ok (.iload_n 3, 1) := by decide +kernel
theorem dL_law_1187 : decode cL_law 1187 = .ok (.iconst 1, 1) := by decide +kernel
theorem dL_law_1188 : decode cL_law 1188 = .ok (.iadd, 1) := by decide +kernel
theorem dL_law_1189 : decode cL_law 1189 = .ok (.iaload, 1) := by decide +kernel
theorem dL_law_1190 : decode cL_law 1190 = .ok (.aload_n 0, 1) := by decide +kernel
theorem dL_law_1191 : decode cL_law 1191 = .ok (.iload_n 3, 1) := by decide +kernel
theorem dL_law_1192 : decode cL_law 1192 = .ok (.iconst 2, 1) := by decide +kernel
theorem dL_law_1193 : decode cL_law 1193 = .ok (.iadd, 1) := by decide +kernel
theorem dL_law_1194 : decode cL_law 1194 = .ok (.iaload, 1) := by decide +kernel
theorem dL_law_1195 : decode cL_law 1195 = .ok (.invokevirtual 147, 3) := by decide +kernel
theorem dL_law_1198 : decode cL_law 1198 = .ok (.aload_n 2, 1) := by decide +kernel
theorem dL_law_1199 : decode cL_law 1199 = .ok (.aload_n 0, 1) := by decide +kernel
theorem dL_law_1200 : decode cL_law 1200 = .ok (.iload_n 3, 1) := by decide +kernel
theorem dL_law_1201 : decode cL_law 1201 = .ok (.iconst 1, 1) := by decide +kernel
theorem dL_law_1202 : decode cL_law 1202 = .ok (.iadd, 1) := by decide +kernel
theorem dL_law_1203 : decode cL_law 1203 = .ok (.iaload, 1) := by decide +kernel
theorem dL_law_1204 : decode cL_law 1204 = .ok (.aload_n 0, 1) := by decide +kernel
theorem dL_law_1205 : decode cL_law 1205 = .ok (.iload_n 3, 1) := by decide +kernel
theorem dL_law_1206 : decode cL_law 1206 = .ok (.iconst 2, 1) := by decide +kernel
theorem dL_law_1207 : decode cL_law 1207 = .ok (.iadd, 1) := by decide +kernel
theorem dL_law_1208 : decode cL_law 1208 = .ok (.iaload, 1) := by decide +kernel
theorem dL_law_1209 : decode cL_law 1209 = .ok (.invokevirtual 150, 3) := by decide +kernel
theorem dL_law_1212 : decode cL_law 1212 = .ok (.if_icmp .eq 42, 3) := by decide +kernel
theorem dL_law_1215 : decode cL_law 1215 = .ok (.iconst 0, 1) := by decide +kernel
theorem dL_law_1216 : decode cL_law 1216 = .ok (.ireturn, 1) := by decide +kernel
theorem dL_law_1217 : decode cL_law 1217 = .ok (.aload_n 1, 1) := by decide +kernel
theorem dL_law_1218 : decode cL_law 1218 = .ok (.aload_n 0, 1) := by decide +kernel
theorem dL_law_1219 : decode cL_law 1219 = .ok (.iload_n 3, 1) := by decide +kernel
theorem dL_law_1220 : decode cL_law 1220 = .ok (.iconst 1, 1) := by decide +kernel
theorem dL_law_1221 : decode cL_law 1221 = .ok (.iadd, 1) := by decide +kernel
theorem dL_law_1222 : decode cL_law 1222 = .ok (.iaload, 1) := by decide +kernel
theorem dL_law_1223 : decode cL_law 1223 = .ok (.invokevirtual 151, 3) := by decide +kernel
theorem dL_law_1226 : decode cL_law 1226 = .ok (.aload_n 2, 1) := by decide +kernel
theorem dL_law_1227 : decode cL_law 1227 = .ok (.aload_n 0, 1) := by decide +kernel
theorem dL_law_1228 : decode cL_law 1228 = .ok (.iload_n 3, 1) := by decide +kernel
theorem dL_law_1229 : decode cL_law 1229 = .ok (.iconst 1, 1) := by decide +kernel
theorem dL_law_1230 : decode cL_law 1230 = .ok (.iadd, 1) := by decide +kernel
theorem dL_law_1231 : decode cL_law 1231 = .ok (.iaload, 1) := by decide +kernel
theorem dL_law_1232 : decode cL_law 1232 = .ok (.invokevirtual 154, 3) := by decide +kernel
theorem dL_law_1235 : decode cL_law 1235 = .ok (.if_icmp .eq 19, 3) := by decide +kernel
theorem dL_law_1238 : decode cL_law 1238 = .ok (.iconst 0, 1) := by decide +kernel
theorem dL_law_1239 : decode cL_law 1239 = .ok (.ireturn, 1) := by decide +kernel
theorem dL_law_1240 : decode cL_law 1240 = .ok (.aload_n 1, 1) := by decide +kernel
theorem dL_law_1241 : decode cL_law 1241 = .ok (.invokevirtual 155, 3) := by decide +kernel
theorem dL_law_1244 : decode cL_law 1244 = .ok (.aload_n 2, 1) := by decide +kernel
theorem dL_law_1245 : decode cL_law 1245 = .ok (.invokevirtual 159, 3) := by decide +kernel
theorem dL_law_1248 : decode cL_law 1248 = .ok (.lcmp, 1) := by decide +kernel
theorem dL_law_1249 : decode cL_law 1249 = .ok (.ifCond .eq 5, 3) := by decide +kernel
theorem dL_law_1252 : decode cL_law 1252 = .ok (.iconst 0, 1) := by decide +kernel
theorem dL_law_1253 : decode cL_law 1253 = .ok (.ireturn, 1) := by decide +kernel
theorem dL_law_1254 : decode cL_law 1254 = .ok (.iinc 3 6, 3) := by decide +kernel
theorem dL_law_1257 : decode cL_law 1257 = .ok (.goto (-1239), 3) := by decide +kernel
theorem dL_law_1260 : decode cL_law 1260 = .ok (.iconst 1, 1) := by decide +kernel
theorem dL_law_1261 : decode cL_law 1261 = .ok (.ireturn, 1) := by decide +kernel
