theorem dX8_isPanel_0 : decode cX8_isPanel 0 = .ok (.iload_n 0, 1) := by decide +kernel
theorem dX8_isPanel_1 : decode cX8_isPanel 1 = .ok (.ifCond .lt 13, 3) := by decide +kernel
theorem dX8_isPanel_4 : decode cX8_isPanel 4 = .ok (.iload_n 0, 1) := by decide +kernel
theorem dX8_isPanel_5 : decode cX8_isPanel 5 = .ok (.bipush 6, 2) := by decide +kernel
theorem dX8_isPanel_7 : decode cX8_isPanel 7 = .ok (.if_icmp .ge 7, 3) := by decide +kernel
theorem dX8_isPanel_10 : decode cX8_isPanel 10 = .ok (.iconst 1, 1) := by decide +kernel
theorem dX8_isPanel_11 : decode cX8_isPanel 11 = .ok (.goto 4, 3) := by decide +kernel
theorem dX8_isPanel_14 : decode cX8_isPanel 14 = .ok (.iconst 0, 1) := by decide +kernel
theorem dX8_isPanel_15 : decode cX8_isPanel 15 = .ok (.ireturn, 1) := by decide +kernel
theorem dX8_columnOf_0 : decode cX8_columnOf 0 = .ok (.iload_n 0, 1) := by decide +kernel
theorem dX8_columnOf_1 : decode cX8_columnOf 1 = .ok (.iconst 1, 1) := by decide +kernel
theorem dX8_columnOf_2 : decode cX8_columnOf 2 = .ok (.ishr, 1) := by decide +kernel
theorem dX8_columnOf_3 : decode cX8_columnOf 3 = .ok (.ireturn, 1) := by decide +kernel
theorem dX8_bitOf_0 : decode cX8_bitOf 0 = .ok (.iload_n 0, 1) := by decide +kernel
theorem dX8_bitOf_1 : decode cX8_bitOf 1 = .ok (.ifCond .lt 15, 3) := by decide +kernel
theorem dX8_bitOf_4 : decode cX8_bitOf 4 = .ok (.iload_n 0, 1) := by decide +kernel
theorem dX8_bitOf_5 : decode cX8_bitOf 5 = .ok (.bipush 30, 2) := by decide +kernel
theorem dX8_bitOf_7 : decode cX8_bitOf 7 = .ok (.if_icmp .ge 9, 3) := by decide +kernel
theorem dX8_bitOf_10 : decode cX8_bitOf 10 = .ok (.iconst 1, 1) := by decide +kernel
theorem dX8_bitOf_11 : decode cX8_bitOf 11 = .ok (.iload_n 0, 1) := by decide +kernel
theorem dX8_bitOf_12 : decode cX8_bitOf 12 = .ok (.ishl, 1) := by decide +kernel
theorem dX8_bitOf_13 : decode cX8_bitOf 13 = .ok (.goto 4, 3) := by decide +kernel
theorem dX8_bitOf_16 : decode cX8_bitOf 16 = .ok (.iconst 0, 1) := by decide +kernel
theorem dX8_bitOf_17 : decode cX8_bitOf 17 = .ok (.ireturn, 1) := by decide +kernel
theorem dJ6_bitCount_0f7a4_0 : decode cJ6_bitCount_0f7a4 0 = .ok (.iload_n 0, 1) := by decide +kernel
theorem dJ6_bitCount_0f7a4_1 : decode cJ6_bitCount_0f7a4 1 = .ok (.iload_n 0, 1) := by decide +kernel
theorem dJ6_bitCount_0f7a4_2 : decode cJ6_bitCount_0f7a4 2 = .ok (.iconst 1, 1) := by decide +kernel
theorem dJ6_bitCount_0f7a4_3 : decode cJ6_bitCount_0f7a4 3 = .ok (.iushr, 1) := by decide +kernel
theorem dJ6_bitCount_0f7a4_4 : decode cJ6_bitCount_0f7a4 4 = .ok (.ldc_w 265, 3) := by decide +kernel
theorem dJ6_bitCount_0f7a4_7 : decode cJ6_bitCount_0f7a4 7 = .ok (.iand, 1) := by decide +kernel
theorem dJ6_bitCount_0f7a4_8 : decode cJ6_bitCount_0f7a4 8 = .ok (.isub, 1) := by decide +kernel
theorem dJ6_bitCount_0f7a4_9 : decode cJ6_bitCount_0f7a4 9 = .ok (.istore_n 0, 1) := by decide +kernel
theorem dJ6_bitCount_0f7a4_10 : decode cJ6_bitCount_0f7a4 10 = .ok (.iload_n 0, 1) := by decide +kernel
theorem dJ6_bitCount_0f7a4_11 : decode cJ6_bitCount_0f7a4 11 = .ok (.ldc_w 266, 3) := by decide +kernel
theorem dJ6_bitCount_0f7a4_14 : decode cJ6_bitCount_0f7a4 14 = .ok (.iand, 1) := by decide +kernel
theorem dJ6_bitCount_0f7a4_15 : decode cJ6_bitCount_0f7a4 15 = .ok (.iload_n 0, 1) := by decide +kernel
theorem dJ6_bitCount_0f7a4_16 : decode cJ6_bitCount_0f7a4 16 = .ok (.iconst 2, 1) := by decide +kernel
theorem dJ6_bitCount_0f7a4_17 : decode cJ6_bitCount_0f7a4 17 = .ok (.iushr, 1) := by decide +kernel
theorem dJ6_bitCount_0f7a4_18 : decode cJ6_bitCount_0f7a4 18 = .ok (.ldc_w 266, 3) := by decide +kernel
theorem dJ6_bitCount_0f7a4_21 : decode cJ6_bitCount_0f7a4 21 = .ok (.iand, 1) := by decide +kernel
theorem dJ6_bitCount_0f7a4_22 : decode cJ6_bitCount_0f7a4 22 = .ok (.iadd, 1) := by decide +kernel
theorem dJ6_bitCount_0f7a4_23 : decode cJ6_bitCount_0f7a4 23 = .ok (.istore_n 0, 1) := by decide +kernel
theorem dJ6_bitCount_0f7a4_24 : decode cJ6_bitCount_0f7a4 24 = .ok (.iload_n 0, 1) := by decide +kernel
theorem dJ6_bitCount_0f7a4_25 : decode cJ6_bitCount_0f7a4 25 = .ok (.iload_n 0, 1) := by decide +kernel
theorem dJ6_bitCount_0f7a4_26 : decode cJ6_bitCount_0f7a4 26 = .ok (.iconst 4, 1) := by decide +kernel
theorem dJ6_bitCount_0f7a4_27 : decode cJ6_bitCount_0f7a4 27 = .ok (.iushr, 1) := by decide +kernel
theorem dJ6_bitCount_0f7a4_28 : decode cJ6_bitCount_0f7a4 28 = .ok (.iadd, 1) := by decide +kernel
theorem dJ6_bitCount_0f7a4_29 : decode cJ6_bitCount_0f7a4 29 = .ok (.ldc_w 267, 3) := by decide +kernel
theorem dJ6_bitCount_0f7a4_32 : decode cJ6_bitCount_0f7a4 32 = .ok (.iand, 1) := by decide +kernel
theorem dJ6_bitCount_0f7a4_33 : decode cJ6_bitCount_0f7a4 33 = .ok (.istore_n 0, 1) := by decide +kernel
theorem dJ6_bitCount_0f7a4_34 : decode cJ6_bitCount_0f7a4 34 = .ok (.iload_n 0, 1) := by decide +kernel
theorem dJ6_bitCount_0f7a4_35 : decode cJ6_bitCount_0f7a4 35 = .ok (.iload_n 0, 1) := by decide +kernel
theorem dJ6_bitCount_0f7a4_36 : decode cJ6_bitCount_0f7a4 36 = .ok (.bipush 8, 2) := by decide +kernel
theorem dJ6_bitCount_0f7a4_38 : decode cJ6_bitCount_0f7a4 38 = .ok (.iushr, 1) := by decide +kernel
theorem dJ6_bitCount_0f7a4_39 : decode cJ6_bitCount_0f7a4 39 = .ok (.iadd, 1) := by decide +kernel
theorem dJ6_bitCount_0f7a4_40 : decode cJ6_bitCount_0f7a4 40 = .ok (.istore_n 0, 1) := by decide +kernel
theorem dJ6_bitCount_0f7a4_41 : decode cJ6_bitCount_0f7a4 41 = .ok (.iload_n 0, 1) := by decide +kernel
theorem dJ6_bitCount_0f7a4_42 : decode cJ6_bitCount_0f7a4 42 = .ok (.iload_n 0, 1) := by decide +kernel
theorem dJ6_bitCount_0f7a4_43 : decode cJ6_bitCount_0f7a4 43 = .ok (.bipush 16, 2) := by decide +kernel
theorem dJ6_bitCount_0f7a4_45 : decode cJ6_bitCount_0f7a4 45 = .ok (.iushr, 1) := by decide +kernel
theorem dJ6_bitCount_0f7a4_46 : decode cJ6_bitCount_0f7a4 46 = .ok (.iadd, 1) := by decide +kernel
theorem dJ6_bitCount_0f7a4_47 : decode cJ6_bitCount_0f7a4 47 = .ok (.istore_n 0, 1) := by decide +kernel
theorem dJ6_bitCount_0f7a4_48 : decode cJ6_bitCount_0f7a4 48 = .ok (.iload_n 0, 1) := by decide +kernel
theorem dJ6_bitCount_0f7a4_49 : decode cJ6_bitCount_0f7a4 49 = .ok (.bipush 63, 2) := by decide +kernel
theorem dJ6_bitCount_0f7a4_51 : decode cJ6_bitCount_0f7a4 51 = .ok (.iand, 1) := by decide +kernel
theorem dJ6_bitCount_0f7a4_52 : decode cJ6_bitCount_0f7a4 52 = .ok (.ireturn, 1) := by decide +kernel
theorem dJ9_max_7cf53_0 : decode cJ9_max_7cf53 0 = .ok (.iload_n 0, 1) := by decide +kernel
theorem dJ9_max_7cf53_1 : decode cJ9_max_7cf53 1 = .ok (.iload_n 1, 1) := by decide +kernel
theorem dJ9_max_7cf53_2 : decode cJ9_max_7cf53 2 = .ok (.if_icmp .lt 7, 3) := by decide +kernel
theorem dJ9_max_7cf53_5 : decode cJ9_max_7cf53 5 = .ok (.iload_n 0, 1) := by decide +kernel
theorem dJ9_max_7cf53_6 : decode cJ9_max_7cf53 6 = .ok (.goto 4, 3) := by decide +kernel
theorem dJ9_max_7cf53_9 : decode cJ9_max_7cf53 9 = .ok (.iload_n 1, 1) := by decide +kernel
theorem dJ9_max_7cf53_10 : decode cJ9_max_7cf53 10 = .ok (.ireturn, 1) := by decide +kernel
theorem dJ9_min_7cf53_0 : decode cJ9_min_7cf53 0 = .ok (.iload_n 0, 1) := by decide +kernel
theorem dJ9_min_7cf53_1 : decode cJ9_min_7cf53 1 = .ok (.iload_n 1, 1) := by decide +kernel
theorem dJ9_min_7cf53_2 : decode cJ9_min_7cf53 2 = .ok (.if_icmp .gt 7, 3) := by decide +kernel
theorem dJ9_min_7cf53_5 : decode cJ9_min_7cf53 5 = .ok (.iload_n 0, 1) := by decide +kernel
theorem dJ9_min_7cf53_6 : decode cJ9_min_7cf53 6 = .ok (.goto 4, 3) := by decide +kernel
theorem dJ9_min_7cf53_9 : decode cJ9_min_7cf53 9 = .ok (.iload_n 1, 1) := by decide +kernel
theorem dJ9_min_7cf53_10 : decode cJ9_min_7cf53 10 = .ok (.ireturn, 1) := by decide +kernel
theorem dL_cell_0 : decode cL_cell 0 = .ok (.iload_n 1, 1) := by decide +kernel
theorem dL_cell_1 : decode cL_cell 1 = .ok (.aload_n 0, 1) := by decide +kernel
theorem dL_cell_2 : decode cL_cell 2 = .ok (.arraylength, 1) := by decide +kernel
theorem dL_cell_3 : decode cL_cell 3 = .ok (.if_icmp .ge 9, 3) := by decide +kernel
theorem dL_cell_6 : decode cL_cell 6 = .ok (.aload_n 0, 1) := by decide +kernel
theorem dL_cell_7 : decode cL_cell 7 = .ok (.iload_n 1, 1) := by decide +kernel
theorem dL_cell_8 : decode cL_cell 8 = .ok (.iaload, 1) := by decide +kernel
theorem dL_cell_9 : decode cL_cell 9 = .ok (.goto 11, 3) := by decide +kernel
theorem dL_cell_12 : decode cL_cell 12 = .ok (.ldc 7, 2) := by decide +kernel
theorem dL_cell_14 : decode cL_cell 14 = .ok (.iload_n 1, 1) := by decide +kernel
theorem dL_cell_15 : decode cL_cell 15 = .ok (.sipush 883, 3) := by decide +kernel
theorem dL_cell_18 : decode cL_cell 18 = .ok (.iadd, 1) := by decide +kernel
theorem dL_cell_19 : decode cL_cell 19 = .ok (.imul, 1) := by decide +kernel
theorem dL_cell_20 : decode cL_cell 20 = .ok (.ireturn, 1) := by decide +kernel
theorem dL_up_0 : decode cL_up 0 = .ok (.iload_n 0, 1) := by decide +kernel
theorem dL_up_1 : decode cL_up 1 = .ok (.ldc 8, 2) := by decide +kernel
theorem dL_up_3 : decode cL_up 3 = .ok (.iand, 1) := by decide +kernel
theorem dL_up_4 : decode cL_up 4 = .ok (.iload_n 1, 1) := by decide +kernel
theorem dL_up_5 : decode cL_up 5 = .ok (.irem, 1) := by decide +kernel
theorem dL_up_6 : decode cL_up 6 = .ok (.ireturn, 1) := by decide +kernel
theorem dL_bits_0 : decode cL_bits 0 = .ok (.iconst 0, 1) := by decide +kernel
theorem dL_bits_1 : decode cL_bits 1 = .ok (.istore_n 1, 1) := by decide +kernel
theorem dL_bits_2 : decode cL_bits 2 = .ok (.iconst 0, 1) := by decide +kernel
theorem dL_bits_3 : decode cL_bits 3 = .ok (.istore_n 2, 1) := by decide +kernel
theorem dL_bits_4 : decode cL_bits 4 = .ok (.iload_n 2, 1) := by decide +kernel
theorem dL_bits_5 : decode cL_bits 5 = .ok (.bipush 30, 2) := by decide +kernel
theorem dL_bits_7 : decode cL_bits 7 = .ok (.if_icmp .ge 17, 3) := by decide +kernel
theorem dL_bits_10 : decode cL_bits 10 = .ok (.iload_n 1, 1) := by decide +kernel
theorem dL_bits_11 : decode cL_bits 11 = .ok (.iload_n 0, 1) := by decide +kernel
theorem dL_bits_12 : decode cL_bits 12 = .ok (.iload_n 2, 1) := by decide +kernel
theorem dL_bits_13 : decode cL_bits 13 = .ok (.ishr, 1) := by decide +kernel
theorem dL_bits_14 : decode cL_bits 14 = .ok (.iconst 1, 1) := by decide +kernel
theorem dL_bits_15 : decode cL_bits 15 = .ok (.iand, 1) := by decide +kernel
theorem dL_bits_16 : decode cL_bits 16 = .ok (.iadd, 1) := by decide +kernel
theorem dL_bits_17 : decode cL_bits 17 = .ok (.istore_n 1, 1) := by decide +kernel
theorem dL_bits_18 : decode cL_bits 18 = .ok (.iinc 2 1, 3) := by decide +kernel
theorem dL_bits_21 : decode cL_bits 21 = .ok (.goto (-17), 3) := by decide +kernel
theorem dL_bits_24 : decode cL_bits 24 = .ok (.iload_n 1, 1) := by decide +kernel
theorem dL_bits_25 : decode cL_bits 25 = .ok (.ireturn, 1) := by decide +kernel
theorem dL_missed_0 : decode cL_missed 0 = .ok (.aload_n 0, 1) := by decide +kernel
theorem dL_missed_1 : decode cL_missed 1 = .ok (.bipush 6, 2) := by decide +kernel
theorem dL_missed_3 : decode cL_missed 3 = .ok (.invokevirtual 9, 3) := by decide +kernel
theorem dL_missed_6 : decode cL_missed 6 = .ok (.aload_n 0, 1) := by decide +kernel
theorem dL_missed_7 : decode cL_missed 7 = .ok (.bipush 7, 2) := by decide +kernel
theorem dL_missed_9 : decode cL_missed 9 = .ok (.invokevirtual 9, 3) := by decide +kernel
theorem dL_missed_12 : decode cL_missed 12 = .ok (.iadd, 1) := by decide +kernel
theorem dL_missed_13 : decode cL_missed 13 = .ok (.aload_n 0, 1) := by decide +kernel
theorem dL_missed_14 : decode cL_missed 14 = .ok (.bipush 8, 2) := by decide +kernel
theorem dL_missed_16 : decode cL_missed 16 = .ok (.invokevirtual 9, 3) := by decide +kernel
theorem dL_missed_19 : decode cL_missed 19 = .ok (.iadd, 1) := by decide +kernel
theorem dL_missed_20 : decode cL_missed 20 = .ok (.ireturn, 1) := by decide +kernel
theorem dL_isStep_0 : decode cL_isStep 0 = .ok (.iload_n 1, 1) := by decide +kernel
theorem dL_isStep_1 : decode cL_isStep 1 = .ok (.iconst 4, 1) := by decide +kernel
theorem dL_isStep_2 : decode cL_isStep 2 = .ok (.ishr, 1) := by decide +kernel
theorem dL_isStep_3 : decode cL_isStep 3 = .ok (.istore_n 3, 1) := by decide +kernel
theorem dL_isStep_4 : decode cL_isStep 4 = .ok (.iload_n 3, 1) := by decide +kernel
theorem dL_isStep_5 : decode cL_isStep 5 = .ok (.bipush 6, 2) := by decide +kernel
theorem dL_isStep_7 : decode cL_isStep 7 = .ok (.invokestatic 15, 3) := by decide +kernel
theorem dL_isStep_10 : decode cL_isStep 10 = .ok (.istore 4, 2) := by decide +kernel
theorem dL_isStep_12 : decode cL_isStep 12 = .ok (.aload_n 0, 1) := by decide +kernel
theorem dL_isStep_13 : decode cL_isStep 13 = .ok (.iconst 0, 1) := by decide +kernel
theorem dL_isStep_14 : decode cL_isStep 14 = .ok (.invokevirtual 9, 3) := by decide +kernel
theorem dL_isStep_17 : decode cL_isStep 17 = .ok (.istore 5, 2) := by decide +kernel
theorem dL_isStep_19 : decode cL_isStep 19 = .ok (.aload_n 0, 1) := by decide +kernel
theorem dL_isStep_20 : decode cL_isStep 20 = .ok (.iconst 1, 1) := by decide +kernel
theorem dL_isStep_21 : decode cL_isStep 21 = .ok (.invokevirtual 9, 3) := by decide +kernel
theorem dL_isStep_24 : decode cL_isStep 24 = .ok (.istore 6, 2) := by decide +kernel
theorem dL_isStep_26 : decode cL_isStep 26 = .ok (.aload_n 0, 1) := by decide +kernel
theorem dL_isStep_27 : decode cL_isStep 27 = .ok (.iconst 3, 1) := by decide +kernel
theorem dL_isStep_28 : decode cL_isStep 28 = .ok (.invokevirtual 9, 3) := by decide +kernel
theorem dL_isStep_31 : decode cL_isStep 31 = .ok (.istore 7, 2) := by decide +kernel
theorem dL_isStep_33 : decode cL_isStep 33 = .ok (.aload_n 0, 1) := by decide +kernel
theorem dL_isStep_34 : decode cL_isStep 34 = .ok (.iconst 4, 1) := by decide +kernel
theorem dL_isStep_35 : decode cL_isStep 35 = .ok (.invokevirtual 9, 3) := by decide +kernel
theorem dL_isStep_38 : decode cL_isStep 38 = .ok (.istore 8, 2) := by decide +kernel
theorem dL_isStep_40 : decode cL_isStep 40 = .ok (.iload_n 1, 1) := by decide +kernel
theorem dL_isStep_41 : decode cL_isStep 41 = .ok (.bipush 17, 2) := by decide +kernel
theorem dL_isStep_43 : decode cL_isStep 43 = .ok (.invokestatic 15, 3) := by decide +kernel
theorem dL_isStep_46 : decode cL_isStep 46 = .ok (.tableswitch 863 0 15 #[78, 78, 78, 78, 159, 159, 159, 159, 159, 366, 395, 436, 559, 668, 668, 840], 78) := by decide +kernel
theorem dL_isStep_124 : decode cL_isStep 124 = .ok (.iload 5, 2) := by decide +kernel
theorem dL_isStep_126 : decode cL_isStep 126 = .ok (.ifCond .eq 10, 3) := by decide +kernel
theorem dL_isStep_129 : decode cL_isStep 129 = .ok (.iload 5, 2) := by decide +kernel
theorem dL_isStep_131 : decode cL_isStep 131 = .ok (.bipush 30, 2) := by decide +kernel
theorem dL_isStep_133 : decode cL_isStep 133 = .ok (.if_icmp .ne 7, 3) := by decide +kernel
theorem dL_isStep_136 : decode cL_isStep 136 = .ok (.iconst 0, 1) := by decide +kernel
theorem dL_isStep_137 : decode cL_isStep 137 = .ok (.goto 16, 3) := by decide +kernel
theorem dL_isStep_140 : decode cL_isStep 140 = .ok (.iload_n 2, 1) := by decide +kernel
theorem dL_isStep_141 : decode cL_isStep 141 = .ok (.ldc 8, 2) := by decide +kernel
theorem dL_isStep_143 : decode cL_isStep 143 = .ok (.iand, 1) := by decide +kernel
theorem dL_isStep_144 : decode cL_isStep 144 = .ok (.iconst 1, 1) := by decide +kernel
theorem dL_isStep_145 : decode cL_isStep 145 = .ok (.iload 5, 2) := by decide +kernel
theorem dL_isStep_147 : decode cL_isStep 147 = .ok (.ishl, 1) := by decide +kernel
theorem dL_isStep_148 : decode cL_isStep 148 = .ok (.irem, 1) := by decide +kernel
theorem dL_isStep_149 : decode cL_isStep 149 = .ok (.iload_n 2, 1) := by decide +kernel
theorem dL_isStep_150 : decode cL_isStep 150 = .ok (.iconst 3, 1) := by decide +kernel
theorem dL_isStep_151 : decode cL_isStep 151 = .ok (.ishr, 1) := by decide +kernel
theorem dL_isStep_152 : decode cL_isStep 152 = .ok (.iand, 1) := by decide +kernel
theorem dL_isStep_153 : decode cL_isStep 153 = .ok (.istore 9, 2) := by decide +kernel
theorem dL_isStep_155 : decode cL_isStep 155 = .ok (.aload_n 0, 1) := by decide +kernel
theorem dL_isStep_156 : decode cL_isStep 156 = .ok (.iconst 1, 1) := by decide +kernel
theorem dL_isStep_157 : decode cL_isStep 157 = .ok (.iload_n 3, 1) := by decide +kernel
theorem dL_isStep_158 : decode cL_isStep 158 = .ok (.iconst 4, 1) := by decide +kernel
theorem dL_isStep_159 : decode cL_isStep 159 = .ok (.invokestatic 15, 3) := by decide +kernel
theorem dL_isStep_162 : decode cL_isStep 162 = .ok (.iadd, 1) := by decide +kernel
theorem dL_isStep_163 : decode cL_isStep 163 = .ok (.iload 9, 2) := by decide +kernel
theorem dL_isStep_165 : decode cL_isStep 165 = .ok (.invokevirtual 21, 3) := by decide +kernel
theorem dL_isStep_168 : decode cL_isStep 168 = .ok (.istore 10, 2) := by decide +kernel
theorem dL_isStep_170 : decode cL_isStep 170 = .ok (.iload 10, 2) := by decide +kernel
theorem dL_isStep_172 : decode cL_isStep 172 = .ok (.iload 5, 2) := by decide +kernel
theorem dL_isStep_174 : decode cL_isStep 174 = .ok (.bipush 30, 2) := by decide +kernel
theorem dL_isStep_176 : decode cL_isStep 176 = .ok (.if_icmp .ne 8, 3) := by decide +kernel
theorem dL_isStep_179 : decode cL_isStep 179 = .ok (.bipush (-3), 2) := by decide +kernel
theorem dL_isStep_181 : decode cL_isStep 181 = .ok (.goto 5, 3) := by decide +kernel
theorem dL_isStep_184 : decode cL_isStep 184 = .ok (.iload 5, 2) := by decide +kernel
theorem dL_isStep_186 : decode cL_isStep 186 = .ok (.if_icmp .ne 17, 3) := by decide +kernel
theorem dL_isStep_189 : decode cL_isStep 189 = .ok (.aload_n 0, 1) := by decide +kernel
theorem dL_isStep_190 : decode cL_isStep 190 = .ok (.iconst 1, 1) := by decide +kernel
theorem dL_isStep_191 : decode cL_isStep 191 = .ok (.invokevirtual 9, 3) := by decide +kernel
theorem dL_isStep_194 : decode cL_isStep 194 = .ok (.iload 6, 2) := by decide +kernel
theorem dL_isStep_196 : decode cL_isStep 196 = .ok (.if_icmp .ne 7, 3) := by decide +kernel
theorem dL_isStep_199 : decode cL_isStep 199 = .ok (.iconst 1, 1) := by decide +kernel
theorem dL_isStep_200 : decode cL_isStep 200 = .ok (.goto 4, 3) := by decide +kernel
theorem dL_isStep_203 : decode cL_isStep 203 = .ok (.iconst 0, 1) := by decide +kernel
theorem dL_isStep_204 : decode cL_isStep 204 = .ok (.ireturn, 1) := by decide +kernel
theorem dL_isStep_205 : decode cL_isStep 205 = .ok (.aload_n 0, 1) := by decide +kernel
theorem dL_isStep_206 : decode cL_isStep 206 = .ok (.invokestatic 24, 3) := by decide +kernel
theorem dL_isStep_209 : decode cL_isStep 209 = .ok (.istore 9, 2) := by decide +kernel
theorem dL_isStep_211 : decode cL_isStep 211 = .ok (.aload_n 0, 1) := by decide +kernel
theorem dL_isStep_212 : decode cL_isStep 212 = .ok (.iconst 2, 1) := by decide +kernel
theorem dL_isStep_213 : decode cL_isStep 213 = .ok (.invokevirtual 9, 3) := by decide +kernel
theorem dL_isStep_216 : decode cL_isStep 216 = .ok (.istore 10, 2) := by decide +kernel
theorem dL_isStep_218 : decode cL_isStep 218 = .ok (.aload_n 0, 1) := by decide +kernel
theorem dL_isStep_219 : decode cL_isStep 219 = .ok (.invokevirtual 28, 3) := by decide +kernel
theorem dL_isStep_222 : decode cL_isStep 222 = .ok (.istore 11, 2) := by decide +kernel
theorem dL_isStep_224 : decode cL_isStep 224 = .ok (.iload 11, 2) := by decide +kernel
theorem dL_isStep_226 : decode cL_isStep 226 = .ok (.ifCond .ge 46, 3) := by decide +kernel
theorem dL_isStep_229 : decode cL_isStep 229 = .ok (.iload 11, 2) := by decide +kernel
theorem dL_isStep_231 : decode cL_isStep 231 = .ok (.bipush (-4), 2) := by decide +kernel
theorem dL_isStep_233 : decode cL_isStep 233 = .ok (.if_icmp .ne 37, 3) := by decide +kernel
theorem dL_isStep_236 : decode cL_isStep 236 = .ok (.aload_n 0, 1) := by decide +kernel
theorem dL_isStep_237 : decode cL_isStep 237 = .ok (.iconst 1, 1) := by decide +kernel
theorem dL_isStep_238 : decode cL_isStep 238 = .ok (.invokevirtual 9, 3) := by decide +kernel
theorem dL_isStep_241 : decode cL_isStep 241 = .ok (.iload 6, 2) := by decide +kernel
theorem dL_isStep_243 : decode cL_isStep 243 = .ok (.if_icmp .ne 27, 3) := by decide +kernel
theorem dL_isStep_246 : decode cL_isStep 246 = .ok (.aload_n 0, 1) := by decide +kernel
theorem dL_isStep_247 : decode cL_isStep 247 = .ok (.iconst 3, 1) := by decide +kernel
theorem dL_isStep_248 : decode cL_isStep 248 = .ok (.invokevirtual 9, 3) := by decide +kernel
theorem dL_isStep_251 : decode cL_isStep 251 = .ok (.iload 7, 2) := by decide +kernel
theorem dL_isStep_253 : decode cL_isStep 253 = .ok (.if_icmp .ne 17, 3) := by decide +kernel
theorem dL_isStep_256 : decode cL_isStep 256 = .ok (.aload_n 0, 1) := by decide +kernel
theorem dL_isStep_257 : decode cL_isStep 257 = .ok (.iconst 2, 1) := by decide +kernel
theorem dL_isStep_258 : decode cL_isStep 258 = .ok (.invokevirtual 9, 3) := by decide +kernel
theorem dL_isStep_261 : decode cL_isStep 261 = .ok (.iload 10, 2) := by decide +kernel
theorem dL_isStep_263 : decode cL_isStep 263 = .ok (.if_icmp .ne 7, 3) := by decide +kernel
theorem dL_isStep_266 : decode cL_isStep 266 = .ok (.iconst 1, 1) := by decide +kernel
theorem dL_isStep_267 : decode cL_isStep 267 = .ok (.goto 4, 3) := by decide +kernel
theorem dL_isStep_270 : decode cL_isStep 270 = .ok (.iconst 0, 1) := by decide +kernel
theorem dL_isStep_271 : decode cL_isStep 271 = .ok (.ireturn, 1) := by decide +kernel
theorem dL_isStep_272 : decode cL_isStep 272 = .ok (.aload_n 0, 1) := by decide +kernel
theorem dL_isStep_273 : decode cL_isStep 273 = .ok (.iload 6, 2) := by decide +kernel
theorem dL_isStep_275 : decode cL_isStep 275 = .ok (.iconst 1, 1) := by decide +kernel
theorem dL_isStep_276 : decode cL_isStep 276 = .ok (.invokevirtual 32, 3) := by decide +kernel
theorem dL_isStep_279 : decode cL_isStep 279 = .ok (.invokestatic 35, 3) := by decide +kernel
theorem dL_isStep_282 : decode cL_isStep 282 = .ok (.istore 12, 2) := by decide +kernel
theorem dL_isStep_284 : decode cL_isStep 284 = .ok (.aload_n 0, 1) := by decide +kernel
theorem dL_isStep_285 : decode cL_isStep 285 = .ok (.iload 6, 2) := by decide +kernel
theorem dL_isStep_287 : decode cL_isStep 287 = .ok (.iconst 3, 1) := by decide +kernel
theorem dL_isStep_288 : decode cL_isStep 288 = .ok (.invokevirtual 32, 3) := by decide +kernel
theorem dL_isStep_291 : decode cL_isStep 291 = .ok (.iload 11, 2) := by decide +kernel
theorem dL_isStep_293 : decode cL_isStep 293 = .ok (.if_icmp .ne 117, 3) := by decide +kernel
theorem dL_isStep_296 : decode cL_isStep 296 = .ok (.aload_n 0, 1) := by decide +kernel
theorem dL_isStep_297 : decode cL_isStep 297 = .ok (.iconst 2, 1) := by decide +kernel
theorem dL_isStep_298 : decode cL_isStep 298 = .ok (.invokevirtual 9, 3) := by decide +kernel
theorem dL_isStep_301 : decode cL_isStep 301 = .ok (.iload 11, 2) := by decide +kernel
theorem dL_isStep_303 : decode cL_isStep 303 = .ok (.if_icmp .ne 107, 3) := by decide +kernel
theorem dL_isStep_306 : decode cL_isStep 306 = .ok (.aload_n 0, 1) := by decide +kernel
theorem dL_isStep_307 : decode cL_isStep 307 = .ok (.iload 11, 2) := by decide +kernel
theorem dL_isStep_309 : decode cL_isStep 309 = .ok (.iconst 2, 1) := by decide +kernel
theorem dL_isStep_310 : decode cL_isStep 310 = .ok (.invokevirtual 38, 3) := by decide +kernel
theorem dL_isStep_313 : decode cL_isStep 313 = .ok (.iconst 1, 1) := by decide +kernel
theorem dL_isStep_314 : decode cL_isStep 314 = .ok (.if_icmp .ne 96, 3) := by decide +kernel
theorem dL_isStep_317 : decode cL_isStep 317 = .ok (.aload_n 0, 1) := by decide +kernel
theorem dL_isStep_318 : decode cL_isStep 318 = .ok (.iconst 1, 1) := by decide +kernel
theorem dL_isStep_319 : decode cL_isStep 319 = .ok (.invokevirtual 9, 3) := by decide +kernel
theorem dL_isStep_322 : decode cL_isStep 322 = .ok (.iload 6, 2) := by decide +kernel
theorem dL_isStep_324 : decode cL_isStep 324 = .ok (.iconst 1, 1) := by decide +kernel
theorem dL_isStep_325 : decode cL_isStep 325 = .ok (.iadd, 1) := by decide +kernel
theorem dL_isStep_326 : decode cL_isStep 326 = .ok (.if_icmp .ne 84, 3) := by decide +kernel
theorem dL_isStep_329 : decode cL_isStep 329 = .ok (.aload_n 0, 1) := by decide +kernel
theorem dL_isStep_330 : decode cL_isStep 330 = .ok (.iconst 4, 1) := by decide +kernel
theorem dL_isStep_331 : decode cL_isStep 331 = .ok (.invokevirtual 9, 3) := by decide +kernel
theorem dL_isStep_334 : decode cL_isStep 334 = .ok (.iload 8, 2) := by decide +kernel
theorem dL_isStep_336 : decode cL_isStep 336 = .ok (.iload 11, 2) := by decide +kernel
theorem dL_isStep_338 : decode cL_isStep 338 = .ok (.iload 10, 2) := by decide +kernel
theorem dL_isStep_340 : decode cL_isStep 340 = .ok (.if_icmp .ne 7, 3) := by decide +kernel
theorem dL_isStep_343 : decode cL_isStep 343 = .ok (.iconst 0, 1) := by decide +kernel
theorem dL_isStep_344 : decode cL_isStep 344 = .ok (.goto 4, 3) := by decide +kernel
theorem dL_isStep_347 : decode cL_isStep 347 = .ok (.iconst 1, 1) := by decide +kernel
theorem dL_isStep_348 : decode cL_isStep 348 = .ok (.iadd, 1) := by decide +kernel
theorem dL_isStep_349 : decode cL_isStep 349 = .ok (.if_icmp .ne 61, 3) := by decide +kernel
theorem dL_isStep_352 : decode cL_isStep 352 = .ok (.aload_n 0, 1) := by decide +kernel
theorem dL_isStep_353 : decode cL_isStep 353 = .ok (.invokestatic 24, 3) := by decide +kernel
theorem dL_isStep_356 : decode cL_isStep 356 = .ok (.iload 9, 2) := by decide +kernel
theorem dL_isStep_358 : decode cL_isStep 358 = .ok (.isub, 1) := by decide +kernel
theorem dL_isStep_359 : decode cL_isStep 359 = .ok (.aload_n 0, 1) := by decide +kernel
theorem dL_isStep_360 : decode cL_isStep 360 = .ok (.iconst 3, 1) := by decide +kernel
theorem dL_isStep_361 : decode cL_isStep 361 = .ok (.invokevirtual 9, 3) := by decide +kernel
theorem dL_isStep_364 : decode cL_isStep 364 = .ok (.iadd, 1) := by decide +kernel
theorem dL_isStep_365 : decode cL_isStep 365 = .ok (.iload 7, 2) := by decide +kernel
theorem dL_isStep_367 : decode cL_isStep 367 = .ok (.isub, 1) := by decide +kernel
theorem dL_isStep_368 : decode cL_isStep 368 = .ok (.iload 12, 2) := by decide +kernel
theorem dL_isStep_370 : decode cL_isStep 370 = .ok (.iconst 1, 1) := by decide +kernel
theorem dL_isStep_371 : decode cL_isStep 371 = .ok (.iadd, 1) := by decide +kernel
theorem dL_isStep_372 : decode cL_isStep 372 = .ok (.if_icmp .gt 38, 3) := by decide +kernel
theorem dL_isStep_375 : decode cL_isStep 375 = .ok (.iload 11, 2) := by decide +kernel
theorem dL_isStep_377 : decode cL_isStep 377 = .ok (.iload 10, 2) := by decide +kernel
theorem dL_isStep_379 : decode cL_isStep 379 = .ok (.if_icmp .eq 27, 3) := by decide +kernel
theorem dL_isStep_382 : decode cL_isStep 382 = .ok (.aload_n 0, 1) := by decide +kernel
theorem dL_isStep_383 : decode cL_isStep 383 = .ok (.iload 11, 2) := by decide +kernel
theorem dL_isStep_385 : decode cL_isStep 385 = .ok (.iconst 0, 1) := by decide +kernel
theorem dL_isStep_386 : decode cL_isStep 386 = .ok (.invokevirtual 38, 3) := by decide +kernel
theorem dL_isStep_389 : decode cL_isStep 389 = .ok (.iconst 1, 1) := by decide +kernel
theorem dL_isStep_390 : decode cL_isStep 390 = .ok (.iload 6, 2) := by decide +kernel
theorem dL_isStep_392 : decode cL_isStep 392 = .ok (.ishl, 1) := by decide +kernel
theorem dL_isStep_393 : decode cL_isStep 393 = .ok (.if_icmp .ne 17, 3) := by decide +kernel
theorem dL_isStep_396 : decode cL_isStep 396 = .ok (.aload_n 0, 1) := by decide +kernel
theorem dL_isStep_397 : decode cL_isStep 397 = .ok (.iload 11, 2) := by decide +kernel
theorem dL_isStep_399 : decode cL_isStep 399 = .ok (.iconst 3, 1) := by decide +kernel
theorem dL_isStep_400 : decode cL_isStep 400 = .ok (.invokevirtual 38, 3) := by decide +kernel
theorem dL_isStep_403 : decode cL_isStep 403 = .ok (.ifCond .ne 7, 3) := by decide +kernel
theorem dL_isStep_406 : decode cL_isStep 406 = .ok (.iconst 1, 1) := by decide +kernel
theorem dL_isStep_407 : decode cL_isStep 407 = .ok (.goto 4, 3) := by decide +kernel
theorem dL_isStep_410 : decode cL_isStep 410 = .ok (.iconst 0, 1) := by decide +kernel
theorem dL_isStep_411 : decode cL_isStep 411 = .ok (.ireturn, 1) := by decide +kernel
theorem dL_isStep_412 : decode cL_isStep 412 = .ok (.aload_n 0, 1) := by decide +kernel
theorem dL_isStep_413 : decode cL_isStep 413 = .ok (.iload 4, 2) := by decide +kernel
theorem dL_isStep_415 : decode cL_isStep 415 = .ok (.iconst 2, 1) := by decide +kernel
theorem dL_isStep_416 : decode cL_isStep 416 = .ok (.idiv, 1) := by decide +kernel
theorem dL_isStep_417 : decode cL_isStep 417 = .ok (.invokevirtual 41, 3) := by decide +kernel
theorem dL_isStep_420 : decode cL_isStep 420 = .ok (.ifCond .lt 19, 3) := by decide +kernel
theorem dL_isStep_423 : decode cL_isStep 423 = .ok (.aload_n 0, 1) := by decide +kernel
theorem dL_isStep_424 : decode cL_isStep 424 = .ok (.iconst 3, 1) := by decide +kernel
theorem dL_isStep_425 : decode cL_isStep 425 = .ok (.invokevirtual 9, 3) := by decide +kernel
theorem dL_isStep_428 : decode cL_isStep 428 = .ok (.iload 7, 2) := by decide +kernel
theorem dL_isStep_430 : decode cL_isStep 430 = .ok (.iconst 1, 1) := by decide +kernel
theorem dL_isStep_431 : decode cL_isStep 431 = .ok (.iadd, 1) := by decide +kernel
theorem dL_isStep_432 : decode cL_isStep 432 = .ok (.if_icmp .ne 7, 3) := by decide +kernel
theorem dL_isStep_435 : decode cL_isStep 435 = .ok (.iconst 1, 1) := by decide +kernel
theorem dL_isStep_436 : decode cL_isStep 436 = .ok (.goto 4, 3) := by decide +kernel
theorem dL_isStep_439 : decode cL_isStep 439 = .ok (.iconst 0, 1) := by decide +kernel
theorem dL_isStep_440 : decode cL_isStep 440 = .ok (.ireturn, 1) := by decide +kernel
theorem dL_isStep_441 : decode cL_isStep 441 = .ok (.aload_n 0, 1) := by decide +kernel
theorem dL_isStep_442 : decode cL_isStep 442 = .ok (.iload 4, 2) := by decide +kernel
theorem dL_isStep_444 : decode cL_isStep 444 = .ok (.iload_n 3, 1) := by decide +kernel
theorem dL_isStep_445 : decode cL_isStep 445 = .ok (.iconst 3, 1) := by decide +kernel
theorem dL_isStep_446 : decode cL_isStep 446 = .ok (.ishr, 1) := by decide +kernel
theorem dL_isStep_447 : decode cL_isStep 447 = .ok (.iconst 3, 1) := by decide +kernel
theorem dL_isStep_448 : decode cL_isStep 448 = .ok (.invokestatic 15, 3) := by decide +kernel
theorem dL_isStep_451 : decode cL_isStep 451 = .ok (.ifCond .ne 7, 3) := by decide +kernel
theorem dL_isStep_454 : decode cL_isStep 454 = .ok (.iconst 1, 1) := by decide +kernel
theorem dL_isStep_455 : decode cL_isStep 455 = .ok (.goto 4, 3) := by decide +kernel
theorem dL_isStep_458 : decode cL_isStep 458 = .ok (.iconst 0, 1) := by decide +kernel
theorem dL_isStep_459 : decode cL_isStep 459 = .ok (.invokevirtual 44, 3) := by decide +kernel
theorem dL_isStep_462 : decode cL_isStep 462 = .ok (.iconst (-1), 1) := by decide +kernel
theorem dL_isStep_463 : decode cL_isStep 463 = .ok (.if_icmp .eq 17, 3) := by decide +kernel
theorem dL_isStep_466 : decode cL_isStep 466 = .ok (.aload_n 0, 1) := by decide +kernel
theorem dL_isStep_467 : decode cL_isStep 467 = .ok (.iconst 3, 1) := by decide +kernel
theorem dL_isStep_468 : decode cL_isStep 468 = .ok (.invokevirtual 9, 3) := by decide +kernel
theorem dL_isStep_471 : decode cL_isStep 471 = .ok (.iload 7, 2) := by decide +kernel
theorem dL_isStep_473 : decode cL_isStep 473 = .ok (.if_icmp .ne 7, 3) := by decide +kernel
theorem dL_isStep_476 : decode cL_isStep 476 = .ok (.iconst 1, 1) := by decide +kernel
theorem dL_isStep_477 : decode cL_isStep 477 = .ok (.goto 4, 3) := by decide +kernel
theorem dL_isStep_480 : decode cL_isStep 480 = .ok (.iconst 0, 1) := by decide +kernel
theorem dL_isStep_481 : decode cL_isStep 481 = .ok (.ireturn, 1) := by decide +kernel
theorem dL_isStep_482 : decode cL_isStep 482 = .ok (.aload_n 0, 1) := by decide +kernel
theorem dL_isStep_483 : decode cL_isStep 483 = .ok (.iload 4, 2) := by decide +kernel
theorem dL_isStep_485 : decode cL_isStep 485 = .ok (.iconst 0, 1) := by decide +kernel
theorem dL_isStep_486 : decode cL_isStep 486 = .ok (.invokevirtual 38, 3) := by decide +kernel
theorem dL_isStep_489 : decode cL_isStep 489 = .ok (.invokestatic 35, 3) := by decide +kernel
theorem dL_isStep_492 : decode cL_isStep 492 = .ok (.istore 9, 2) := by decide +kernel
theorem dL_isStep_494 : decode cL_isStep 494 = .ok (.aload_n 0, 1) := by decide +kernel
theorem dL_isStep_495 : decode cL_isStep 495 = .ok (.iload 4, 2) := by decide +kernel
theorem dL_isStep_497 : decode cL_isStep 497 = .ok (.iconst 2, 1) := by decide +kernel
theorem dL_isStep_498 : decode cL_isStep 498 = .ok (.invokevirtual 38, 3) := by decide +kernel
theorem dL_isStep_501 : decode cL_isStep 501 = .ok (.iconst 1, 1) := by decide +kernel
theorem dL_isStep_502 : decode cL_isStep 502 = .ok (.if_icmp .ne 17, 3) := by decide +kernel
theorem dL_isStep_505 : decode cL_isStep 505 = .ok (.aload_n 0, 1) := by decide +kernel
theorem dL_isStep_506 : decode cL_isStep 506 = .ok (.iload 4, 2) := by decide +kernel
theorem dL_isStep_508 : decode cL_isStep 508 = .ok (.iconst 3, 1) := by decide +kernel
theorem dL_isStep_509 : decode cL_isStep 509 = .ok (.invokevirtual 38, 3) := by decide +kernel
theorem dL_isStep_512 : decode cL_isStep 512 = .ok (.ifCond .ne 7, 3) := by decide +kernel
theorem dL_isStep_515 : decode cL_isStep 515 = .ok (.iconst 1, 1) := by decide +kernel
theorem dL_isStep_516 : decode cL_isStep 516 = .ok (.goto 4, 3) := by decide +kernel
theorem dL_isStep_519 : decode cL_isStep 519 = .ok (.iconst 0, 1) := by decide +kernel
theorem dL_isStep_520 : decode cL_isStep 520 = .ok (.istore 10, 2) := by decide +kernel
theorem dL_isStep_522 : decode cL_isStep 522 = .ok (.aload_n 0, 1) := by decide +kernel
theorem dL_isStep_523 : decode cL_isStep 523 = .ok (.iload 4, 2) := by decide +kernel
theorem dL_isStep_525 : decode cL_isStep 525 = .ok (.invokevirtual 48, 3) := by decide +kernel
theorem dL_isStep_528 : decode cL_isStep 528 = .ok (.istore 11, 2) := by decide +kernel
theorem dL_isStep_530 : decode cL_isStep 530 = .ok (.iload 10, 2) := by decide +kernel
theorem dL_isStep_532 : decode cL_isStep 532 = .ok (.ifCond .ne 18, 3) := by decide +kernel
theorem dL_isStep_535 : decode cL_isStep 535 = .ok (.iload 11, 2) := by decide +kernel
theorem dL_isStep_537 : decode cL_isStep 537 = .ok (.bipush (-4), 2) := by decide +kernel
theorem dL_isStep_539 : decode cL_isStep 539 = .ok (.if_icmp .ne 7, 3) := by decide +kernel
theorem dL_isStep_542 : decode cL_isStep 542 = .ok (.iconst 1, 1) := by decide +kernel
theorem dL_isStep_543 : decode cL_isStep 543 = .ok (.goto 61, 3) := by decide +kernel
theorem dL_isStep_546 : decode cL_isStep 546 = .ok (.iconst 0, 1) := by decide +kernel
theorem dL_isStep_547 : decode cL_isStep 547 = .ok (.goto 57, 3) := by decide +kernel
theorem dL_isStep_550 : decode cL_isStep 550 = .ok (.iload 9, 2) := by decide +kernel
theorem dL_isStep_552 : decode cL_isStep 552 = .ok (.ifCond .ne 18, 3) := by decide +kernel
theorem dL_isStep_555 : decode cL_isStep 555 = .ok (.iload 11, 2) := by decide +kernel
theorem dL_isStep_557 : decode cL_isStep 557 = .ok (.bipush (-5), 2) := by decide +kernel
theorem dL_isStep_559 : decode cL_isStep 559 = .ok (.if_icmp .ne 7, 3) := by decide +kernel
theorem dL_isStep_562 : decode cL_isStep 562 = .ok (.iconst 1, 1) := by decide +kernel
theorem dL_isStep_563 : decode cL_isStep 563 = .ok (.goto 41, 3) := by decide +kernel
theorem dL_isStep_566 : decode cL_isStep 566 = .ok (.iconst 0, 1) := by decide +kernel
theorem dL_isStep_567 : decode cL_isStep 567 = .ok (.goto 37, 3) := by decide +kernel
theorem dL_isStep_570 : decode cL_isStep 570 = .ok (.iload 11, 2) := by decide +kernel
theorem dL_isStep_572 : decode cL_isStep 572 = .ok (.iload 9, 2) := by decide +kernel
theorem dL_isStep_574 : decode cL_isStep 574 = .ok (.if_icmp .ne 29, 3) := by decide +kernel
theorem dL_isStep_577 : decode cL_isStep 577 = .ok (.aload_n 0, 1) := by decide +kernel
theorem dL_isStep_578 : decode cL_isStep 578 = .ok (.iload 4, 2) := by decide +kernel
theorem dL_isStep_580 : decode cL_isStep 580 = .ok (.iconst 0, 1) := by decide +kernel
theorem dL_isStep_581 : decode cL_isStep 581 = .ok (.invokevirtual 38, 3) := by decide +kernel
theorem dL_isStep_584 : decode cL_isStep 584 = .ok (.ifCond .ne 19, 3) := by decide +kernel
theorem dL_isStep_587 : decode cL_isStep 587 = .ok (.aload_n 0, 1) := by decide +kernel
theorem dL_isStep_588 : decode cL_isStep 588 = .ok (.iconst 4, 1) := by decide +kernel
theorem dL_isStep_589 : decode cL_isStep 589 = .ok (.invokevirtual 9, 3) := by decide +kernel
theorem dL_isStep_592 : decode cL_isStep 592 = .ok (.iload 8, 2) := by decide +kernel
theorem dL_isStep_594 : decode cL_isStep 594 = .ok (.iconst 1, 1) := by decide +kernel
theorem dL_isStep_595 : decode cL_isStep 595 = .ok (.iadd, 1) := by decide +kernel
theorem dL_isStep_596 : decode cL_isStep 596 = .ok (.if_icmp .ne 7, 3) := by decide +kernel
theorem dL_isStep_599 : decode cL_isStep 599 = .ok (.iconst 1, 1) := by decide +kernel
theorem dL_isStep_600 : decode cL_isStep 600 = .ok (.goto 4, 3) := by decide +kernel
theorem dL_isStep_603 : decode cL_isStep 603 = .ok (.iconst 0, 1) := by decide +kernel
theorem dL_isStep_604 : decode cL_isStep 604 = .ok (.ireturn, 1) := by decide +kernel
theorem dL_isStep_605 : decode cL_isStep 605 = .ok (.aload_n 0, 1) := by decide +kernel
theorem dL_isStep_606 : decode cL_isStep 606 = .ok (.iload 4, 2) := by decide +kernel
theorem dL_isStep_608 : decode cL_isStep 608 = .ok (.iconst 5, 1) := by decide +kernel
theorem dL_isStep_609 : decode cL_isStep 609 = .ok (.invokevirtual 38, 3) := by decide +kernel
theorem dL_isStep_612 : decode cL_isStep 612 = .ok (.invokestatic 35, 3) := by decide +kernel
theorem dL_isStep_615 : decode cL_isStep 615 = .ok (.istore 9, 2) := by decide +kernel
theorem dL_isStep_617 : decode cL_isStep 617 = .ok (.aload_n 0, 1) := by decide +kernel
theorem dL_isStep_618 : decode cL_isStep 618 = .ok (.iconst 5, 1) := by decide +kernel
theorem dL_isStep_619 : decode cL_isStep 619 = .ok (.invokevirtual 9, 3) := by decide +kernel
theorem dL_isStep_622 : decode cL_isStep 622 = .ok (.istore 10, 2) := by decide +kernel
theorem dL_isStep_624 : decode cL_isStep 624 = .ok (.aload_n 0, 1) := by decide +kernel
theorem dL_isStep_625 : decode cL_isStep 625 = .ok (.iload 4, 2) := by decide +kernel
theorem dL_isStep_627 : decode cL_isStep 627 = .ok (.invokevirtual 51, 3) := by decide +kernel
theorem dL_isStep_630 : decode cL_isStep 630 = .ok (.istore 11, 2) := by decide +kernel
theorem dL_isStep_632 : decode cL_isStep 632 = .ok (.iload 11, 2) := by decide +kernel
theorem dL_isStep_634 : decode cL_isStep 634 = .ok (.ifCond .ge 45, 3) := by decide +kernel
theorem dL_isStep_637 : decode cL_isStep 637 = .ok (.iload 11, 2) := by decide +kernel
theorem dL_isStep_639 : decode cL_isStep 639 = .ok (.bipush (-4), 2) := by decide +kernel
theorem dL_isStep_641 : decode cL_isStep 641 = .ok (.if_icmp .ne 23, 3) := by decide +kernel
theorem dL_isStep_644 : decode cL_isStep 644 = .ok (.aload_n 0, 1) := by decide +kernel
theorem dL_isStep_645 : decode cL_isStep 645 = .ok (.iload 4, 2) := by decide +kernel
theorem dL_isStep_647 : decode cL_isStep 647 = .ok (.iconst 2, 1) := by decide +kernel
theorem dL_isStep_648 : decode cL_isStep 648 = .ok (.invokevirtual 38, 3) := by decide +kernel
theorem dL_isStep_651 : decode cL_isStep 651 = .ok (.ifCond .eq 20, 3) := by decide +kernel
theorem dL_isStep_654 : decode cL_isStep 654 = .ok (.aload_n 0, 1) := by decide +kernel
theorem dL_isStep_655 : decode cL_isStep 655 = .ok (.iload 4, 2) := by decide +kernel
theorem dL_isStep_657 : decode cL_isStep 657 = .ok (.iconst 0, 1) := by decide +kernel
theorem dL_isStep_658 : decode cL_isStep 658 = .ok (.invokevirtual 38, 3) := by decide +kernel
theorem dL_isStep_661 : decode cL_isStep 661 = .ok (.ifCond .eq 10, 3) := by decide +kernel
theorem dL_isStep_664 : decode cL_isStep 664 = .ok (.iload 10, 2) := by decide +kernel
theorem dL_isStep_666 : decode cL_isStep 666 = .ok (.bipush 40, 2) := by decide +kernel
theorem dL_isStep_668 : decode cL_isStep 668 = .ok (.if_icmp .ne 7, 3) := by decide +kernel
theorem dL_isStep_671 : decode cL_isStep 671 = .ok (.iconst 1, 1) := by decide +kernel
theorem dL_isStep_672 : decode cL_isStep 672 = .ok (.goto 41, 3) := by decide +kernel
theorem dL_isStep_675 : decode cL_isStep 675 = .ok (.iconst 0, 1) := by decide +kernel
theorem dL_isStep_676 : decode cL_isStep 676 = .ok (.goto 37, 3) := by decide +kernel
theorem dL_isStep_679 : decode cL_isStep 679 = .ok (.iload 11, 2) := by decide +kernel
theorem dL_isStep_681 : decode cL_isStep 681 = .ok (.iload 9, 2) := by decide +kernel
theorem dL_isStep_683 : decode cL_isStep 683 = .ok (.if_icmp .ne 29, 3) := by decide +kernel
theorem dL_isStep_686 : decode cL_isStep 686 = .ok (.aload_n 0, 1) := by decide +kernel
theorem dL_isStep_687 : decode cL_isStep 687 = .ok (.iload 4, 2) := by decide +kernel
theorem dL_isStep_689 : decode cL_isStep 689 = .ok (.iconst 5, 1) := by decide +kernel
theorem dL_isStep_690 : decode cL_isStep 690 = .ok (.invokevirtual 38, 3) := by decide +kernel
theorem dL_isStep_693 : decode cL_isStep 693 = .ok (.ifCond .ne 19, 3) := by decide +kernel
theorem dL_isStep_696 : decode cL_isStep 696 = .ok (.aload_n 0, 1) := by decide +kernel
theorem dL_isStep_697 : decode cL_isStep 697 = .ok (.iconst 5, 1) := by decide +kernel
theorem dL_isStep_698 : decode cL_isStep 698 = .ok (.invokevirtual 9, 3) := by decide +kernel
theorem dL_isStep_701 : decode cL_isStep 701 = .ok (.iload 10, 2) := by decide +kernel
theorem dL_isStep_703 : decode cL_isStep 703 = .ok (.iconst 1, 1) := by decide +kernel
theorem dL_isStep_704 : decode cL_isStep 704 = .ok (.iadd, 1) := by decide +kernel
theorem dL_isStep_705 : decode cL_isStep 705 = .ok (.if_icmp .ne 7, 3) := by decide +kernel
theorem dL_isStep_708 : decode cL_isStep 708 = .ok (.iconst 1, 1) := by decide +kernel
theorem dL_isStep_709 : decode cL_isStep 709 = .ok (.goto 4, 3) := by decide +kernel
theorem dL_isStep_712 : decode cL_isStep 712 = .ok (.iconst 0, 1) := by decide +kernel
theorem dL_isStep_713 : decode cL_isStep 713 = .ok (.ireturn, 1) := by decide +kernel
theorem dL_isStep_714 : decode cL_isStep 714 = .ok (.iload 6, 2) := by decide +kernel
theorem dL_isStep_716 : decode cL_isStep 716 = .ok (.ifCond .ne 28, 3) := by decide +kernel
theorem dL_isStep_719 : decode cL_isStep 719 = .ok (.aload_n 0, 1) := by decide +kernel
theorem dL_isStep_720 : decode cL_isStep 720 = .ok (.iconst 0, 1) := by decide +kernel
theorem dL_isStep_721 : decode cL_isStep 721 = .ok (.invokevirtual 54, 3) := by decide +kernel
theorem dL_isStep_724 : decode cL_isStep 724 = .ok (.iload 5, 2) := by decide +kernel
theorem dL_isStep_726 : decode cL_isStep 726 = .ok (.ifCond .ne 7, 3) := by decide +kernel
theorem dL_isStep_729 : decode cL_isStep 729 = .ok (.iconst (-1), 1) := by decide +kernel
theorem dL_isStep_730 : decode cL_isStep 730 = .ok (.goto 5, 3) := by decide +kernel
theorem dL_isStep_733 : decode cL_isStep 733 = .ok (.bipush (-4), 2) := by decide +kernel
theorem dL_isStep_735 : decode cL_isStep 735 = .ok (.if_icmp .ne 7, 3) := by decide +kernel
theorem dL_isStep_738 : decode cL_isStep 738 = .ok (.iconst 1, 1) := by decide +kernel
theorem dL_isStep_739 : decode cL_isStep 739 = .ok (.goto 4, 3) := by decide +kernel
theorem dL_isStep_742 : decode cL_isStep 742 = .ok (.iconst 0, 1) := by decide +kernel
theorem dL_isStep_743 : decode cL_isStep 743 = .ok (.ireturn, 1) := by decide +kernel
theorem dL_isStep_744 : decode cL_isStep 744 = .ok (.iload_n 3, 1) := by decide +kernel
theorem dL_isStep_745 : decode cL_isStep 745 = .ok (.iload 6, 2) := by decide +kernel
theorem dL_isStep_747 : decode cL_isStep 747 = .ok (.invokestatic 15, 3) := by decide +kernel
theorem dL_isStep_750 : decode cL_isStep 750 = .ok (.istore 9, 2) := by decide +kernel
theorem dL_isStep_752 : decode cL_isStep 752 = .ok (.aload_n 0, 1) := by decide +kernel
theorem dL_isStep_753 : decode cL_isStep 753 = .ok (.iload 9, 2) := by decide +kernel
theorem dL_isStep_755 : decode cL_isStep 755 = .ok (.iconst 3, 1) := by decide +kernel
theorem dL_isStep_756 : decode cL_isStep 756 = .ok (.invokevirtual 32, 3) := by decide +kernel
theorem dL_isStep_759 : decode cL_isStep 759 = .ok (.istore 10, 2) := by decide +kernel
theorem dL_isStep_761 : decode cL_isStep 761 = .ok (.aload_n 0, 1) := by decide +kernel
theorem dL_isStep_762 : decode cL_isStep 762 = .ok (.bipush 9, 2) := by decide +kernel
theorem dL_isStep_764 : decode cL_isStep 764 = .ok (.invokevirtual 9, 3) := by decide +kernel
theorem dL_isStep_767 : decode cL_isStep 767 = .ok (.aload_n 0, 1) := by decide +kernel
theorem dL_isStep_768 : decode cL_isStep 768 = .ok (.bipush 10, 2) := by decide +kernel
theorem dL_isStep_770 : decode cL_isStep 770 = .ok (.invokevirtual 9, 3) := by decide +kernel
theorem dL_isStep_773 : decode cL_isStep 773 = .ok (.iadd, 1) := by decide +kernel
theorem dL_isStep_774 : decode cL_isStep 774 = .ok (.aload_n 0, 1) := by decide +kernel
theorem dL_isStep_775 : decode cL_isStep 775 = .ok (.bipush 11, 2) := by decide +kernel
theorem dL_isStep_777 : decode cL_isStep 777 = .ok (.invokevirtual 9, 3) := by decide +kernel
theorem dL_isStep_780 : decode cL_isStep 780 = .ok (.iadd, 1) := by decide +kernel
theorem dL_isStep_781 : decode cL_isStep 781 = .ok (.istore 11, 2) := by decide +kernel
theorem dL_isStep_783 : decode cL_isStep 783 = .ok (.aload_n 0, 1) := by decide +kernel
theorem dL_isStep_784 : decode cL_isStep 784 = .ok (.iload 9, 2) := by decide +kernel
theorem dL_isStep_786 : decode cL_isStep 786 = .ok (.invokevirtual 54, 3) := by decide +kernel
theorem dL_isStep_789 : decode cL_isStep 789 = .ok (.istore 12, 2) := by decide +kernel
theorem dL_isStep_791 : decode cL_isStep 791 = .ok (.aload_n 0, 1) := by decide +kernel
theorem dL_isStep_792 : decode cL_isStep 792 = .ok (.bipush 9, 2) := by decide +kernel
theorem dL_isStep_794 : decode cL_isStep 794 = .ok (.invokevirtual 9, 3) := by decide +kernel
theorem dL_isStep_797 : decode cL_isStep 797 = .ok (.aload_n 0, 1) := by decide +kernel
theorem dL_isStep_798 : decode cL_isStep 798 = .ok (.bipush 10, 2) := by decide +kernel
theorem dL_isStep_800 : decode cL_isStep 800 = .ok (.invokevirtual 9, 3) := by decide +kernel
theorem dL_isStep_803 : decode cL_isStep 803 = .ok (.iadd, 1) := by decide +kernel
theorem dL_isStep_804 : decode cL_isStep 804 = .ok (.aload_n 0, 1) := by decide +kernel
theorem dL_isStep_805 : decode cL_isStep 805 = .ok (.bipush 11, 2) := by decide +kernel
theorem dL_isStep_807 : decode cL_isStep 807 = .ok (.invokevirtual 9, 3) := by decide +kernel
theorem dL_isStep_810 : decode cL_isStep 810 = .ok (.iadd, 1) := by decide +kernel
theorem dL_isStep_811 : decode cL_isStep 811 = .ok (.iload 11, 2) := by decide +kernel
theorem dL_isStep_813 : decode cL_isStep 813 = .ok (.iconst 1, 1) := by decide +kernel
theorem dL_isStep_814 : decode cL_isStep 814 = .ok (.iadd, 1) := by decide +kernel
theorem dL_isStep_815 : decode cL_isStep 815 = .ok (.if_icmp .ne 69, 3) := by decide +kernel
theorem dL_isStep_818 : decode cL_isStep 818 = .ok (.iload 10, 2) := by decide +kernel
theorem dL_isStep_820 : decode cL_isStep 820 = .ok (.ifCond .lt 36, 3) := by decide +kernel
theorem dL_isStep_823 : decode cL_isStep 823 = .ok (.iload 12, 2) := by decide +kernel
theorem dL_isStep_825 : decode cL_isStep 825 = .ok (.iconst 2, 1) := by decide +kernel
theorem dL_isStep_826 : decode cL_isStep 826 = .ok (.if_icmp .ge 58, 3) := by decide +kernel
theorem dL_isStep_829 : decode cL_isStep 829 = .ok (.aload_n 0, 1) := by decide +kernel
theorem dL_isStep_830 : decode cL_isStep 830 = .ok (.iload 10, 2) := by decide +kernel
theorem dL_isStep_832 : decode cL_isStep 832 = .ok (.iconst 2, 1) := by decide +kernel
