/-! printed: decode rows -/
theorem dL_cell_0 : decode (am_b mL_cell) 0 = .ok (.iload_n 1, 1) := by decide +kernel
theorem dL_cell_1 : decode (am_b mL_cell) 1 = .ok (.aload_n 0, 1) := by decide +kernel
theorem dL_cell_2 : decode (am_b mL_cell) 2 = .ok (.arraylength, 1) := by decide +kernel
theorem dL_cell_3 : decode (am_b mL_cell) 3 = .ok (.if_icmp .ge 9, 3) := by decide +kernel
theorem dL_cell_6 : decode (am_b mL_cell) 6 = .ok (.aload_n 0, 1) := by decide +kernel
theorem dL_cell_7 : decode (am_b mL_cell) 7 = .ok (.iload_n 1, 1) := by decide +kernel
theorem dL_cell_8 : decode (am_b mL_cell) 8 = .ok (.iaload, 1) := by decide +kernel
theorem dL_cell_9 : decode (am_b mL_cell) 9 = .ok (.goto 15, 3) := by decide +kernel
theorem dL_cell_12 : decode (am_b mL_cell) 12 = .ok (.sipush 7919, 3) := by decide +kernel
theorem dL_cell_15 : decode (am_b mL_cell) 15 = .ok (.iload_n 1, 1) := by decide +kernel
theorem dL_cell_16 : decode (am_b mL_cell) 16 = .ok (.iconst 3, 1) := by decide +kernel
theorem dL_cell_17 : decode (am_b mL_cell) 17 = .ok (.iadd, 1) := by decide +kernel
theorem dL_cell_18 : decode (am_b mL_cell) 18 = .ok (.imul, 1) := by decide +kernel
theorem dL_cell_19 : decode (am_b mL_cell) 19 = .ok (.iload_n 1, 1) := by decide +kernel
theorem dL_cell_20 : decode (am_b mL_cell) 20 = .ok (.bipush 11, 2) := by decide +kernel
theorem dL_cell_22 : decode (am_b mL_cell) 22 = .ok (.iadd, 1) := by decide +kernel
theorem dL_cell_23 : decode (am_b mL_cell) 23 = .ok (.imul, 1) := by decide +kernel
theorem dL_cell_24 : decode (am_b mL_cell) 24 = .ok (.ireturn, 1) := by decide +kernel
theorem dL_low_0 : decode (am_b mL_low) 0 = .ok (.iload_n 0, 1) := by decide +kernel
theorem dL_low_1 : decode (am_b mL_low) 1 = .ok (.ldc 7, 2) := by decide +kernel
theorem dL_low_3 : decode (am_b mL_low) 3 = .ok (.iand, 1) := by decide +kernel
theorem dL_low_4 : decode (am_b mL_low) 4 = .ok (.iload_n 1, 1) := by decide +kernel
theorem dL_low_5 : decode (am_b mL_low) 5 = .ok (.irem, 1) := by decide +kernel
theorem dL_low_6 : decode (am_b mL_low) 6 = .ok (.ireturn, 1) := by decide +kernel
theorem dL_arePitches_0 : decode (am_b mL_arePitches) 0 = .ok (.iconst 0, 1) := by decide +kernel
theorem dL_arePitches_1 : decode (am_b mL_arePitches) 1 = .ok (.istore_n 1, 1) := by decide +kernel
theorem dL_arePitches_2 : decode (am_b mL_arePitches) 2 = .ok (.iconst 0, 1) := by decide +kernel
theorem dL_arePitches_3 : decode (am_b mL_arePitches) 3 = .ok (.istore_n 2, 1) := by decide +kernel
theorem dL_arePitches_4 : decode (am_b mL_arePitches) 4 = .ok (.iconst 0, 1) := by decide +kernel
theorem dL_arePitches_5 : decode (am_b mL_arePitches) 5 = .ok (.istore_n 3, 1) := by decide +kernel
theorem dL_arePitches_6 : decode (am_b mL_arePitches) 6 = .ok (.iload_n 3, 1) := by decide +kernel
theorem dL_arePitches_7 : decode (am_b mL_arePitches) 7 = .ok (.bipush 12, 2) := by decide +kernel
theorem dL_arePitches_9 : decode (am_b mL_arePitches) 9 = .ok (.if_icmp .ge 184, 3) := by decide +kernel
theorem dL_arePitches_12 : decode (am_b mL_arePitches) 12 = .ok (.aload_n 0, 1) := by decide +kernel
theorem dL_arePitches_13 : decode (am_b mL_arePitches) 13 = .ok (.iload_n 3, 1) := by decide +kernel
theorem dL_arePitches_14 : decode (am_b mL_arePitches) 14 = .ok (.iconst 1, 1) := by decide +kernel
theorem dL_arePitches_15 : decode (am_b mL_arePitches) 15 = .ok (.invokevirtual 8, 3) := by decide +kernel
theorem dL_arePitches_18 : decode (am_b mL_arePitches) 18 = .ok (.istore 4, 2) := by decide +kernel
theorem dL_arePitches_20 : decode (am_b mL_arePitches) 20 = .ok (.iconst 1, 1) := by decide +kernel
theorem dL_arePitches_21 : decode (am_b mL_arePitches) 21 = .ok (.istore 5, 2) := by decide +kernel
theorem dL_arePitches_23 : decode (am_b mL_arePitches) 23 = .ok (.iconst 0, 1) := by decide +kernel
theorem dL_arePitches_24 : decode (am_b mL_arePitches) 24 = .ok (.istore 6, 2) := by decide +kernel
theorem dL_arePitches_26 : decode (am_b mL_arePitches) 26 = .ok (.iload 6, 2) := by decide +kernel
theorem dL_arePitches_28 : decode (am_b mL_arePitches) 28 = .ok (.aload_n 0, 1) := by decide +kernel
theorem dL_arePitches_29 : decode (am_b mL_arePitches) 29 = .ok (.bipush 7, 2) := by decide +kernel
theorem dL_arePitches_31 : decode (am_b mL_arePitches) 31 = .ok (.invokevirtual 14, 3) := by decide +kernel
theorem dL_arePitches_34 : decode (am_b mL_arePitches) 34 = .ok (.if_icmp .ge 106, 3) := by decide +kernel
theorem dL_arePitches_37 : decode (am_b mL_arePitches) 37 = .ok (.iload 6, 2) := by decide +kernel
theorem dL_arePitches_39 : decode (am_b mL_arePitches) 39 = .ok (.bipush 8, 2) := by decide +kernel
theorem dL_arePitches_41 : decode (am_b mL_arePitches) 41 = .ok (.if_icmp .ge 99, 3) := by decide +kernel
theorem dL_arePitches_44 : decode (am_b mL_arePitches) 44 = .ok (.aload_n 0, 1) := by decide +kernel
theorem dL_arePitches_45 : decode (am_b mL_arePitches) 45 = .ok (.iload 6, 2) := by decide +kernel
theorem dL_arePitches_47 : decode (am_b mL_arePitches) 47 = .ok (.iconst 1, 1) := by decide +kernel
theorem dL_arePitches_48 : decode (am_b mL_arePitches) 48 = .ok (.invokevirtual 18, 3) := by decide +kernel
theorem dL_arePitches_51 : decode (am_b mL_arePitches) 51 = .ok (.istore 7, 2) := by decide +kernel
theorem dL_arePitches_53 : decode (am_b mL_arePitches) 53 = .ok (.iload 7, 2) := by decide +kernel
theorem dL_arePitches_55 : decode (am_b mL_arePitches) 55 = .ok (.iload_n 3, 1) := by decide +kernel
theorem dL_arePitches_56 : decode (am_b mL_arePitches) 56 = .ok (.if_icmp .ge 10, 3) := by decide +kernel
theorem dL_arePitches_59 : decode (am_b mL_arePitches) 59 = .ok (.iload_n 3, 1) := by decide +kernel
theorem dL_arePitches_60 : decode (am_b mL_arePitches) 60 = .ok (.iload 7, 2) := by decide +kernel
theorem dL_arePitches_62 : decode (am_b mL_arePitches) 62 = .ok (.isub, 1) := by decide +kernel
theorem dL_arePitches_63 : decode (am_b mL_arePitches) 63 = .ok (.goto 7, 3) := by decide +kernel
theorem dL_arePitches_66 : decode (am_b mL_arePitches) 66 = .ok (.iload 7, 2) := by decide +kernel
theorem dL_arePitches_68 : decode (am_b mL_arePitches) 68 = .ok (.iload_n 3, 1) := by decide +kernel
theorem dL_arePitches_69 : decode (am_b mL_arePitches) 69 = .ok (.isub, 1) := by decide +kernel
theorem dL_arePitches_70 : decode (am_b mL_arePitches) 70 = .ok (.istore 8, 2) := by decide +kernel
theorem dL_arePitches_72 : decode (am_b mL_arePitches) 72 = .ok (.iload 5, 2) := by decide +kernel
theorem dL_arePitches_74 : decode (am_b mL_arePitches) 74 = .ok (.ifCond .eq 29, 3) := by decide +kernel
theorem dL_arePitches_77 : decode (am_b mL_arePitches) 77 = .ok (.iload 7, 2) := by decide +kernel
theorem dL_arePitches_79 : decode (am_b mL_arePitches) 79 = .ok (.bipush (-6), 2) := by decide +kernel
theorem dL_arePitches_81 : decode (am_b mL_arePitches) 81 = .ok (.if_icmp .eq 18, 3) := by decide +kernel
theorem dL_arePitches_84 : decode (am_b mL_arePitches) 84 = .ok (.iload 8, 2) := by decide +kernel
theorem dL_arePitches_86 : decode (am_b mL_arePitches) 86 = .ok (.ifCond .le 17, 3) := by decide +kernel
theorem dL_arePitches_89 : decode (am_b mL_arePitches) 89 = .ok (.iload 8, 2) := by decide +kernel
theorem dL_arePitches_91 : decode (am_b mL_arePitches) 91 = .ok (.aload_n 0, 1) := by decide +kernel
theorem dL_arePitches_92 : decode (am_b mL_arePitches) 92 = .ok (.iconst 4, 1) := by decide +kernel
theorem dL_arePitches_93 : decode (am_b mL_arePitches) 93 = .ok (.invokevirtual 14, 3) := by decide +kernel
theorem dL_arePitches_96 : decode (am_b mL_arePitches) 96 = .ok (.if_icmp .le 7, 3) := by decide +kernel
theorem dL_arePitches_99 : decode (am_b mL_arePitches) 99 = .ok (.iconst 1, 1) := by decide +kernel
theorem dL_arePitches_100 : decode (am_b mL_arePitches) 100 = .ok (.goto 4, 3) := by decide +kernel
theorem dL_arePitches_103 : decode (am_b mL_arePitches) 103 = .ok (.iconst 0, 1) := by decide +kernel
theorem dL_arePitches_104 : decode (am_b mL_arePitches) 104 = .ok (.istore 5, 2) := by decide +kernel
theorem dL_arePitches_106 : decode (am_b mL_arePitches) 106 = .ok (.iload 7, 2) := by decide +kernel
theorem dL_arePitches_108 : decode (am_b mL_arePitches) 108 = .ok (.iload_n 3, 1) := by decide +kernel
theorem dL_arePitches_109 : decode (am_b mL_arePitches) 109 = .ok (.if_icmp .ne 7, 3) := by decide +kernel
theorem dL_arePitches_112 : decode (am_b mL_arePitches) 112 = .ok (.iconst 1, 1) := by decide +kernel
theorem dL_arePitches_113 : decode (am_b mL_arePitches) 113 = .ok (.goto 4, 3) := by decide +kernel
theorem dL_arePitches_116 : decode (am_b mL_arePitches) 116 = .ok (.iconst 0, 1) := by decide +kernel
theorem dL_arePitches_117 : decode (am_b mL_arePitches) 117 = .ok (.iload 4, 2) := by decide +kernel
theorem dL_arePitches_119 : decode (am_b mL_arePitches) 119 = .ok (.iload 6, 2) := by decide +kernel
theorem dL_arePitches_121 : decode (am_b mL_arePitches) 121 = .ok (.if_icmp .ne 7, 3) := by decide +kernel
theorem dL_arePitches_124 : decode (am_b mL_arePitches) 124 = .ok (.iconst 1, 1) := by decide +kernel
theorem dL_arePitches_125 : decode (am_b mL_arePitches) 125 = .ok (.goto 4, 3) := by decide +kernel
theorem dL_arePitches_128 : decode (am_b mL_arePitches) 128 = .ok (.iconst 0, 1) := by decide +kernel
theorem dL_arePitches_129 : decode (am_b mL_arePitches) 129 = .ok (.if_icmp .eq 5, 3) := by decide +kernel
theorem dL_arePitches_132 : decode (am_b mL_arePitches) 132 = .ok (.iconst 0, 1) := by decide +kernel
theorem dL_arePitches_133 : decode (am_b mL_arePitches) 133 = .ok (.ireturn, 1) := by decide +kernel
theorem dL_arePitches_134 : decode (am_b mL_arePitches) 134 = .ok (.iinc 6 1, 3) := by decide +kernel
theorem dL_arePitches_137 : decode (am_b mL_arePitches) 137 = .ok (.goto (-111), 3) := by decide +kernel
theorem dL_arePitches_140 : decode (am_b mL_arePitches) 140 = .ok (.iload_n 1, 1) := by decide +kernel
theorem dL_arePitches_141 : decode (am_b mL_arePitches) 141 = .ok (.iload 4, 2) := by decide +kernel
theorem dL_arePitches_143 : decode (am_b mL_arePitches) 143 = .ok (.bipush (-6), 2) := by decide +kernel
theorem dL_arePitches_145 : decode (am_b mL_arePitches) 145 = .ok (.if_icmp .ne 7, 3) := by decide +kernel
theorem dL_arePitches_148 : decode (am_b mL_arePitches) 148 = .ok (.iconst 0, 1) := by decide +kernel
theorem dL_arePitches_149 : decode (am_b mL_arePitches) 149 = .ok (.goto 4, 3) := by decide +kernel
theorem dL_arePitches_152 : decode (am_b mL_arePitches) 152 = .ok (.iconst 1, 1) := by decide +kernel
theorem dL_arePitches_153 : decode (am_b mL_arePitches) 153 = .ok (.iadd, 1) := by decide +kernel
theorem dL_arePitches_154 : decode (am_b mL_arePitches) 154 = .ok (.istore_n 1, 1) := by decide +kernel
theorem dL_arePitches_155 : decode (am_b mL_arePitches) 155 = .ok (.iload_n 2, 1) := by decide +kernel
theorem dL_arePitches_156 : decode (am_b mL_arePitches) 156 = .ok (.aload_n 0, 1) := by decide +kernel
theorem dL_arePitches_157 : decode (am_b mL_arePitches) 157 = .ok (.iload_n 3, 1) := by decide +kernel
theorem dL_arePitches_158 : decode (am_b mL_arePitches) 158 = .ok (.iconst 0, 1) := by decide +kernel
theorem dL_arePitches_159 : decode (am_b mL_arePitches) 159 = .ok (.invokevirtual 8, 3) := by decide +kernel
theorem dL_arePitches_162 : decode (am_b mL_arePitches) 162 = .ok (.iload_n 3, 1) := by decide +kernel
theorem dL_arePitches_163 : decode (am_b mL_arePitches) 163 = .ok (.ishl, 1) := by decide +kernel
theorem dL_arePitches_164 : decode (am_b mL_arePitches) 164 = .ok (.ior, 1) := by decide +kernel
theorem dL_arePitches_165 : decode (am_b mL_arePitches) 165 = .ok (.istore_n 2, 1) := by decide +kernel
theorem dL_arePitches_166 : decode (am_b mL_arePitches) 166 = .ok (.aload_n 0, 1) := by decide +kernel
theorem dL_arePitches_167 : decode (am_b mL_arePitches) 167 = .ok (.iload_n 3, 1) := by decide +kernel
theorem dL_arePitches_168 : decode (am_b mL_arePitches) 168 = .ok (.iconst 2, 1) := by decide +kernel
theorem dL_arePitches_169 : decode (am_b mL_arePitches) 169 = .ok (.invokevirtual 8, 3) := by decide +kernel
theorem dL_arePitches_172 : decode (am_b mL_arePitches) 172 = .ok (.iload 5, 2) := by decide +kernel
theorem dL_arePitches_174 : decode (am_b mL_arePitches) 174 = .ok (.ifCond .eq 7, 3) := by decide +kernel
theorem dL_arePitches_177 : decode (am_b mL_arePitches) 177 = .ok (.iconst 1, 1) := by decide +kernel
theorem dL_arePitches_178 : decode (am_b mL_arePitches) 178 = .ok (.goto 4, 3) := by decide +kernel
theorem dL_arePitches_181 : decode (am_b mL_arePitches) 181 = .ok (.iconst 0, 1) := by decide +kernel
theorem dL_arePitches_182 : decode (am_b mL_arePitches) 182 = .ok (.if_icmp .eq 5, 3) := by decide +kernel
theorem dL_arePitches_185 : decode (am_b mL_arePitches) 185 = .ok (.iconst 0, 1) := by decide +kernel
theorem dL_arePitches_186 : decode (am_b mL_arePitches) 186 = .ok (.ireturn, 1) := by decide +kernel
theorem dL_arePitches_187 : decode (am_b mL_arePitches) 187 = .ok (.iinc 3 1, 3) := by decide +kernel
theorem dL_arePitches_190 : decode (am_b mL_arePitches) 190 = .ok (.goto (-184), 3) := by decide +kernel
theorem dL_arePitches_193 : decode (am_b mL_arePitches) 193 = .ok (.aload_n 0, 1) := by decide +kernel
theorem dL_arePitches_194 : decode (am_b mL_arePitches) 194 = .ok (.bipush 8, 2) := by decide +kernel
theorem dL_arePitches_196 : decode (am_b mL_arePitches) 196 = .ok (.invokevirtual 14, 3) := by decide +kernel
theorem dL_arePitches_199 : decode (am_b mL_arePitches) 199 = .ok (.iload_n 1, 1) := by decide +kernel
theorem dL_arePitches_200 : decode (am_b mL_arePitches) 200 = .ok (.if_icmp .ne 38, 3) := by decide +kernel
theorem dL_arePitches_203 : decode (am_b mL_arePitches) 203 = .ok (.aload_n 0, 1) := by decide +kernel
theorem dL_arePitches_204 : decode (am_b mL_arePitches) 204 = .ok (.bipush 9, 2) := by decide +kernel
theorem dL_arePitches_206 : decode (am_b mL_arePitches) 206 = .ok (.invokevirtual 14, 3) := by decide +kernel
theorem dL_arePitches_209 : decode (am_b mL_arePitches) 209 = .ok (.iload_n 2, 1) := by decide +kernel
theorem dL_arePitches_210 : decode (am_b mL_arePitches) 210 = .ok (.if_icmp .ne 28, 3) := by decide +kernel
theorem dL_arePitches_213 : decode (am_b mL_arePitches) 213 = .ok (.aload_n 0, 1) := by decide +kernel
theorem dL_arePitches_214 : decode (am_b mL_arePitches) 214 = .ok (.bipush 12, 2) := by decide +kernel
theorem dL_arePitches_216 : decode (am_b mL_arePitches) 216 = .ok (.iconst 0, 1) := by decide +kernel
theorem dL_arePitches_217 : decode (am_b mL_arePitches) 217 = .ok (.invokevirtual 8, 3) := by decide +kernel
theorem dL_arePitches_220 : decode (am_b mL_arePitches) 220 = .ok (.iconst (-1), 1) := by decide +kernel
theorem dL_arePitches_221 : decode (am_b mL_arePitches) 221 = .ok (.if_icmp .ne 17, 3) := by decide +kernel
theorem dL_arePitches_224 : decode (am_b mL_arePitches) 224 = .ok (.aload_n 0, 1) := by decide +kernel
theorem dL_arePitches_225 : decode (am_b mL_arePitches) 225 = .ok (.iconst (-1), 1) := by decide +kernel
theorem dL_arePitches_226 : decode (am_b mL_arePitches) 226 = .ok (.iconst 0, 1) := by decide +kernel
theorem dL_arePitches_227 : decode (am_b mL_arePitches) 227 = .ok (.invokevirtual 8, 3) := by decide +kernel
theorem dL_arePitches_230 : decode (am_b mL_arePitches) 230 = .ok (.iconst (-1), 1) := by decide +kernel
theorem dL_arePitches_231 : decode (am_b mL_arePitches) 231 = .ok (.if_icmp .ne 7, 3) := by decide +kernel
theorem dL_arePitches_234 : decode (am_b mL_arePitches) 234 = .ok (.iconst 1, 1) := by decide +kernel
theorem dL_arePitches_235 : decode (am_b mL_arePitches) 235 = .ok (.goto 4, 3) := by decide +kernel
theorem dL_arePitches_238 : decode (am_b mL_arePitches) 238 = .ok (.iconst 0, 1) := by decide +kernel
theorem dL_arePitches_239 : decode (am_b mL_arePitches) 239 = .ok (.ireturn, 1) := by decide +kernel
theorem dL_goes_0 : decode (am_b mL_goes) 0 = .ok (.aload_n 0, 1) := by decide +kernel
theorem dL_goes_1 : decode (am_b mL_goes) 1 = .ok (.iload_n 1, 1) := by decide +kernel
theorem dL_goes_2 : decode (am_b mL_goes) 2 = .ok (.invokevirtual 14, 3) := by decide +kernel
theorem dL_goes_5 : decode (am_b mL_goes) 5 = .ok (.istore_n 2, 1) := by decide +kernel
theorem dL_goes_6 : decode (am_b mL_goes) 6 = .ok (.iconst 0, 1) := by decide +kernel
theorem dL_goes_7 : decode (am_b mL_goes) 7 = .ok (.istore_n 3, 1) := by decide +kernel
theorem dL_goes_8 : decode (am_b mL_goes) 8 = .ok (.iconst 0, 1) := by decide +kernel
theorem dL_goes_9 : decode (am_b mL_goes) 9 = .ok (.istore 4, 2) := by decide +kernel
theorem dL_goes_11 : decode (am_b mL_goes) 11 = .ok (.iload 4, 2) := by decide +kernel
theorem dL_goes_13 : decode (am_b mL_goes) 13 = .ok (.bipush 12, 2) := by decide +kernel
theorem dL_goes_15 : decode (am_b mL_goes) 15 = .ok (.if_icmp .ge 154, 3) := by decide +kernel
theorem dL_goes_18 : decode (am_b mL_goes) 18 = .ok (.aload_n 0, 1) := by decide +kernel
theorem dL_goes_19 : decode (am_b mL_goes) 19 = .ok (.iload_n 1, 1) := by decide +kernel
theorem dL_goes_20 : decode (am_b mL_goes) 20 = .ok (.ifCond .ne 8, 3) := by decide +kernel
theorem dL_goes_23 : decode (am_b mL_goes) 23 = .ok (.iload 4, 2) := by decide +kernel
theorem dL_goes_25 : decode (am_b mL_goes) 25 = .ok (.goto 8, 3) := by decide +kernel
theorem dL_goes_28 : decode (am_b mL_goes) 28 = .ok (.bipush 11, 2) := by decide +kernel
theorem dL_goes_30 : decode (am_b mL_goes) 30 = .ok (.iload 4, 2) := by decide +kernel
theorem dL_goes_32 : decode (am_b mL_goes) 32 = .ok (.isub, 1) := by decide +kernel
theorem dL_goes_33 : decode (am_b mL_goes) 33 = .ok (.iconst 1, 1) := by decide +kernel
theorem dL_goes_34 : decode (am_b mL_goes) 34 = .ok (.invokevirtual 8, 3) := by decide +kernel
theorem dL_goes_37 : decode (am_b mL_goes) 37 = .ok (.istore 5, 2) := by decide +kernel
theorem dL_goes_39 : decode (am_b mL_goes) 39 = .ok (.iload 5, 2) := by decide +kernel
theorem dL_goes_41 : decode (am_b mL_goes) 41 = .ok (.ifCond .lt 122, 3) := by decide +kernel
theorem dL_goes_44 : decode (am_b mL_goes) 44 = .ok (.aload_n 0, 1) := by decide +kernel
theorem dL_goes_45 : decode (am_b mL_goes) 45 = .ok (.iload 5, 2) := by decide +kernel
theorem dL_goes_47 : decode (am_b mL_goes) 47 = .ok (.iconst 0, 1) := by decide +kernel
theorem dL_goes_48 : decode (am_b mL_goes) 48 = .ok (.invokevirtual 18, 3) := by decide +kernel
theorem dL_goes_51 : decode (am_b mL_goes) 51 = .ok (.iload_n 3, 1) := by decide +kernel
theorem dL_goes_52 : decode (am_b mL_goes) 52 = .ok (.if_icmp .le 7, 3) := by decide +kernel
theorem dL_goes_55 : decode (am_b mL_goes) 55 = .ok (.iconst 1, 1) := by decide +kernel
theorem dL_goes_56 : decode (am_b mL_goes) 56 = .ok (.goto 4, 3) := by decide +kernel
theorem dL_goes_59 : decode (am_b mL_goes) 59 = .ok (.iconst 0, 1) := by decide +kernel
theorem dL_goes_60 : decode (am_b mL_goes) 60 = .ok (.istore 6, 2) := by decide +kernel
theorem dL_goes_62 : decode (am_b mL_goes) 62 = .ok (.iload 6, 2) := by decide +kernel
theorem dL_goes_64 : decode (am_b mL_goes) 64 = .ok (.ifCond .eq 16, 3) := by decide +kernel
theorem dL_goes_67 : decode (am_b mL_goes) 67 = .ok (.iload_n 2, 1) := by decide +kernel
theorem dL_goes_68 : decode (am_b mL_goes) 68 = .ok (.aload_n 0, 1) := by decide +kernel
theorem dL_goes_69 : decode (am_b mL_goes) 69 = .ok (.iconst 2, 1) := by decide +kernel
theorem dL_goes_70 : decode (am_b mL_goes) 70 = .ok (.invokevirtual 14, 3) := by decide +kernel
theorem dL_goes_73 : decode (am_b mL_goes) 73 = .ok (.imul, 1) := by decide +kernel
theorem dL_goes_74 : decode (am_b mL_goes) 74 = .ok (.bipush 100, 2) := by decide +kernel
theorem dL_goes_76 : decode (am_b mL_goes) 76 = .ok (.idiv, 1) := by decide +kernel
theorem dL_goes_77 : decode (am_b mL_goes) 77 = .ok (.goto 4, 3) := by decide +kernel
theorem dL_goes_80 : decode (am_b mL_goes) 80 = .ok (.iconst 0, 1) := by decide +kernel
theorem dL_goes_81 : decode (am_b mL_goes) 81 = .ok (.istore 7, 2) := by decide +kernel
theorem dL_goes_83 : decode (am_b mL_goes) 83 = .ok (.iload 6, 2) := by decide +kernel
theorem dL_goes_85 : decode (am_b mL_goes) 85 = .ok (.ifCond .eq 13, 3) := by decide +kernel
theorem dL_goes_88 : decode (am_b mL_goes) 88 = .ok (.aload_n 0, 1) := by decide +kernel
theorem dL_goes_89 : decode (am_b mL_goes) 89 = .ok (.iload 5, 2) := by decide +kernel
theorem dL_goes_91 : decode (am_b mL_goes) 91 = .ok (.iconst 0, 1) := by decide +kernel
theorem dL_goes_92 : decode (am_b mL_goes) 92 = .ok (.invokevirtual 18, 3) := by decide +kernel
theorem dL_goes_95 : decode (am_b mL_goes) 95 = .ok (.goto 4, 3) := by decide +kernel
theorem dL_goes_98 : decode (am_b mL_goes) 98 = .ok (.iload_n 3, 1) := by decide +kernel
theorem dL_goes_99 : decode (am_b mL_goes) 99 = .ok (.istore_n 3, 1) := by decide +kernel
theorem dL_goes_100 : decode (am_b mL_goes) 100 = .ok (.iload_n 2, 1) := by decide +kernel
theorem dL_goes_101 : decode (am_b mL_goes) 101 = .ok (.iload 7, 2) := by decide +kernel
theorem dL_goes_103 : decode (am_b mL_goes) 103 = .ok (.isub, 1) := by decide +kernel
theorem dL_goes_104 : decode (am_b mL_goes) 104 = .ok (.istore_n 2, 1) := by decide +kernel
theorem dL_goes_105 : decode (am_b mL_goes) 105 = .ok (.aload_n 0, 1) := by decide +kernel
theorem dL_goes_106 : decode (am_b mL_goes) 106 = .ok (.iload 5, 2) := by decide +kernel
theorem dL_goes_108 : decode (am_b mL_goes) 108 = .ok (.iconst 3, 1) := by decide +kernel
theorem dL_goes_109 : decode (am_b mL_goes) 109 = .ok (.iload_n 1, 1) := by decide +kernel
theorem dL_goes_110 : decode (am_b mL_goes) 110 = .ok (.iadd, 1) := by decide +kernel
theorem dL_goes_111 : decode (am_b mL_goes) 111 = .ok (.invokevirtual 18, 3) := by decide +kernel
theorem dL_goes_114 : decode (am_b mL_goes) 114 = .ok (.iload 7, 2) := by decide +kernel
theorem dL_goes_116 : decode (am_b mL_goes) 116 = .ok (.if_icmp .ne 45, 3) := by decide +kernel
theorem dL_goes_119 : decode (am_b mL_goes) 119 = .ok (.aload_n 0, 1) := by decide +kernel
theorem dL_goes_120 : decode (am_b mL_goes) 120 = .ok (.iload 5, 2) := by decide +kernel
theorem dL_goes_122 : decode (am_b mL_goes) 122 = .ok (.iload_n 1, 1) := by decide +kernel
theorem dL_goes_123 : decode (am_b mL_goes) 123 = .ok (.iconst 0, 1) := by decide +kernel
theorem dL_goes_124 : decode (am_b mL_goes) 124 = .ok (.invokevirtual 21, 3) := by decide +kernel
theorem dL_goes_127 : decode (am_b mL_goes) 127 = .ok (.iload 6, 2) := by decide +kernel
theorem dL_goes_129 : decode (am_b mL_goes) 129 = .ok (.ifCond .eq 7, 3) := by decide +kernel
theorem dL_goes_132 : decode (am_b mL_goes) 132 = .ok (.iconst 1, 1) := by decide +kernel
theorem dL_goes_133 : decode (am_b mL_goes) 133 = .ok (.goto 4, 3) := by decide +kernel
theorem dL_goes_136 : decode (am_b mL_goes) 136 = .ok (.iconst 0, 1) := by decide +kernel
theorem dL_goes_137 : decode (am_b mL_goes) 137 = .ok (.if_icmp .ne 24, 3) := by decide +kernel
theorem dL_goes_140 : decode (am_b mL_goes) 140 = .ok (.aload_n 0, 1) := by decide +kernel
theorem dL_goes_141 : decode (am_b mL_goes) 141 = .ok (.iload 5, 2) := by decide +kernel
theorem dL_goes_143 : decode (am_b mL_goes) 143 = .ok (.iload_n 1, 1) := by decide +kernel
theorem dL_goes_144 : decode (am_b mL_goes) 144 = .ok (.iconst 1, 1) := by decide +kernel
theorem dL_goes_145 : decode (am_b mL_goes) 145 = .ok (.invokevirtual 21, 3) := by decide +kernel
theorem dL_goes_148 : decode (am_b mL_goes) 148 = .ok (.iload 6, 2) := by decide +kernel
theorem dL_goes_150 : decode (am_b mL_goes) 150 = .ok (.ifCond .eq 7, 3) := by decide +kernel
theorem dL_goes_153 : decode (am_b mL_goes) 153 = .ok (.iconst 1, 1) := by decide +kernel
theorem dL_goes_154 : decode (am_b mL_goes) 154 = .ok (.goto 4, 3) := by decide +kernel
theorem dL_goes_157 : decode (am_b mL_goes) 157 = .ok (.iconst 0, 1) := by decide +kernel
theorem dL_goes_158 : decode (am_b mL_goes) 158 = .ok (.if_icmp .eq 5, 3) := by decide +kernel
theorem dL_goes_161 : decode (am_b mL_goes) 161 = .ok (.iconst (-1), 1) := by decide +kernel
theorem dL_goes_162 : decode (am_b mL_goes) 162 = .ok (.ireturn, 1) := by decide +kernel
theorem dL_goes_163 : decode (am_b mL_goes) 163 = .ok (.iinc 4 1, 3) := by decide +kernel
theorem dL_goes_166 : decode (am_b mL_goes) 166 = .ok (.goto (-155), 3) := by decide +kernel
theorem dL_goes_169 : decode (am_b mL_goes) 169 = .ok (.iload_n 2, 1) := by decide +kernel
theorem dL_goes_170 : decode (am_b mL_goes) 170 = .ok (.ireturn, 1) := by decide +kernel
theorem dL_areCrowds_0 : decode (am_b mL_areCrowds) 0 = .ok (.aload_n 0, 1) := by decide +kernel
theorem dL_areCrowds_1 : decode (am_b mL_areCrowds) 1 = .ok (.iconst 0, 1) := by decide +kernel
theorem dL_areCrowds_2 : decode (am_b mL_areCrowds) 2 = .ok (.invokestatic 25, 3) := by decide +kernel
theorem dL_areCrowds_5 : decode (am_b mL_areCrowds) 5 = .ok (.istore_n 1, 1) := by decide +kernel
theorem dL_areCrowds_6 : decode (am_b mL_areCrowds) 6 = .ok (.aload_n 0, 1) := by decide +kernel
theorem dL_areCrowds_7 : decode (am_b mL_areCrowds) 7 = .ok (.iconst 1, 1) := by decide +kernel
theorem dL_areCrowds_8 : decode (am_b mL_areCrowds) 8 = .ok (.invokestatic 25, 3) := by decide +kernel
theorem dL_areCrowds_11 : decode (am_b mL_areCrowds) 11 = .ok (.istore_n 2, 1) := by decide +kernel
theorem dL_areCrowds_12 : decode (am_b mL_areCrowds) 12 = .ok (.iconst 0, 1) := by decide +kernel
theorem dL_areCrowds_13 : decode (am_b mL_areCrowds) 13 = .ok (.istore_n 3, 1) := by decide +kernel
theorem dL_areCrowds_14 : decode (am_b mL_areCrowds) 14 = .ok (.iconst 0, 1) := by decide +kernel
theorem dL_areCrowds_15 : decode (am_b mL_areCrowds) 15 = .ok (.istore 4, 2) := by decide +kernel
theorem dL_areCrowds_17 : decode (am_b mL_areCrowds) 17 = .ok (.iconst 0, 1) := by decide +kernel
theorem dL_areCrowds_18 : decode (am_b mL_areCrowds) 18 = .ok (.istore 5, 2) := by decide +kernel
theorem dL_areCrowds_20 : decode (am_b mL_areCrowds) 20 = .ok (.iconst 0, 1) := by decide +kernel
theorem dL_areCrowds_21 : decode (am_b mL_areCrowds) 21 = .ok (.istore 6, 2) := by decide +kernel
theorem dL_areCrowds_23 : decode (am_b mL_areCrowds) 23 = .ok (.iload 6, 2) := by decide +kernel
theorem dL_areCrowds_25 : decode (am_b mL_areCrowds) 25 = .ok (.aload_n 0, 1) := by decide +kernel
theorem dL_areCrowds_26 : decode (am_b mL_areCrowds) 26 = .ok (.bipush 7, 2) := by decide +kernel
theorem dL_areCrowds_28 : decode (am_b mL_areCrowds) 28 = .ok (.invokevirtual 14, 3) := by decide +kernel
theorem dL_areCrowds_31 : decode (am_b mL_areCrowds) 31 = .ok (.if_icmp .ge 161, 3) := by decide +kernel
theorem dL_areCrowds_34 : decode (am_b mL_areCrowds) 34 = .ok (.iload 6, 2) := by decide +kernel
theorem dL_areCrowds_36 : decode (am_b mL_areCrowds) 36 = .ok (.bipush 8, 2) := by decide +kernel
theorem dL_areCrowds_38 : decode (am_b mL_areCrowds) 38 = .ok (.if_icmp .ge 154, 3) := by decide +kernel
theorem dL_areCrowds_41 : decode (am_b mL_areCrowds) 41 = .ok (.aload_n 0, 1) := by decide +kernel
theorem dL_areCrowds_42 : decode (am_b mL_areCrowds) 42 = .ok (.iload 6, 2) := by decide +kernel
theorem dL_areCrowds_44 : decode (am_b mL_areCrowds) 44 = .ok (.iconst 2, 1) := by decide +kernel
theorem dL_areCrowds_45 : decode (am_b mL_areCrowds) 45 = .ok (.invokevirtual 18, 3) := by decide +kernel
theorem dL_areCrowds_48 : decode (am_b mL_areCrowds) 48 = .ok (.istore 7, 2) := by decide +kernel
theorem dL_areCrowds_50 : decode (am_b mL_areCrowds) 50 = .ok (.aload_n 0, 1) := by decide +kernel
theorem dL_areCrowds_51 : decode (am_b mL_areCrowds) 51 = .ok (.iload 6, 2) := by decide +kernel
theorem dL_areCrowds_53 : decode (am_b mL_areCrowds) 53 = .ok (.iconst 1, 1) := by decide +kernel
theorem dL_areCrowds_54 : decode (am_b mL_areCrowds) 54 = .ok (.invokevirtual 18, 3) := by decide +kernel
theorem dL_areCrowds_57 : decode (am_b mL_areCrowds) 57 = .ok (.ifCond .lt 7, 3) := by decide +kernel
theorem dL_areCrowds_60 : decode (am_b mL_areCrowds) 60 = .ok (.iconst 1, 1) := by decide +kernel
theorem dL_areCrowds_61 : decode (am_b mL_areCrowds) 61 = .ok (.goto 4, 3) := by decide +kernel
theorem dL_areCrowds_64 : decode (am_b mL_areCrowds) 64 = .ok (.iconst 0, 1) := by decide +kernel
theorem dL_areCrowds_65 : decode (am_b mL_areCrowds) 65 = .ok (.istore 8, 2) := by decide +kernel
theorem dL_areCrowds_67 : decode (am_b mL_areCrowds) 67 = .ok (.iload_n 3, 1) := by decide +kernel
theorem dL_areCrowds_68 : decode (am_b mL_areCrowds) 68 = .ok (.iload 7, 2) := by decide +kernel
theorem dL_areCrowds_70 : decode (am_b mL_areCrowds) 70 = .ok (.iadd, 1) := by decide +kernel
theorem dL_areCrowds_71 : decode (am_b mL_areCrowds) 71 = .ok (.istore_n 3, 1) := by decide +kernel
theorem dL_areCrowds_72 : decode (am_b mL_areCrowds) 72 = .ok (.iload 4, 2) := by decide +kernel
theorem dL_areCrowds_74 : decode (am_b mL_areCrowds) 74 = .ok (.aload_n 0, 1) := by decide +kernel
theorem dL_areCrowds_75 : decode (am_b mL_areCrowds) 75 = .ok (.iload 6, 2) := by decide +kernel
theorem dL_areCrowds_77 : decode (am_b mL_areCrowds) 77 = .ok (.iconst 5, 1) := by decide +kernel
theorem dL_areCrowds_78 : decode (am_b mL_areCrowds) 78 = .ok (.invokevirtual 18, 3) := by decide +kernel
theorem dL_areCrowds_81 : decode (am_b mL_areCrowds) 81 = .ok (.iadd, 1) := by decide +kernel
theorem dL_areCrowds_82 : decode (am_b mL_areCrowds) 82 = .ok (.istore 4, 2) := by decide +kernel
theorem dL_areCrowds_84 : decode (am_b mL_areCrowds) 84 = .ok (.iload 5, 2) := by decide +kernel
theorem dL_areCrowds_86 : decode (am_b mL_areCrowds) 86 = .ok (.aload_n 0, 1) := by decide +kernel
theorem dL_areCrowds_87 : decode (am_b mL_areCrowds) 87 = .ok (.iload 6, 2) := by decide +kernel
theorem dL_areCrowds_89 : decode (am_b mL_areCrowds) 89 = .ok (.bipush 6, 2) := by decide +kernel
theorem dL_areCrowds_91 : decode (am_b mL_areCrowds) 91 = .ok (.invokevirtual 18, 3) := by decide +kernel
theorem dL_areCrowds_94 : decode (am_b mL_areCrowds) 94 = .ok (.iadd, 1) := by decide +kernel
theorem dL_areCrowds_95 : decode (am_b mL_areCrowds) 95 = .ok (.istore 5, 2) := by decide +kernel
theorem dL_areCrowds_97 : decode (am_b mL_areCrowds) 97 = .ok (.iload 7, 2) := by decide +kernel
theorem dL_areCrowds_99 : decode (am_b mL_areCrowds) 99 = .ok (.aload_n 0, 1) := by decide +kernel
theorem dL_areCrowds_100 : decode (am_b mL_areCrowds) 100 = .ok (.iload 6, 2) := by decide +kernel
theorem dL_areCrowds_102 : decode (am_b mL_areCrowds) 102 = .ok (.iconst 3, 1) := by decide +kernel
theorem dL_areCrowds_103 : decode (am_b mL_areCrowds) 103 = .ok (.invokevirtual 18, 3) := by decide +kernel
theorem dL_areCrowds_106 : decode (am_b mL_areCrowds) 106 = .ok (.aload_n 0, 1) := by decide +kernel
theorem dL_areCrowds_107 : decode (am_b mL_areCrowds) 107 = .ok (.iload 6, 2) := by decide +kernel
theorem dL_areCrowds_109 : decode (am_b mL_areCrowds) 109 = .ok (.iconst 4, 1) := by decide +kernel
theorem dL_areCrowds_110 : decode (am_b mL_areCrowds) 110 = .ok (.invokevirtual 18, 3) := by decide +kernel
theorem dL_areCrowds_113 : decode (am_b mL_areCrowds) 113 = .ok (.iadd, 1) := by decide +kernel
theorem dL_areCrowds_114 : decode (am_b mL_areCrowds) 114 = .ok (.if_icmp .ne 70, 3) := by decide +kernel
theorem dL_areCrowds_117 : decode (am_b mL_areCrowds) 117 = .ok (.iload 8, 2) := by decide +kernel
theorem dL_areCrowds_119 : decode (am_b mL_areCrowds) 119 = .ok (.ifCond .ne 26, 3) := by decide +kernel
theorem dL_areCrowds_122 : decode (am_b mL_areCrowds) 122 = .ok (.iload 7, 2) := by decide +kernel
theorem dL_areCrowds_124 : decode (am_b mL_areCrowds) 124 = .ok (.aload_n 0, 1) := by decide +kernel
theorem dL_areCrowds_125 : decode (am_b mL_areCrowds) 125 = .ok (.iload 6, 2) := by decide +kernel
theorem dL_areCrowds_127 : decode (am_b mL_areCrowds) 127 = .ok (.iconst 0, 1) := by decide +kernel
theorem dL_areCrowds_128 : decode (am_b mL_areCrowds) 128 = .ok (.iconst 0, 1) := by decide +kernel
theorem dL_areCrowds_129 : decode (am_b mL_areCrowds) 129 = .ok (.invokevirtual 21, 3) := by decide +kernel
theorem dL_areCrowds_132 : decode (am_b mL_areCrowds) 132 = .ok (.iadd, 1) := by decide +kernel
theorem dL_areCrowds_133 : decode (am_b mL_areCrowds) 133 = .ok (.aload_n 0, 1) := by decide +kernel
theorem dL_areCrowds_134 : decode (am_b mL_areCrowds) 134 = .ok (.iload 6, 2) := by decide +kernel
theorem dL_areCrowds_136 : decode (am_b mL_areCrowds) 136 = .ok (.iconst 1, 1) := by decide +kernel
theorem dL_areCrowds_137 : decode (am_b mL_areCrowds) 137 = .ok (.iconst 1, 1) := by decide +kernel
theorem dL_areCrowds_138 : decode (am_b mL_areCrowds) 138 = .ok (.invokevirtual 21, 3) := by decide +kernel
theorem dL_areCrowds_141 : decode (am_b mL_areCrowds) 141 = .ok (.iadd, 1) := by decide +kernel
theorem dL_areCrowds_142 : decode (am_b mL_areCrowds) 142 = .ok (.ifCond .ne 42, 3) := by decide +kernel
theorem dL_areCrowds_145 : decode (am_b mL_areCrowds) 145 = .ok (.aload_n 0, 1) := by decide +kernel
theorem dL_areCrowds_146 : decode (am_b mL_areCrowds) 146 = .ok (.iload 6, 2) := by decide +kernel
theorem dL_areCrowds_148 : decode (am_b mL_areCrowds) 148 = .ok (.bipush 7, 2) := by decide +kernel
theorem dL_areCrowds_150 : decode (am_b mL_areCrowds) 150 = .ok (.invokevirtual 18, 3) := by decide +kernel
theorem dL_areCrowds_153 : decode (am_b mL_areCrowds) 153 = .ok (.ifCond .lt 31, 3) := by decide +kernel
theorem dL_areCrowds_156 : decode (am_b mL_areCrowds) 156 = .ok (.aload_n 0, 1) := by decide +kernel
theorem dL_areCrowds_157 : decode (am_b mL_areCrowds) 157 = .ok (.iload 6, 2) := by decide +kernel
theorem dL_areCrowds_159 : decode (am_b mL_areCrowds) 159 = .ok (.bipush 6, 2) := by decide +kernel
theorem dL_areCrowds_161 : decode (am_b mL_areCrowds) 161 = .ok (.invokevirtual 18, 3) := by decide +kernel
theorem dL_areCrowds_164 : decode (am_b mL_areCrowds) 164 = .ok (.aload_n 0, 1) := by decide +kernel
theorem dL_areCrowds_165 : decode (am_b mL_areCrowds) 165 = .ok (.iload 6, 2) := by decide +kernel
theorem dL_areCrowds_167 : decode (am_b mL_areCrowds) 167 = .ok (.bipush 7, 2) := by decide +kernel
theorem dL_areCrowds_169 : decode (am_b mL_areCrowds) 169 = .ok (.invokevirtual 18, 3) := by decide +kernel
theorem dL_areCrowds_172 : decode (am_b mL_areCrowds) 172 = .ok (.iadd, 1) := by decide +kernel
theorem dL_areCrowds_173 : decode (am_b mL_areCrowds) 173 = .ok (.iconst 2, 1) := by decide +kernel
theorem dL_areCrowds_174 : decode (am_b mL_areCrowds) 174 = .ok (.aload_n 0, 1) := by decide +kernel
theorem dL_areCrowds_175 : decode (am_b mL_areCrowds) 175 = .ok (.bipush 12, 2) := by decide +kernel
theorem dL_areCrowds_177 : decode (am_b mL_areCrowds) 177 = .ok (.invokevirtual 14, 3) := by decide +kernel
theorem dL_areCrowds_180 : decode (am_b mL_areCrowds) 180 = .ok (.imul, 1) := by decide +kernel
theorem dL_areCrowds_181 : decode (am_b mL_areCrowds) 181 = .ok (.if_icmp .le 5, 3) := by decide +kernel
theorem dL_areCrowds_184 : decode (am_b mL_areCrowds) 184 = .ok (.iconst 0, 1) := by decide +kernel
theorem dL_areCrowds_185 : decode (am_b mL_areCrowds) 185 = .ok (.ireturn, 1) := by decide +kernel
theorem dL_areCrowds_186 : decode (am_b mL_areCrowds) 186 = .ok (.iinc 6 1, 3) := by decide +kernel
theorem dL_areCrowds_189 : decode (am_b mL_areCrowds) 189 = .ok (.goto (-166), 3) := by decide +kernel
theorem dL_areCrowds_192 : decode (am_b mL_areCrowds) 192 = .ok (.iload_n 1, 1) := by decide +kernel
theorem dL_areCrowds_193 : decode (am_b mL_areCrowds) 193 = .ok (.ifCond .lt 89, 3) := by decide +kernel
theorem dL_areCrowds_196 : decode (am_b mL_areCrowds) 196 = .ok (.iload_n 2, 1) := by decide +kernel
theorem dL_areCrowds_197 : decode (am_b mL_areCrowds) 197 = .ok (.ifCond .lt 85, 3) := by decide +kernel
theorem dL_areCrowds_200 : decode (am_b mL_areCrowds) 200 = .ok (.aload_n 0, 1) := by decide +kernel
theorem dL_areCrowds_201 : decode (am_b mL_areCrowds) 201 = .ok (.bipush 10, 2) := by decide +kernel
theorem dL_areCrowds_203 : decode (am_b mL_areCrowds) 203 = .ok (.invokevirtual 14, 3) := by decide +kernel
theorem dL_areCrowds_206 : decode (am_b mL_areCrowds) 206 = .ok (.iload_n 3, 1) := by decide +kernel
theorem dL_areCrowds_207 : decode (am_b mL_areCrowds) 207 = .ok (.if_icmp .ne 75, 3) := by decide +kernel
theorem dL_areCrowds_210 : decode (am_b mL_areCrowds) 210 = .ok (.aload_n 0, 1) := by decide +kernel
theorem dL_areCrowds_211 : decode (am_b mL_areCrowds) 211 = .ok (.bipush 11, 2) := by decide +kernel
theorem dL_areCrowds_213 : decode (am_b mL_areCrowds) 213 = .ok (.invokevirtual 14, 3) := by decide +kernel
theorem dL_areCrowds_216 : decode (am_b mL_areCrowds) 216 = .ok (.iload_n 1, 1) := by decide +kernel
theorem dL_areCrowds_217 : decode (am_b mL_areCrowds) 217 = .ok (.iload_n 2, 1) := by decide +kernel
theorem dL_areCrowds_218 : decode (am_b mL_areCrowds) 218 = .ok (.iadd, 1) := by decide +kernel
theorem dL_areCrowds_219 : decode (am_b mL_areCrowds) 219 = .ok (.if_icmp .ne 63, 3) := by decide +kernel
theorem dL_areCrowds_222 : decode (am_b mL_areCrowds) 222 = .ok (.iload_n 3, 1) := by decide +kernel
theorem dL_areCrowds_223 : decode (am_b mL_areCrowds) 223 = .ok (.iload_n 1, 1) := by decide +kernel
theorem dL_areCrowds_224 : decode (am_b mL_areCrowds) 224 = .ok (.iadd, 1) := by decide +kernel
theorem dL_areCrowds_225 : decode (am_b mL_areCrowds) 225 = .ok (.iload_n 2, 1) := by decide +kernel
theorem dL_areCrowds_226 : decode (am_b mL_areCrowds) 226 = .ok (.iadd, 1) := by decide +kernel
theorem dL_areCrowds_227 : decode (am_b mL_areCrowds) 227 = .ok (.aload_n 0, 1) := by decide +kernel
theorem dL_areCrowds_228 : decode (am_b mL_areCrowds) 228 = .ok (.iconst 0, 1) := by decide +kernel
theorem dL_areCrowds_229 : decode (am_b mL_areCrowds) 229 = .ok (.invokevirtual 14, 3) := by decide +kernel
theorem dL_areCrowds_232 : decode (am_b mL_areCrowds) 232 = .ok (.aload_n 0, 1) := by decide +kernel
theorem dL_areCrowds_233 : decode (am_b mL_areCrowds) 233 = .ok (.iconst 1, 1) := by decide +kernel
theorem dL_areCrowds_234 : decode (am_b mL_areCrowds) 234 = .ok (.invokevirtual 14, 3) := by decide +kernel
theorem dL_areCrowds_237 : decode (am_b mL_areCrowds) 237 = .ok (.iadd, 1) := by decide +kernel
theorem dL_areCrowds_238 : decode (am_b mL_areCrowds) 238 = .ok (.if_icmp .ne 44, 3) := by decide +kernel
theorem dL_areCrowds_241 : decode (am_b mL_areCrowds) 241 = .ok (.iload 4, 2) := by decide +kernel
theorem dL_areCrowds_243 : decode (am_b mL_areCrowds) 243 = .ok (.aload_n 0, 1) := by decide +kernel
theorem dL_areCrowds_244 : decode (am_b mL_areCrowds) 244 = .ok (.bipush 14, 2) := by decide +kernel
theorem dL_areCrowds_246 : decode (am_b mL_areCrowds) 246 = .ok (.invokevirtual 14, 3) := by decide +kernel
theorem dL_areCrowds_249 : decode (am_b mL_areCrowds) 249 = .ok (.if_icmp .gt 33, 3) := by decide +kernel
theorem dL_areCrowds_252 : decode (am_b mL_areCrowds) 252 = .ok (.iload 5, 2) := by decide +kernel
theorem dL_areCrowds_254 : decode (am_b mL_areCrowds) 254 = .ok (.aload_n 0, 1) := by decide +kernel
theorem dL_areCrowds_255 : decode (am_b mL_areCrowds) 255 = .ok (.bipush 12, 2) := by decide +kernel
theorem dL_areCrowds_257 : decode (am_b mL_areCrowds) 257 = .ok (.invokevirtual 14, 3) := by decide +kernel
theorem dL_areCrowds_260 : decode (am_b mL_areCrowds) 260 = .ok (.if_icmp .gt 22, 3) := by decide +kernel
theorem dL_areCrowds_263 : decode (am_b mL_areCrowds) 263 = .ok (.aload_n 0, 1) := by decide +kernel
theorem dL_areCrowds_264 : decode (am_b mL_areCrowds) 264 = .ok (.aload_n 0, 1) := by decide +kernel
theorem dL_areCrowds_265 : decode (am_b mL_areCrowds) 265 = .ok (.bipush 7, 2) := by decide +kernel
theorem dL_areCrowds_267 : decode (am_b mL_areCrowds) 267 = .ok (.invokevirtual 14, 3) := by decide +kernel
theorem dL_areCrowds_270 : decode (am_b mL_areCrowds) 270 = .ok (.iconst 0, 1) := by decide +kernel
theorem dL_areCrowds_271 : decode (am_b mL_areCrowds) 271 = .ok (.invokevirtual 18, 3) := by decide +kernel
theorem dL_areCrowds_274 : decode (am_b mL_areCrowds) 274 = .ok (.iconst (-1), 1) := by decide +kernel
theorem dL_areCrowds_275 : decode (am_b mL_areCrowds) 275 = .ok (.if_icmp .ne 7, 3) := by decide +kernel
theorem dL_areCrowds_278 : decode (am_b mL_areCrowds) 278 = .ok (.iconst 1, 1) := by decide +kernel
theorem dL_areCrowds_279 : decode (am_b mL_areCrowds) 279 = .ok (.goto 4, 3) := by decide +kernel
theorem dL_areCrowds_282 : decode (am_b mL_areCrowds) 282 = .ok (.iconst 0, 1) := by decide +kernel
theorem dL_areCrowds_283 : decode (am_b mL_areCrowds) 283 = .ok (.ireturn, 1) := by decide +kernel
theorem dL_isBest_0 : decode (am_b mL_isBest) 0 = .ok (.aload_n 0, 1) := by decide +kernel
theorem dL_isBest_1 : decode (am_b mL_isBest) 1 = .ok (.iload_n 1, 1) := by decide +kernel
theorem dL_isBest_2 : decode (am_b mL_isBest) 2 = .ok (.invokevirtual 41, 3) := by decide +kernel
theorem dL_isBest_5 : decode (am_b mL_isBest) 5 = .ok (.istore_n 2, 1) := by decide +kernel
theorem dL_isBest_6 : decode (am_b mL_isBest) 6 = .ok (.aload_n 0, 1) := by decide +kernel
theorem dL_isBest_7 : decode (am_b mL_isBest) 7 = .ok (.iload_n 1, 1) := by decide +kernel
theorem dL_isBest_8 : decode (am_b mL_isBest) 8 = .ok (.iconst 1, 1) := by decide +kernel
theorem dL_isBest_9 : decode (am_b mL_isBest) 9 = .ok (.invokevirtual 18, 3) := by decide +kernel
theorem dL_isBest_12 : decode (am_b mL_isBest) 12 = .ok (.istore_n 3, 1) := by decide +kernel
theorem dL_isBest_13 : decode (am_b mL_isBest) 13 = .ok (.aload_n 0, 1) := by decide +kernel
theorem dL_isBest_14 : decode (am_b mL_isBest) 14 = .ok (.iload_n 1, 1) := by decide +kernel
theorem dL_isBest_15 : decode (am_b mL_isBest) 15 = .ok (.iconst 0, 1) := by decide +kernel
theorem dL_isBest_16 : decode (am_b mL_isBest) 16 = .ok (.invokevirtual 18, 3) := by decide +kernel
theorem dL_isBest_19 : decode (am_b mL_isBest) 19 = .ok (.istore 4, 2) := by decide +kernel
theorem dL_isBest_21 : decode (am_b mL_isBest) 21 = .ok (.bipush (-6), 2) := by decide +kernel
theorem dL_isBest_23 : decode (am_b mL_isBest) 23 = .ok (.istore 5, 2) := by decide +kernel
theorem dL_isBest_25 : decode (am_b mL_isBest) 25 = .ok (.iconst (-1), 1) := by decide +kernel
theorem dL_isBest_26 : decode (am_b mL_isBest) 26 = .ok (.istore 6, 2) := by decide +kernel
theorem dL_isBest_28 : decode (am_b mL_isBest) 28 = .ok (.iconst 0, 1) := by decide +kernel
theorem dL_isBest_29 : decode (am_b mL_isBest) 29 = .ok (.istore 7, 2) := by decide +kernel
theorem dL_isBest_31 : decode (am_b mL_isBest) 31 = .ok (.iload 7, 2) := by decide +kernel
theorem dL_isBest_33 : decode (am_b mL_isBest) 33 = .ok (.bipush 12, 2) := by decide +kernel
theorem dL_isBest_35 : decode (am_b mL_isBest) 35 = .ok (.if_icmp .ge 89, 3) := by decide +kernel
theorem dL_isBest_38 : decode (am_b mL_isBest) 38 = .ok (.aload_n 0, 1) := by decide +kernel
theorem dL_isBest_39 : decode (am_b mL_isBest) 39 = .ok (.iload_n 1, 1) := by decide +kernel
theorem dL_isBest_40 : decode (am_b mL_isBest) 40 = .ok (.iload 7, 2) := by decide +kernel
theorem dL_isBest_42 : decode (am_b mL_isBest) 42 = .ok (.invokevirtual 44, 3) := by decide +kernel
theorem dL_isBest_45 : decode (am_b mL_isBest) 45 = .ok (.istore 8, 2) := by decide +kernel
theorem dL_isBest_47 : decode (am_b mL_isBest) 47 = .ok (.aload_n 0, 1) := by decide +kernel
theorem dL_isBest_48 : decode (am_b mL_isBest) 48 = .ok (.iload_n 1, 1) := by decide +kernel
theorem dL_isBest_49 : decode (am_b mL_isBest) 49 = .ok (.iload 7, 2) := by decide +kernel
theorem dL_isBest_51 : decode (am_b mL_isBest) 51 = .ok (.invokevirtual 47, 3) := by decide +kernel
theorem dL_isBest_54 : decode (am_b mL_isBest) 54 = .ok (.istore 9, 2) := by decide +kernel
theorem dL_isBest_56 : decode (am_b mL_isBest) 56 = .ok (.iload 9, 2) := by decide +kernel
theorem dL_isBest_58 : decode (am_b mL_isBest) 58 = .ok (.bipush (-5), 2) := by decide +kernel
theorem dL_isBest_60 : decode (am_b mL_isBest) 60 = .ok (.if_icmp .ne 13, 3) := by decide +kernel
theorem dL_isBest_63 : decode (am_b mL_isBest) 63 = .ok (.iload 8, 2) := by decide +kernel
theorem dL_isBest_65 : decode (am_b mL_isBest) 65 = .ok (.iload 9, 2) := by decide +kernel
theorem dL_isBest_67 : decode (am_b mL_isBest) 67 = .ok (.if_icmp .eq 19, 3) := by decide +kernel
theorem dL_isBest_70 : decode (am_b mL_isBest) 70 = .ok (.goto 14, 3) := by decide +kernel
theorem dL_isBest_73 : decode (am_b mL_isBest) 73 = .ok (.aload_n 0, 1) := by decide +kernel
theorem dL_isBest_74 : decode (am_b mL_isBest) 74 = .ok (.iload_n 1, 1) := by decide +kernel
theorem dL_isBest_75 : decode (am_b mL_isBest) 75 = .ok (.iconst 2, 1) := by decide +kernel
theorem dL_isBest_76 : decode (am_b mL_isBest) 76 = .ok (.invokevirtual 18, 3) := by decide +kernel
theorem dL_isBest_79 : decode (am_b mL_isBest) 79 = .ok (.iload 8, 2) := by decide +kernel
theorem dL_isBest_81 : decode (am_b mL_isBest) 81 = .ok (.if_icmp .eq 5, 3) := by decide +kernel
theorem dL_isBest_84 : decode (am_b mL_isBest) 84 = .ok (.iconst 0, 1) := by decide +kernel
theorem dL_isBest_85 : decode (am_b mL_isBest) 85 = .ok (.ireturn, 1) := by decide +kernel
theorem dL_isBest_86 : decode (am_b mL_isBest) 86 = .ok (.iload 8, 2) := by decide +kernel
theorem dL_isBest_88 : decode (am_b mL_isBest) 88 = .ok (.iload 6, 2) := by decide +kernel
theorem dL_isBest_90 : decode (am_b mL_isBest) 90 = .ok (.if_icmp .le 8, 3) := by decide +kernel
theorem dL_isBest_93 : decode (am_b mL_isBest) 93 = .ok (.iload 7, 2) := by decide +kernel
theorem dL_isBest_95 : decode (am_b mL_isBest) 95 = .ok (.goto 5, 3) := by decide +kernel
theorem dL_isBest_98 : decode (am_b mL_isBest) 98 = .ok (.iload 5, 2) := by decide +kernel
theorem dL_isBest_100 : decode (am_b mL_isBest) 100 = .ok (.istore 5, 2) := by decide +kernel
theorem dL_isBest_102 : decode (am_b mL_isBest) 102 = .ok (.iload 8, 2) := by decide +kernel
theorem dL_isBest_104 : decode (am_b mL_isBest) 104 = .ok (.iload 6, 2) := by decide +kernel
theorem dL_isBest_106 : decode (am_b mL_isBest) 106 = .ok (.if_icmp .le 8, 3) := by decide +kernel
theorem dL_isBest_109 : decode (am_b mL_isBest) 109 = .ok (.iload 8, 2) := by decide +kernel
theorem dL_isBest_111 : decode (am_b mL_isBest) 111 = .ok (.goto 5, 3) := by decide +kernel
theorem dL_isBest_114 : decode (am_b mL_isBest) 114 = .ok (.iload 6, 2) := by decide +kernel
theorem dL_isBest_116 : decode (am_b mL_isBest) 116 = .ok (.istore 6, 2) := by decide +kernel
theorem dL_isBest_118 : decode (am_b mL_isBest) 118 = .ok (.iinc 7 1, 3) := by decide +kernel
theorem dL_isBest_121 : decode (am_b mL_isBest) 121 = .ok (.goto (-90), 3) := by decide +kernel
theorem dL_isBest_124 : decode (am_b mL_isBest) 124 = .ok (.aload_n 0, 1) := by decide +kernel
theorem dL_isBest_125 : decode (am_b mL_isBest) 125 = .ok (.iload_n 1, 1) := by decide +kernel
theorem dL_isBest_126 : decode (am_b mL_isBest) 126 = .ok (.iload_n 3, 1) := by decide +kernel
theorem dL_isBest_127 : decode (am_b mL_isBest) 127 = .ok (.invokevirtual 47, 3) := by decide +kernel
theorem dL_isBest_130 : decode (am_b mL_isBest) 130 = .ok (.istore 7, 2) := by decide +kernel
theorem dL_isBest_132 : decode (am_b mL_isBest) 132 = .ok (.iload_n 2, 1) := by decide +kernel
theorem dL_isBest_133 : decode (am_b mL_isBest) 133 = .ok (.iload 5, 2) := by decide +kernel
theorem dL_isBest_135 : decode (am_b mL_isBest) 135 = .ok (.if_icmp .ne 22, 3) := by decide +kernel
theorem dL_isBest_138 : decode (am_b mL_isBest) 138 = .ok (.iload 7, 2) := by decide +kernel
theorem dL_isBest_140 : decode (am_b mL_isBest) 140 = .ok (.ifCond .lt 17, 3) := by decide +kernel
theorem dL_isBest_143 : decode (am_b mL_isBest) 143 = .ok (.aload_n 0, 1) := by decide +kernel
theorem dL_isBest_144 : decode (am_b mL_isBest) 144 = .ok (.iload_n 1, 1) := by decide +kernel
theorem dL_isBest_145 : decode (am_b mL_isBest) 145 = .ok (.iconst 1, 1) := by decide +kernel
theorem dL_isBest_146 : decode (am_b mL_isBest) 146 = .ok (.invokevirtual 18, 3) := by decide +kernel
theorem dL_isBest_149 : decode (am_b mL_isBest) 149 = .ok (.iload_n 3, 1) := by decide +kernel
theorem dL_isBest_150 : decode (am_b mL_isBest) 150 = .ok (.if_icmp .ne 7, 3) := by decide +kernel
theorem dL_isBest_153 : decode (am_b mL_isBest) 153 = .ok (.iconst 1, 1) := by decide +kernel
theorem dL_isBest_154 : decode (am_b mL_isBest) 154 = .ok (.goto 4, 3) := by decide +kernel
theorem dL_isBest_157 : decode (am_b mL_isBest) 157 = .ok (.iconst 0, 1) := by decide +kernel
theorem dL_isBest_158 : decode (am_b mL_isBest) 158 = .ok (.istore 8, 2) := by decide +kernel
theorem dL_isBest_160 : decode (am_b mL_isBest) 160 = .ok (.aload_n 0, 1) := by decide +kernel
theorem dL_isBest_161 : decode (am_b mL_isBest) 161 = .ok (.iload_n 1, 1) := by decide +kernel
theorem dL_isBest_162 : decode (am_b mL_isBest) 162 = .ok (.invokevirtual 50, 3) := by decide +kernel
theorem dL_isBest_165 : decode (am_b mL_isBest) 165 = .ok (.istore 9, 2) := by decide +kernel
theorem dL_isBest_167 : decode (am_b mL_isBest) 167 = .ok (.iload_n 3, 1) := by decide +kernel
theorem dL_isBest_168 : decode (am_b mL_isBest) 168 = .ok (.bipush (-6), 2) := by decide +kernel
theorem dL_isBest_170 : decode (am_b mL_isBest) 170 = .ok (.if_icmp .ne 21, 3) := by decide +kernel
theorem dL_isBest_173 : decode (am_b mL_isBest) 173 = .ok (.iload 8, 2) := by decide +kernel
theorem dL_isBest_175 : decode (am_b mL_isBest) 175 = .ok (.ifCond .eq 14, 3) := by decide +kernel
theorem dL_isBest_178 : decode (am_b mL_isBest) 178 = .ok (.iload 9, 2) := by decide +kernel
theorem dL_isBest_180 : decode (am_b mL_isBest) 180 = .ok (.bipush (-5), 2) := by decide +kernel
theorem dL_isBest_182 : decode (am_b mL_isBest) 182 = .ok (.if_icmp .ne 7, 3) := by decide +kernel
theorem dL_isBest_185 : decode (am_b mL_isBest) 185 = .ok (.iconst 1, 1) := by decide +kernel
theorem dL_isBest_186 : decode (am_b mL_isBest) 186 = .ok (.goto 4, 3) := by decide +kernel
theorem dL_isBest_189 : decode (am_b mL_isBest) 189 = .ok (.iconst 0, 1) := by decide +kernel
theorem dL_isBest_190 : decode (am_b mL_isBest) 190 = .ok (.ireturn, 1) := by decide +kernel
theorem dL_isBest_191 : decode (am_b mL_isBest) 191 = .ok (.iconst 0, 1) := by decide +kernel
theorem dL_isBest_192 : decode (am_b mL_isBest) 192 = .ok (.istore 10, 2) := by decide +kernel
theorem dL_isBest_194 : decode (am_b mL_isBest) 194 = .ok (.iconst (-1), 1) := by decide +kernel
theorem dL_isBest_195 : decode (am_b mL_isBest) 195 = .ok (.istore 6, 2) := by decide +kernel
theorem dL_isBest_197 : decode (am_b mL_isBest) 197 = .ok (.iconst 1, 1) := by decide +kernel
theorem dL_isBest_198 : decode (am_b mL_isBest) 198 = .ok (.istore 11, 2) := by decide +kernel
theorem dL_isBest_200 : decode (am_b mL_isBest) 200 = .ok (.iload 11, 2) := by decide +kernel
theorem dL_isBest_202 : decode (am_b mL_isBest) 202 = .ok (.bipush 10, 2) := by decide +kernel
theorem dL_isBest_204 : decode (am_b mL_isBest) 204 = .ok (.if_icmp .ge 75, 3) := by decide +kernel
theorem dL_isBest_207 : decode (am_b mL_isBest) 207 = .ok (.aload_n 0, 1) := by decide +kernel
theorem dL_isBest_208 : decode (am_b mL_isBest) 208 = .ok (.iload_n 1, 1) := by decide +kernel
theorem dL_isBest_209 : decode (am_b mL_isBest) 209 = .ok (.iload 11, 2) := by decide +kernel
theorem dL_isBest_211 : decode (am_b mL_isBest) 211 = .ok (.invokevirtual 53, 3) := by decide +kernel
theorem dL_isBest_214 : decode (am_b mL_isBest) 214 = .ok (.istore 12, 2) := by decide +kernel
theorem dL_isBest_216 : decode (am_b mL_isBest) 216 = .ok (.aload_n 0, 1) := by decide +kernel
theorem dL_isBest_217 : decode (am_b mL_isBest) 217 = .ok (.iload_n 1, 1) := by decide +kernel
theorem dL_isBest_218 : decode (am_b mL_isBest) 218 = .ok (.iconst 2, 1) := by decide +kernel
theorem dL_isBest_219 : decode (am_b mL_isBest) 219 = .ok (.invokevirtual 18, 3) := by decide +kernel
theorem dL_isBest_222 : decode (am_b mL_isBest) 222 = .ok (.istore 13, 2) := by decide +kernel
theorem dL_isBest_224 : decode (am_b mL_isBest) 224 = .ok (.iload 13, 2) := by decide +kernel
theorem dL_isBest_226 : decode (am_b mL_isBest) 226 = .ok (.iload 6, 2) := by decide +kernel
theorem dL_isBest_228 : decode (am_b mL_isBest) 228 = .ok (.if_icmp .le 8, 3) := by decide +kernel
theorem dL_isBest_231 : decode (am_b mL_isBest) 231 = .ok (.iload 11, 2) := by decide +kernel
theorem dL_isBest_233 : decode (am_b mL_isBest) 233 = .ok (.goto 5, 3) := by decide +kernel
theorem dL_isBest_236 : decode (am_b mL_isBest) 236 = .ok (.iload 10, 2) := by decide +kernel
theorem dL_isBest_238 : decode (am_b mL_isBest) 238 = .ok (.istore 10, 2) := by decide +kernel
theorem dL_isBest_240 : decode (am_b mL_isBest) 240 = .ok (.iload 13, 2) := by decide +kernel
theorem dL_isBest_242 : decode (am_b mL_isBest) 242 = .ok (.iload 6, 2) := by decide +kernel
theorem dL_isBest_244 : decode (am_b mL_isBest) 244 = .ok (.if_icmp .le 8, 3) := by decide +kernel
theorem dL_isBest_247 : decode (am_b mL_isBest) 247 = .ok (.iload 13, 2) := by decide +kernel
theorem dL_isBest_249 : decode (am_b mL_isBest) 249 = .ok (.goto 5, 3) := by decide +kernel
theorem dL_isBest_252 : decode (am_b mL_isBest) 252 = .ok (.iload 6, 2) := by decide +kernel
theorem dL_isBest_254 : decode (am_b mL_isBest) 254 = .ok (.istore 6, 2) := by decide +kernel
theorem dL_isBest_256 : decode (am_b mL_isBest) 256 = .ok (.iload 8, 2) := by decide +kernel
theorem dL_isBest_258 : decode (am_b mL_isBest) 258 = .ok (.ifCond .eq 12, 3) := by decide +kernel
theorem dL_isBest_261 : decode (am_b mL_isBest) 261 = .ok (.iload 12, 2) := by decide +kernel
theorem dL_isBest_263 : decode (am_b mL_isBest) 263 = .ok (.ifCond .le 7, 3) := by decide +kernel
theorem dL_isBest_266 : decode (am_b mL_isBest) 266 = .ok (.iconst 1, 1) := by decide +kernel
theorem dL_isBest_267 : decode (am_b mL_isBest) 267 = .ok (.goto 4, 3) := by decide +kernel
theorem dL_isBest_270 : decode (am_b mL_isBest) 270 = .ok (.iconst 0, 1) := by decide +kernel
theorem dL_isBest_271 : decode (am_b mL_isBest) 271 = .ok (.istore 8, 2) := by decide +kernel
theorem dL_isBest_273 : decode (am_b mL_isBest) 273 = .ok (.iinc 11 1, 3) := by decide +kernel
theorem dL_isBest_276 : decode (am_b mL_isBest) 276 = .ok (.goto (-76), 3) := by decide +kernel
theorem dL_isBest_279 : decode (am_b mL_isBest) 279 = .ok (.iload 8, 2) := by decide +kernel
theorem dL_isBest_281 : decode (am_b mL_isBest) 281 = .ok (.ifCond .eq 26, 3) := by decide +kernel
theorem dL_isBest_284 : decode (am_b mL_isBest) 284 = .ok (.aload_n 0, 1) := by decide +kernel
theorem dL_isBest_285 : decode (am_b mL_isBest) 285 = .ok (.iload_n 1, 1) := by decide +kernel
theorem dL_isBest_286 : decode (am_b mL_isBest) 286 = .ok (.iload 4, 2) := by decide +kernel
theorem dL_isBest_288 : decode (am_b mL_isBest) 288 = .ok (.invokevirtual 53, 3) := by decide +kernel
theorem dL_isBest_291 : decode (am_b mL_isBest) 291 = .ok (.bipush 9, 2) := by decide +kernel
theorem dL_isBest_293 : decode (am_b mL_isBest) 293 = .ok (.if_icmp .ne 14, 3) := by decide +kernel
theorem dL_isBest_296 : decode (am_b mL_isBest) 296 = .ok (.iload 10, 2) := by decide +kernel
theorem dL_isBest_298 : decode (am_b mL_isBest) 298 = .ok (.iload 9, 2) := by decide +kernel
theorem dL_isBest_300 : decode (am_b mL_isBest) 300 = .ok (.if_icmp .ne 7, 3) := by decide +kernel
theorem dL_isBest_303 : decode (am_b mL_isBest) 303 = .ok (.iconst 1, 1) := by decide +kernel
theorem dL_isBest_304 : decode (am_b mL_isBest) 304 = .ok (.goto 4, 3) := by decide +kernel
theorem dL_isBest_307 : decode (am_b mL_isBest) 307 = .ok (.iconst 0, 1) := by decide +kernel
theorem dL_isBest_308 : decode (am_b mL_isBest) 308 = .ok (.ireturn, 1) := by decide +kernel
theorem dL_isDay_0 : decode (am_b mL_isDay) 0 = .ok (.aload_n 0, 1) := by decide +kernel
theorem dL_isDay_1 : decode (am_b mL_isDay) 1 = .ok (.bipush 7, 2) := by decide +kernel
theorem dL_isDay_3 : decode (am_b mL_isDay) 3 = .ok (.invokevirtual 14, 3) := by decide +kernel
theorem dL_isDay_6 : decode (am_b mL_isDay) 6 = .ok (.istore_n 2, 1) := by decide +kernel
theorem dL_isDay_7 : decode (am_b mL_isDay) 7 = .ok (.aload_n 0, 1) := by decide +kernel
theorem dL_isDay_8 : decode (am_b mL_isDay) 8 = .ok (.iconst 1, 1) := by decide +kernel
theorem dL_isDay_9 : decode (am_b mL_isDay) 9 = .ok (.iconst 0, 1) := by decide +kernel
theorem dL_isDay_10 : decode (am_b mL_isDay) 10 = .ok (.invokevirtual 31, 3) := by decide +kernel
theorem dL_isDay_13 : decode (am_b mL_isDay) 13 = .ok (.istore_n 3, 1) := by decide +kernel
theorem dL_isDay_14 : decode (am_b mL_isDay) 14 = .ok (.aload_n 0, 1) := by decide +kernel
theorem dL_isDay_15 : decode (am_b mL_isDay) 15 = .ok (.iconst 1, 1) := by decide +kernel
theorem dL_isDay_16 : decode (am_b mL_isDay) 16 = .ok (.iconst 1, 1) := by decide +kernel
theorem dL_isDay_17 : decode (am_b mL_isDay) 17 = .ok (.invokevirtual 31, 3) := by decide +kernel
theorem dL_isDay_20 : decode (am_b mL_isDay) 20 = .ok (.istore 4, 2) := by decide +kernel
theorem dL_isDay_22 : decode (am_b mL_isDay) 22 = .ok (.aload_n 0, 1) := by decide +kernel
theorem dL_isDay_23 : decode (am_b mL_isDay) 23 = .ok (.iconst 2, 1) := by decide +kernel
theorem dL_isDay_24 : decode (am_b mL_isDay) 24 = .ok (.iconst 0, 1) := by decide +kernel
theorem dL_isDay_25 : decode (am_b mL_isDay) 25 = .ok (.invokevirtual 31, 3) := by decide +kernel
theorem dL_isDay_28 : decode (am_b mL_isDay) 28 = .ok (.istore 5, 2) := by decide +kernel
theorem dL_isDay_30 : decode (am_b mL_isDay) 30 = .ok (.aload_n 0, 1) := by decide +kernel
theorem dL_isDay_31 : decode (am_b mL_isDay) 31 = .ok (.bipush 12, 2) := by decide +kernel
theorem dL_isDay_33 : decode (am_b mL_isDay) 33 = .ok (.invokevirtual 14, 3) := by decide +kernel
theorem dL_isDay_36 : decode (am_b mL_isDay) 36 = .ok (.istore 6, 2) := by decide +kernel
theorem dL_isDay_38 : decode (am_b mL_isDay) 38 = .ok (.aload_n 0, 1) := by decide +kernel
theorem dL_isDay_39 : decode (am_b mL_isDay) 39 = .ok (.bipush 13, 2) := by decide +kernel
theorem dL_isDay_41 : decode (am_b mL_isDay) 41 = .ok (.invokevirtual 14, 3) := by decide +kernel
theorem dL_isDay_44 : decode (am_b mL_isDay) 44 = .ok (.istore 7, 2) := by decide +kernel
theorem dL_isDay_46 : decode (am_b mL_isDay) 46 = .ok (.aload_n 0, 1) := by decide +kernel
theorem dL_isDay_47 : decode (am_b mL_isDay) 47 = .ok (.bipush 14, 2) := by decide +kernel
theorem dL_isDay_49 : decode (am_b mL_isDay) 49 = .ok (.invokevirtual 14, 3) := by decide +kernel
theorem dL_isDay_52 : decode (am_b mL_isDay) 52 = .ok (.istore 8, 2) := by decide +kernel
theorem dL_isDay_54 : decode (am_b mL_isDay) 54 = .ok (.iconst 0, 1) := by decide +kernel
theorem dL_isDay_55 : decode (am_b mL_isDay) 55 = .ok (.istore 9, 2) := by decide +kernel
theorem dL_isDay_57 : decode (am_b mL_isDay) 57 = .ok (.iload 9, 2) := by decide +kernel
theorem dL_isDay_59 : decode (am_b mL_isDay) 59 = .ok (.iload_n 2, 1) := by decide +kernel
theorem dL_isDay_60 : decode (am_b mL_isDay) 60 = .ok (.if_icmp .ge 27, 3) := by decide +kernel
theorem dL_isDay_63 : decode (am_b mL_isDay) 63 = .ok (.iload 9, 2) := by decide +kernel
theorem dL_isDay_65 : decode (am_b mL_isDay) 65 = .ok (.bipush 8, 2) := by decide +kernel
theorem dL_isDay_67 : decode (am_b mL_isDay) 67 = .ok (.if_icmp .ge 20, 3) := by decide +kernel
theorem dL_isDay_70 : decode (am_b mL_isDay) 70 = .ok (.aload_n 1, 1) := by decide +kernel
theorem dL_isDay_71 : decode (am_b mL_isDay) 71 = .ok (.iload 9, 2) := by decide +kernel
theorem dL_isDay_73 : decode (am_b mL_isDay) 73 = .ok (.aload_n 0, 1) := by decide +kernel
theorem dL_isDay_74 : decode (am_b mL_isDay) 74 = .ok (.iload 9, 2) := by decide +kernel
theorem dL_isDay_76 : decode (am_b mL_isDay) 76 = .ok (.iconst 5, 1) := by decide +kernel
theorem dL_isDay_77 : decode (am_b mL_isDay) 77 = .ok (.invokevirtual 18, 3) := by decide +kernel
theorem dL_isDay_80 : decode (am_b mL_isDay) 80 = .ok (.iastore, 1) := by decide +kernel
theorem dL_isDay_81 : decode (am_b mL_isDay) 81 = .ok (.iinc 9 1, 3) := by decide +kernel
theorem dL_isDay_84 : decode (am_b mL_isDay) 84 = .ok (.goto (-27), 3) := by decide +kernel
theorem dL_isDay_87 : decode (am_b mL_isDay) 87 = .ok (.iconst 0, 1) := by decide +kernel
theorem dL_isDay_88 : decode (am_b mL_isDay) 88 = .ok (.istore 9, 2) := by decide +kernel
theorem dL_isDay_90 : decode (am_b mL_isDay) 90 = .ok (.iconst 0, 1) := by decide +kernel
theorem dL_isDay_91 : decode (am_b mL_isDay) 91 = .ok (.istore 10, 2) := by decide +kernel
theorem dL_isDay_93 : decode (am_b mL_isDay) 93 = .ok (.iload 10, 2) := by decide +kernel
theorem dL_isDay_95 : decode (am_b mL_isDay) 95 = .ok (.iload_n 2, 1) := by decide +kernel
theorem dL_isDay_96 : decode (am_b mL_isDay) 96 = .ok (.if_icmp .ge 29, 3) := by decide +kernel
theorem dL_isDay_99 : decode (am_b mL_isDay) 99 = .ok (.iload 10, 2) := by decide +kernel
theorem dL_isDay_101 : decode (am_b mL_isDay) 101 = .ok (.bipush 8, 2) := by decide +kernel
theorem dL_isDay_103 : decode (am_b mL_isDay) 103 = .ok (.if_icmp .ge 22, 3) := by decide +kernel
theorem dL_isDay_106 : decode (am_b mL_isDay) 106 = .ok (.iload 9, 2) := by decide +kernel
theorem dL_isDay_108 : decode (am_b mL_isDay) 108 = .ok (.aload_n 0, 1) := by decide +kernel
theorem dL_isDay_109 : decode (am_b mL_isDay) 109 = .ok (.iload 10, 2) := by decide +kernel
theorem dL_isDay_111 : decode (am_b mL_isDay) 111 = .ok (.bipush 7, 2) := by decide +kernel
theorem dL_isDay_113 : decode (am_b mL_isDay) 113 = .ok (.invokevirtual 18, 3) := by decide +kernel
theorem dL_isDay_116 : decode (am_b mL_isDay) 116 = .ok (.iadd, 1) := by decide +kernel
theorem dL_isDay_117 : decode (am_b mL_isDay) 117 = .ok (.istore 9, 2) := by decide +kernel
theorem dL_isDay_119 : decode (am_b mL_isDay) 119 = .ok (.iinc 10 1, 3) := by decide +kernel
theorem dL_isDay_122 : decode (am_b mL_isDay) 122 = .ok (.goto (-29), 3) := by decide +kernel
theorem dL_isDay_125 : decode (am_b mL_isDay) 125 = .ok (.aload_n 0, 1) := by decide +kernel
theorem dL_isDay_126 : decode (am_b mL_isDay) 126 = .ok (.invokevirtual 34, 3) := by decide +kernel
theorem dL_isDay_129 : decode (am_b mL_isDay) 129 = .ok (.iload_n 3, 1) := by decide +kernel
theorem dL_isDay_130 : decode (am_b mL_isDay) 130 = .ok (.if_icmp .ne 49, 3) := by decide +kernel
theorem dL_isDay_133 : decode (am_b mL_isDay) 133 = .ok (.aload_n 0, 1) := by decide +kernel
theorem dL_isDay_134 : decode (am_b mL_isDay) 134 = .ok (.bipush 12, 2) := by decide +kernel
theorem dL_isDay_136 : decode (am_b mL_isDay) 136 = .ok (.invokevirtual 14, 3) := by decide +kernel
theorem dL_isDay_139 : decode (am_b mL_isDay) 139 = .ok (.iload 6, 2) := by decide +kernel
theorem dL_isDay_141 : decode (am_b mL_isDay) 141 = .ok (.iconst 1, 1) := by decide +kernel
theorem dL_isDay_142 : decode (am_b mL_isDay) 142 = .ok (.iadd, 1) := by decide +kernel
theorem dL_isDay_143 : decode (am_b mL_isDay) 143 = .ok (.if_icmp .ne 36, 3) := by decide +kernel
theorem dL_isDay_146 : decode (am_b mL_isDay) 146 = .ok (.aload_n 0, 1) := by decide +kernel
theorem dL_isDay_147 : decode (am_b mL_isDay) 147 = .ok (.bipush 13, 2) := by decide +kernel
theorem dL_isDay_149 : decode (am_b mL_isDay) 149 = .ok (.invokevirtual 14, 3) := by decide +kernel
theorem dL_isDay_152 : decode (am_b mL_isDay) 152 = .ok (.iload 7, 2) := by decide +kernel
theorem dL_isDay_154 : decode (am_b mL_isDay) 154 = .ok (.iload 4, 2) := by decide +kernel
theorem dL_isDay_156 : decode (am_b mL_isDay) 156 = .ok (.iadd, 1) := by decide +kernel
theorem dL_isDay_157 : decode (am_b mL_isDay) 157 = .ok (.if_icmp .ne 22, 3) := by decide +kernel
theorem dL_isDay_160 : decode (am_b mL_isDay) 160 = .ok (.aload_n 0, 1) := by decide +kernel
theorem dL_isDay_161 : decode (am_b mL_isDay) 161 = .ok (.bipush 14, 2) := by decide +kernel
theorem dL_isDay_163 : decode (am_b mL_isDay) 163 = .ok (.invokevirtual 14, 3) := by decide +kernel
theorem dL_isDay_166 : decode (am_b mL_isDay) 166 = .ok (.iload 8, 2) := by decide +kernel
theorem dL_isDay_168 : decode (am_b mL_isDay) 168 = .ok (.iload_n 3, 1) := by decide +kernel
theorem dL_isDay_169 : decode (am_b mL_isDay) 169 = .ok (.iadd, 1) := by decide +kernel
theorem dL_isDay_170 : decode (am_b mL_isDay) 170 = .ok (.if_icmp .ne 9, 3) := by decide +kernel
theorem dL_isDay_173 : decode (am_b mL_isDay) 173 = .ok (.iload 5, 2) := by decide +kernel
theorem dL_isDay_175 : decode (am_b mL_isDay) 175 = .ok (.iload_n 3, 1) := by decide +kernel
theorem dL_isDay_176 : decode (am_b mL_isDay) 176 = .ok (.if_icmp .ge 5, 3) := by decide +kernel
theorem dL_isDay_179 : decode (am_b mL_isDay) 179 = .ok (.iconst 0, 1) := by decide +kernel
theorem dL_isDay_180 : decode (am_b mL_isDay) 180 = .ok (.ireturn, 1) := by decide +kernel
theorem dL_isDay_181 : decode (am_b mL_isDay) 181 = .ok (.iconst 0, 1) := by decide +kernel
theorem dL_isDay_182 : decode (am_b mL_isDay) 182 = .ok (.istore 10, 2) := by decide +kernel
theorem dL_isDay_184 : decode (am_b mL_isDay) 184 = .ok (.iconst 0, 1) := by decide +kernel
theorem dL_isDay_185 : decode (am_b mL_isDay) 185 = .ok (.istore 11, 2) := by decide +kernel
theorem dL_isDay_187 : decode (am_b mL_isDay) 187 = .ok (.iconst 0, 1) := by decide +kernel
theorem dL_isDay_188 : decode (am_b mL_isDay) 188 = .ok (.istore 12, 2) := by decide +kernel
theorem dL_isDay_190 : decode (am_b mL_isDay) 190 = .ok (.iconst 0, 1) := by decide +kernel
theorem dL_isDay_191 : decode (am_b mL_isDay) 191 = .ok (.istore 13, 2) := by decide +kernel
theorem dL_isDay_193 : decode (am_b mL_isDay) 193 = .ok (.iload 13, 2) := by decide +kernel
theorem dL_isDay_195 : decode (am_b mL_isDay) 195 = .ok (.iload_n 2, 1) := by decide +kernel
theorem dL_isDay_196 : decode (am_b mL_isDay) 196 = .ok (.if_icmp .ge 242, 3) := by decide +kernel
theorem dL_isDay_199 : decode (am_b mL_isDay) 199 = .ok (.iload 13, 2) := by decide +kernel
theorem dL_isDay_201 : decode (am_b mL_isDay) 201 = .ok (.bipush 8, 2) := by decide +kernel
theorem dL_isDay_203 : decode (am_b mL_isDay) 203 = .ok (.if_icmp .ge 235, 3) := by decide +kernel
theorem dL_isDay_206 : decode (am_b mL_isDay) 206 = .ok (.aload_n 0, 1) := by decide +kernel
theorem dL_isDay_207 : decode (am_b mL_isDay) 207 = .ok (.iload 13, 2) := by decide +kernel
theorem dL_isDay_209 : decode (am_b mL_isDay) 209 = .ok (.iconst 1, 1) := by decide +kernel
theorem dL_isDay_210 : decode (am_b mL_isDay) 210 = .ok (.invokevirtual 18, 3) := by decide +kernel
theorem dL_isDay_213 : decode (am_b mL_isDay) 213 = .ok (.istore 14, 2) := by decide +kernel
theorem dL_isDay_215 : decode (am_b mL_isDay) 215 = .ok (.iload 4, 2) := by decide +kernel
theorem dL_isDay_217 : decode (am_b mL_isDay) 217 = .ok (.ifCond .eq 19, 3) := by decide +kernel
theorem dL_isDay_220 : decode (am_b mL_isDay) 220 = .ok (.iload 14, 2) := by decide +kernel
theorem dL_isDay_222 : decode (am_b mL_isDay) 222 = .ok (.ifCond .lt 18, 3) := by decide +kernel
theorem dL_isDay_225 : decode (am_b mL_isDay) 225 = .ok (.aload_n 0, 1) := by decide +kernel
theorem dL_isDay_226 : decode (am_b mL_isDay) 226 = .ok (.iload 14, 2) := by decide +kernel
theorem dL_isDay_228 : decode (am_b mL_isDay) 228 = .ok (.iconst 0, 1) := by decide +kernel
theorem dL_isDay_229 : decode (am_b mL_isDay) 229 = .ok (.invokevirtual 8, 3) := by decide +kernel
theorem dL_isDay_232 : decode (am_b mL_isDay) 232 = .ok (.iconst 1, 1) := by decide +kernel
theorem dL_isDay_233 : decode (am_b mL_isDay) 233 = .ok (.if_icmp .ne 7, 3) := by decide +kernel
theorem dL_isDay_236 : decode (am_b mL_isDay) 236 = .ok (.iconst 1, 1) := by decide +kernel
theorem dL_isDay_237 : decode (am_b mL_isDay) 237 = .ok (.goto 4, 3) := by decide +kernel
theorem dL_isDay_240 : decode (am_b mL_isDay) 240 = .ok (.iconst 0, 1) := by decide +kernel
theorem dL_isDay_241 : decode (am_b mL_isDay) 241 = .ok (.istore 15, 2) := by decide +kernel
theorem dL_isDay_243 : decode (am_b mL_isDay) 243 = .ok (.iload 15, 2) := by decide +kernel
theorem dL_isDay_245 : decode (am_b mL_isDay) 245 = .ok (.ifCond .eq 22, 3) := by decide +kernel
theorem dL_isDay_248 : decode (am_b mL_isDay) 248 = .ok (.aload_n 0, 1) := by decide +kernel
theorem dL_isDay_249 : decode (am_b mL_isDay) 249 = .ok (.iload 13, 2) := by decide +kernel
theorem dL_isDay_251 : decode (am_b mL_isDay) 251 = .ok (.iconst 2, 1) := by decide +kernel
theorem dL_isDay_252 : decode (am_b mL_isDay) 252 = .ok (.invokevirtual 18, 3) := by decide +kernel
theorem dL_isDay_255 : decode (am_b mL_isDay) 255 = .ok (.aload_n 0, 1) := by decide +kernel
theorem dL_isDay_256 : decode (am_b mL_isDay) 256 = .ok (.iconst 3, 1) := by decide +kernel
theorem dL_isDay_257 : decode (am_b mL_isDay) 257 = .ok (.invokevirtual 14, 3) := by decide +kernel
theorem dL_isDay_260 : decode (am_b mL_isDay) 260 = .ok (.imul, 1) := by decide +kernel
theorem dL_isDay_261 : decode (am_b mL_isDay) 261 = .ok (.bipush 100, 2) := by decide +kernel
theorem dL_isDay_263 : decode (am_b mL_isDay) 263 = .ok (.idiv, 1) := by decide +kernel
theorem dL_isDay_264 : decode (am_b mL_isDay) 264 = .ok (.goto 4, 3) := by decide +kernel
theorem dL_isDay_267 : decode (am_b mL_isDay) 267 = .ok (.iconst 0, 1) := by decide +kernel
theorem dL_isDay_268 : decode (am_b mL_isDay) 268 = .ok (.istore 16, 2) := by decide +kernel
theorem dL_isDay_270 : decode (am_b mL_isDay) 270 = .ok (.aload_n 0, 1) := by decide +kernel
theorem dL_isDay_271 : decode (am_b mL_isDay) 271 = .ok (.iload 13, 2) := by decide +kernel
theorem dL_isDay_273 : decode (am_b mL_isDay) 273 = .ok (.invokevirtual 38, 3) := by decide +kernel
theorem dL_isDay_276 : decode (am_b mL_isDay) 276 = .ok (.istore 17, 2) := by decide +kernel
theorem dL_isDay_278 : decode (am_b mL_isDay) 278 = .ok (.iload 10, 2) := by decide +kernel
theorem dL_isDay_280 : decode (am_b mL_isDay) 280 = .ok (.iload 16, 2) := by decide +kernel
theorem dL_isDay_282 : decode (am_b mL_isDay) 282 = .ok (.iadd, 1) := by decide +kernel
theorem dL_isDay_283 : decode (am_b mL_isDay) 283 = .ok (.istore 10, 2) := by decide +kernel
theorem dL_isDay_285 : decode (am_b mL_isDay) 285 = .ok (.iload 12, 2) := by decide +kernel
theorem dL_isDay_287 : decode (am_b mL_isDay) 287 = .ok (.aload_n 0, 1) := by decide +kernel
theorem dL_isDay_288 : decode (am_b mL_isDay) 288 = .ok (.iload 13, 2) := by decide +kernel
theorem dL_isDay_290 : decode (am_b mL_isDay) 290 = .ok (.bipush 7, 2) := by decide +kernel
theorem dL_isDay_292 : decode (am_b mL_isDay) 292 = .ok (.invokevirtual 18, 3) := by decide +kernel
theorem dL_isDay_295 : decode (am_b mL_isDay) 295 = .ok (.iadd, 1) := by decide +kernel
theorem dL_isDay_296 : decode (am_b mL_isDay) 296 = .ok (.istore 12, 2) := by decide +kernel
theorem dL_isDay_298 : decode (am_b mL_isDay) 298 = .ok (.iload 9, 2) := by decide +kernel
theorem dL_isDay_300 : decode (am_b mL_isDay) 300 = .ok (.iload 14, 2) := by decide +kernel
theorem dL_isDay_302 : decode (am_b mL_isDay) 302 = .ok (.ifCond .ge 7, 3) := by decide +kernel
theorem dL_isDay_305 : decode (am_b mL_isDay) 305 = .ok (.iconst 1, 1) := by decide +kernel
theorem dL_isDay_306 : decode (am_b mL_isDay) 306 = .ok (.goto 4, 3) := by decide +kernel
theorem dL_isDay_309 : decode (am_b mL_isDay) 309 = .ok (.iconst 0, 1) := by decide +kernel
theorem dL_isDay_310 : decode (am_b mL_isDay) 310 = .ok (.iadd, 1) := by decide +kernel
theorem dL_isDay_311 : decode (am_b mL_isDay) 311 = .ok (.istore 9, 2) := by decide +kernel
theorem dL_isDay_313 : decode (am_b mL_isDay) 313 = .ok (.iload 11, 2) := by decide +kernel
theorem dL_isDay_315 : decode (am_b mL_isDay) 315 = .ok (.iload 17, 2) := by decide +kernel
theorem dL_isDay_317 : decode (am_b mL_isDay) 317 = .ok (.ifCond .ge 7, 3) := by decide +kernel
theorem dL_isDay_320 : decode (am_b mL_isDay) 320 = .ok (.iconst 0, 1) := by decide +kernel
theorem dL_isDay_321 : decode (am_b mL_isDay) 321 = .ok (.goto 7, 3) := by decide +kernel
theorem dL_isDay_324 : decode (am_b mL_isDay) 324 = .ok (.iconst 1, 1) := by decide +kernel
theorem dL_isDay_325 : decode (am_b mL_isDay) 325 = .ok (.iload 17, 2) := by decide +kernel
theorem dL_isDay_327 : decode (am_b mL_isDay) 327 = .ok (.ishl, 1) := by decide +kernel
theorem dL_isDay_328 : decode (am_b mL_isDay) 328 = .ok (.ior, 1) := by decide +kernel
theorem dL_isDay_329 : decode (am_b mL_isDay) 329 = .ok (.istore 11, 2) := by decide +kernel
theorem dL_isDay_331 : decode (am_b mL_isDay) 331 = .ok (.aload_n 0, 1) := by decide +kernel
theorem dL_isDay_332 : decode (am_b mL_isDay) 332 = .ok (.iload 13, 2) := by decide +kernel
theorem dL_isDay_334 : decode (am_b mL_isDay) 334 = .ok (.iconst 5, 1) := by decide +kernel
theorem dL_isDay_335 : decode (am_b mL_isDay) 335 = .ok (.invokevirtual 18, 3) := by decide +kernel
theorem dL_isDay_338 : decode (am_b mL_isDay) 338 = .ok (.aload_n 1, 1) := by decide +kernel
theorem dL_isDay_339 : decode (am_b mL_isDay) 339 = .ok (.iload 13, 2) := by decide +kernel
theorem dL_isDay_341 : decode (am_b mL_isDay) 341 = .ok (.iaload, 1) := by decide +kernel
theorem dL_isDay_342 : decode (am_b mL_isDay) 342 = .ok (.iload 16, 2) := by decide +kernel
theorem dL_isDay_344 : decode (am_b mL_isDay) 344 = .ok (.iadd, 1) := by decide +kernel
theorem dL_isDay_345 : decode (am_b mL_isDay) 345 = .ok (.if_icmp .eq 5, 3) := by decide +kernel
theorem dL_isDay_348 : decode (am_b mL_isDay) 348 = .ok (.iconst 0, 1) := by decide +kernel
theorem dL_isDay_349 : decode (am_b mL_isDay) 349 = .ok (.ireturn, 1) := by decide +kernel
theorem dL_isDay_350 : decode (am_b mL_isDay) 350 = .ok (.iconst 0, 1) := by decide +kernel
theorem dL_isDay_351 : decode (am_b mL_isDay) 351 = .ok (.istore 18, 2) := by decide +kernel
theorem dL_isDay_353 : decode (am_b mL_isDay) 353 = .ok (.iload 18, 2) := by decide +kernel
theorem dL_isDay_355 : decode (am_b mL_isDay) 355 = .ok (.iload_n 2, 1) := by decide +kernel
theorem dL_isDay_356 : decode (am_b mL_isDay) 356 = .ok (.if_icmp .ge 76, 3) := by decide +kernel
theorem dL_isDay_359 : decode (am_b mL_isDay) 359 = .ok (.iload 18, 2) := by decide +kernel
theorem dL_isDay_361 : decode (am_b mL_isDay) 361 = .ok (.bipush 8, 2) := by decide +kernel
theorem dL_isDay_363 : decode (am_b mL_isDay) 363 = .ok (.if_icmp .ge 69, 3) := by decide +kernel
theorem dL_isDay_366 : decode (am_b mL_isDay) 366 = .ok (.aload_n 0, 1) := by decide +kernel
theorem dL_isDay_367 : decode (am_b mL_isDay) 367 = .ok (.iload 18, 2) := by decide +kernel
theorem dL_isDay_369 : decode (am_b mL_isDay) 369 = .ok (.iconst 1, 1) := by decide +kernel
theorem dL_isDay_370 : decode (am_b mL_isDay) 370 = .ok (.invokevirtual 18, 3) := by decide +kernel
theorem dL_isDay_373 : decode (am_b mL_isDay) 373 = .ok (.istore 19, 2) := by decide +kernel
theorem dL_isDay_375 : decode (am_b mL_isDay) 375 = .ok (.iload 19, 2) := by decide +kernel
theorem dL_isDay_377 : decode (am_b mL_isDay) 377 = .ok (.iload 14, 2) := by decide +kernel
theorem dL_isDay_379 : decode (am_b mL_isDay) 379 = .ok (.if_icmp .ge 11, 3) := by decide +kernel
theorem dL_isDay_382 : decode (am_b mL_isDay) 382 = .ok (.iload 14, 2) := by decide +kernel
theorem dL_isDay_384 : decode (am_b mL_isDay) 384 = .ok (.iload 19, 2) := by decide +kernel
theorem dL_isDay_386 : decode (am_b mL_isDay) 386 = .ok (.isub, 1) := by decide +kernel
theorem dL_isDay_387 : decode (am_b mL_isDay) 387 = .ok (.goto 8, 3) := by decide +kernel
theorem dL_isDay_390 : decode (am_b mL_isDay) 390 = .ok (.iload 19, 2) := by decide +kernel
theorem dL_isDay_392 : decode (am_b mL_isDay) 392 = .ok (.iload 14, 2) := by decide +kernel
theorem dL_isDay_394 : decode (am_b mL_isDay) 394 = .ok (.isub, 1) := by decide +kernel
theorem dL_isDay_395 : decode (am_b mL_isDay) 395 = .ok (.istore 20, 2) := by decide +kernel
theorem dL_isDay_397 : decode (am_b mL_isDay) 397 = .ok (.iload 18, 2) := by decide +kernel
theorem dL_isDay_399 : decode (am_b mL_isDay) 399 = .ok (.iload 13, 2) := by decide +kernel
theorem dL_isDay_401 : decode (am_b mL_isDay) 401 = .ok (.if_icmp .eq 25, 3) := by decide +kernel
theorem dL_isDay_404 : decode (am_b mL_isDay) 404 = .ok (.iload 14, 2) := by decide +kernel
theorem dL_isDay_406 : decode (am_b mL_isDay) 406 = .ok (.ifCond .lt 20, 3) := by decide +kernel
theorem dL_isDay_409 : decode (am_b mL_isDay) 409 = .ok (.iload 19, 2) := by decide +kernel
theorem dL_isDay_411 : decode (am_b mL_isDay) 411 = .ok (.ifCond .lt 15, 3) := by decide +kernel
theorem dL_isDay_414 : decode (am_b mL_isDay) 414 = .ok (.iload 20, 2) := by decide +kernel
theorem dL_isDay_416 : decode (am_b mL_isDay) 416 = .ok (.aload_n 0, 1) := by decide +kernel
theorem dL_isDay_417 : decode (am_b mL_isDay) 417 = .ok (.iconst 4, 1) := by decide +kernel
theorem dL_isDay_418 : decode (am_b mL_isDay) 418 = .ok (.invokevirtual 14, 3) := by decide +kernel
theorem dL_isDay_421 : decode (am_b mL_isDay) 421 = .ok (.if_icmp .gt 5, 3) := by decide +kernel
theorem dL_isDay_424 : decode (am_b mL_isDay) 424 = .ok (.iconst 0, 1) := by decide +kernel
theorem dL_isDay_425 : decode (am_b mL_isDay) 425 = .ok (.ireturn, 1) := by decide +kernel
theorem dL_isDay_426 : decode (am_b mL_isDay) 426 = .ok (.iinc 18 1, 3) := by decide +kernel
theorem dL_isDay_429 : decode (am_b mL_isDay) 429 = .ok (.goto (-76), 3) := by decide +kernel
theorem dL_isDay_432 : decode (am_b mL_isDay) 432 = .ok (.iinc 13 1, 3) := by decide +kernel
theorem dL_isDay_435 : decode (am_b mL_isDay) 435 = .ok (.goto (-242), 3) := by decide +kernel
theorem dL_isDay_438 : decode (am_b mL_isDay) 438 = .ok (.iconst 0, 1) := by decide +kernel
theorem dL_isDay_439 : decode (am_b mL_isDay) 439 = .ok (.istore 13, 2) := by decide +kernel
theorem dL_isDay_441 : decode (am_b mL_isDay) 441 = .ok (.iconst 0, 1) := by decide +kernel
theorem dL_isDay_442 : decode (am_b mL_isDay) 442 = .ok (.istore 14, 2) := by decide +kernel
theorem dL_isDay_444 : decode (am_b mL_isDay) 444 = .ok (.iload 14, 2) := by decide +kernel
theorem dL_isDay_446 : decode (am_b mL_isDay) 446 = .ok (.bipush 12, 2) := by decide +kernel
theorem dL_isDay_448 : decode (am_b mL_isDay) 448 = .ok (.if_icmp .ge 21, 3) := by decide +kernel
theorem dL_isDay_451 : decode (am_b mL_isDay) 451 = .ok (.iload 13, 2) := by decide +kernel
theorem dL_isDay_453 : decode (am_b mL_isDay) 453 = .ok (.aload_n 0, 1) := by decide +kernel
theorem dL_isDay_454 : decode (am_b mL_isDay) 454 = .ok (.iload 14, 2) := by decide +kernel
theorem dL_isDay_456 : decode (am_b mL_isDay) 456 = .ok (.iconst 2, 1) := by decide +kernel
theorem dL_isDay_457 : decode (am_b mL_isDay) 457 = .ok (.invokevirtual 8, 3) := by decide +kernel
theorem dL_isDay_460 : decode (am_b mL_isDay) 460 = .ok (.iadd, 1) := by decide +kernel
theorem dL_isDay_461 : decode (am_b mL_isDay) 461 = .ok (.istore 13, 2) := by decide +kernel
theorem dL_isDay_463 : decode (am_b mL_isDay) 463 = .ok (.iinc 14 1, 3) := by decide +kernel
theorem dL_isDay_466 : decode (am_b mL_isDay) 466 = .ok (.goto (-22), 3) := by decide +kernel
theorem dL_isDay_469 : decode (am_b mL_isDay) 469 = .ok (.iload 10, 2) := by decide +kernel
theorem dL_isDay_471 : decode (am_b mL_isDay) 471 = .ok (.iload_n 3, 1) := by decide +kernel
theorem dL_isDay_472 : decode (am_b mL_isDay) 472 = .ok (.if_icmp .ne 68, 3) := by decide +kernel
theorem dL_isDay_475 : decode (am_b mL_isDay) 475 = .ok (.iload 11, 2) := by decide +kernel
theorem dL_isDay_477 : decode (am_b mL_isDay) 477 = .ok (.iconst 1, 1) := by decide +kernel
theorem dL_isDay_478 : decode (am_b mL_isDay) 478 = .ok (.iload_n 2, 1) := by decide +kernel
theorem dL_isDay_479 : decode (am_b mL_isDay) 479 = .ok (.ishl, 1) := by decide +kernel
theorem dL_isDay_480 : decode (am_b mL_isDay) 480 = .ok (.iconst 1, 1) := by decide +kernel
theorem dL_isDay_481 : decode (am_b mL_isDay) 481 = .ok (.isub, 1) := by decide +kernel
theorem dL_isDay_482 : decode (am_b mL_isDay) 482 = .ok (.if_icmp .ne 58, 3) := by decide +kernel
theorem dL_isDay_485 : decode (am_b mL_isDay) 485 = .ok (.iload 12, 2) := by decide +kernel
theorem dL_isDay_487 : decode (am_b mL_isDay) 487 = .ok (.iload 9, 2) := by decide +kernel
theorem dL_isDay_489 : decode (am_b mL_isDay) 489 = .ok (.if_icmp .ne 51, 3) := by decide +kernel
theorem dL_isDay_492 : decode (am_b mL_isDay) 492 = .ok (.aload_n 0, 1) := by decide +kernel
theorem dL_isDay_493 : decode (am_b mL_isDay) 493 = .ok (.bipush 8, 2) := by decide +kernel
theorem dL_isDay_495 : decode (am_b mL_isDay) 495 = .ok (.invokevirtual 14, 3) := by decide +kernel
theorem dL_isDay_498 : decode (am_b mL_isDay) 498 = .ok (.iload_n 2, 1) := by decide +kernel
theorem dL_isDay_499 : decode (am_b mL_isDay) 499 = .ok (.if_icmp .eq 8, 3) := by decide +kernel
theorem dL_isDay_502 : decode (am_b mL_isDay) 502 = .ok (.iload 13, 2) := by decide +kernel
theorem dL_isDay_504 : decode (am_b mL_isDay) 504 = .ok (.ifCond .ne 36, 3) := by decide +kernel
theorem dL_isDay_507 : decode (am_b mL_isDay) 507 = .ok (.iload_n 2, 1) := by decide +kernel
theorem dL_isDay_508 : decode (am_b mL_isDay) 508 = .ok (.bipush 8, 2) := by decide +kernel
theorem dL_isDay_510 : decode (am_b mL_isDay) 510 = .ok (.if_icmp .eq 13, 3) := by decide +kernel
theorem dL_isDay_513 : decode (am_b mL_isDay) 513 = .ok (.aload_n 0, 1) := by decide +kernel
theorem dL_isDay_514 : decode (am_b mL_isDay) 514 = .ok (.iload_n 2, 1) := by decide +kernel
theorem dL_isDay_515 : decode (am_b mL_isDay) 515 = .ok (.invokevirtual 38, 3) := by decide +kernel
theorem dL_isDay_518 : decode (am_b mL_isDay) 518 = .ok (.bipush (-6), 2) := by decide +kernel
theorem dL_isDay_520 : decode (am_b mL_isDay) 520 = .ok (.if_icmp .ne 20, 3) := by decide +kernel
theorem dL_isDay_523 : decode (am_b mL_isDay) 523 = .ok (.iload 5, 2) := by decide +kernel
theorem dL_isDay_525 : decode (am_b mL_isDay) 525 = .ok (.iload_n 3, 1) := by decide +kernel
theorem dL_isDay_526 : decode (am_b mL_isDay) 526 = .ok (.isub, 1) := by decide +kernel
theorem dL_isDay_527 : decode (am_b mL_isDay) 527 = .ok (.aload_n 0, 1) := by decide +kernel
theorem dL_isDay_528 : decode (am_b mL_isDay) 528 = .ok (.iconst 1, 1) := by decide +kernel
theorem dL_isDay_529 : decode (am_b mL_isDay) 529 = .ok (.iconst 0, 1) := by decide +kernel
theorem dL_isDay_530 : decode (am_b mL_isDay) 530 = .ok (.invokevirtual 31, 3) := by decide +kernel
theorem dL_isDay_533 : decode (am_b mL_isDay) 533 = .ok (.if_icmp .ne 7, 3) := by decide +kernel
theorem dL_isDay_536 : decode (am_b mL_isDay) 536 = .ok (.iconst 1, 1) := by decide +kernel
theorem dL_isDay_537 : decode (am_b mL_isDay) 537 = .ok (.goto 4, 3) := by decide +kernel
theorem dL_isDay_540 : decode (am_b mL_isDay) 540 = .ok (.iconst 0, 1) := by decide +kernel
theorem dL_isDay_541 : decode (am_b mL_isDay) 541 = .ok (.ireturn, 1) := by decide +kernel
theorem dL_does_0 : decode (am_b mL_does) 0 = .ok (.aload_n 0, 1) := by decide +kernel
theorem dL_does_1 : decode (am_b mL_does) 1 = .ok (.bipush 7, 2) := by decide +kernel
theorem dL_does_3 : decode (am_b mL_does) 3 = .ok (.invokevirtual 14, 3) := by decide +kernel
theorem dL_does_6 : decode (am_b mL_does) 6 = .ok (.istore 4, 2) := by decide +kernel
theorem dL_does_8 : decode (am_b mL_does) 8 = .ok (.iload 4, 2) := by decide +kernel
theorem dL_does_10 : decode (am_b mL_does) 10 = .ok (.ifCond .ne 7, 3) := by decide +kernel
theorem dL_does_13 : decode (am_b mL_does) 13 = .ok (.iconst 0, 1) := by decide +kernel
theorem dL_does_14 : decode (am_b mL_does) 14 = .ok (.goto 11, 3) := by decide +kernel
theorem dL_does_17 : decode (am_b mL_does) 17 = .ok (.iload_n 2, 1) := by decide +kernel
theorem dL_does_18 : decode (am_b mL_does) 18 = .ok (.iconst 4, 1) := by decide +kernel
theorem dL_does_19 : decode (am_b mL_does) 19 = .ok (.ishr, 1) := by decide +kernel
theorem dL_does_20 : decode (am_b mL_does) 20 = .ok (.iload 4, 2) := by decide +kernel
theorem dL_does_22 : decode (am_b mL_does) 22 = .ok (.invokestatic 56, 3) := by decide +kernel
theorem dL_does_25 : decode (am_b mL_does) 25 = .ok (.istore 5, 2) := by decide +kernel
theorem dL_does_27 : decode (am_b mL_does) 27 = .ok (.iload_n 2, 1) := by decide +kernel
theorem dL_does_28 : decode (am_b mL_does) 28 = .ok (.bipush 16, 2) := by decide +kernel
theorem dL_does_30 : decode (am_b mL_does) 30 = .ok (.invokestatic 56, 3) := by decide +kernel
theorem dL_does_33 : decode (am_b mL_does) 33 = .ok (.tableswitch 609 0 11 #[63, 63, 63, 150, 235, 235, 347, 452, 452, 539, 589, 589], 63) := by decide +kernel
theorem dL_does_96 : decode (am_b mL_does) 96 = .ok (.iconst 1, 1) := by decide +kernel
theorem dL_does_97 : decode (am_b mL_does) 97 = .ok (.iload_n 3, 1) := by decide +kernel
theorem dL_does_98 : decode (am_b mL_does) 98 = .ok (.bipush 9, 2) := by decide +kernel
theorem dL_does_100 : decode (am_b mL_does) 100 = .ok (.invokestatic 56, 3) := by decide +kernel
theorem dL_does_103 : decode (am_b mL_does) 103 = .ok (.iadd, 1) := by decide +kernel
theorem dL_does_104 : decode (am_b mL_does) 104 = .ok (.istore 6, 2) := by decide +kernel
theorem dL_does_106 : decode (am_b mL_does) 106 = .ok (.aload_n 0, 1) := by decide +kernel
theorem dL_does_107 : decode (am_b mL_does) 107 = .ok (.iload 6, 2) := by decide +kernel
theorem dL_does_109 : decode (am_b mL_does) 109 = .ok (.invokevirtual 59, 3) := by decide +kernel
theorem dL_does_112 : decode (am_b mL_does) 112 = .ok (.istore 7, 2) := by decide +kernel
theorem dL_does_114 : decode (am_b mL_does) 114 = .ok (.iload 4, 2) := by decide +kernel
theorem dL_does_116 : decode (am_b mL_does) 116 = .ok (.bipush 8, 2) := by decide +kernel
theorem dL_does_118 : decode (am_b mL_does) 118 = .ok (.if_icmp .ne 18, 3) := by decide +kernel
theorem dL_does_121 : decode (am_b mL_does) 121 = .ok (.iload 7, 2) := by decide +kernel
theorem dL_does_123 : decode (am_b mL_does) 123 = .ok (.bipush (-4), 2) := by decide +kernel
theorem dL_does_125 : decode (am_b mL_does) 125 = .ok (.if_icmp .ne 7, 3) := by decide +kernel
theorem dL_does_128 : decode (am_b mL_does) 128 = .ok (.iconst 1, 1) := by decide +kernel
theorem dL_does_129 : decode (am_b mL_does) 129 = .ok (.goto 53, 3) := by decide +kernel
theorem dL_does_132 : decode (am_b mL_does) 132 = .ok (.iconst 0, 1) := by decide +kernel
theorem dL_does_133 : decode (am_b mL_does) 133 = .ok (.goto 49, 3) := by decide +kernel
theorem dL_does_136 : decode (am_b mL_does) 136 = .ok (.iload 7, 2) := by decide +kernel
theorem dL_does_138 : decode (am_b mL_does) 138 = .ok (.iload 4, 2) := by decide +kernel
theorem dL_does_140 : decode (am_b mL_does) 140 = .ok (.if_icmp .ne 41, 3) := by decide +kernel
theorem dL_does_143 : decode (am_b mL_does) 143 = .ok (.aload_n 0, 1) := by decide +kernel
theorem dL_does_144 : decode (am_b mL_does) 144 = .ok (.iload 4, 2) := by decide +kernel
theorem dL_does_146 : decode (am_b mL_does) 146 = .ok (.iconst 0, 1) := by decide +kernel
theorem dL_does_147 : decode (am_b mL_does) 147 = .ok (.invokevirtual 18, 3) := by decide +kernel
theorem dL_does_150 : decode (am_b mL_does) 150 = .ok (.iload 6, 2) := by decide +kernel
theorem dL_does_152 : decode (am_b mL_does) 152 = .ok (.if_icmp .ne 29, 3) := by decide +kernel
theorem dL_does_155 : decode (am_b mL_does) 155 = .ok (.aload_n 0, 1) := by decide +kernel
theorem dL_does_156 : decode (am_b mL_does) 156 = .ok (.iload 4, 2) := by decide +kernel
theorem dL_does_158 : decode (am_b mL_does) 158 = .ok (.iconst 1, 1) := by decide +kernel
theorem dL_does_159 : decode (am_b mL_does) 159 = .ok (.invokevirtual 18, 3) := by decide +kernel
theorem dL_does_162 : decode (am_b mL_does) 162 = .ok (.bipush (-6), 2) := by decide +kernel
theorem dL_does_164 : decode (am_b mL_does) 164 = .ok (.if_icmp .ne 17, 3) := by decide +kernel
theorem dL_does_167 : decode (am_b mL_does) 167 = .ok (.aload_n 0, 1) := by decide +kernel
theorem dL_does_168 : decode (am_b mL_does) 168 = .ok (.iload 4, 2) := by decide +kernel
theorem dL_does_170 : decode (am_b mL_does) 170 = .ok (.iconst 5, 1) := by decide +kernel
theorem dL_does_171 : decode (am_b mL_does) 171 = .ok (.invokevirtual 18, 3) := by decide +kernel
theorem dL_does_174 : decode (am_b mL_does) 174 = .ok (.ifCond .ne 7, 3) := by decide +kernel
theorem dL_does_177 : decode (am_b mL_does) 177 = .ok (.iconst 1, 1) := by decide +kernel
theorem dL_does_178 : decode (am_b mL_does) 178 = .ok (.goto 4, 3) := by decide +kernel
theorem dL_does_181 : decode (am_b mL_does) 181 = .ok (.iconst 0, 1) := by decide +kernel
theorem dL_does_182 : decode (am_b mL_does) 182 = .ok (.ireturn, 1) := by decide +kernel
theorem dL_does_183 : decode (am_b mL_does) 183 = .ok (.aload_n 0, 1) := by decide +kernel
theorem dL_does_184 : decode (am_b mL_does) 184 = .ok (.bipush 14, 2) := by decide +kernel
theorem dL_does_186 : decode (am_b mL_does) 186 = .ok (.invokevirtual 14, 3) := by decide +kernel
theorem dL_does_189 : decode (am_b mL_does) 189 = .ok (.istore 8, 2) := by decide +kernel
theorem dL_does_191 : decode (am_b mL_does) 191 = .ok (.aload_n 0, 1) := by decide +kernel
theorem dL_does_192 : decode (am_b mL_does) 192 = .ok (.iload 5, 2) := by decide +kernel
theorem dL_does_194 : decode (am_b mL_does) 194 = .ok (.iconst 5, 1) := by decide +kernel
theorem dL_does_195 : decode (am_b mL_does) 195 = .ok (.invokevirtual 18, 3) := by decide +kernel
theorem dL_does_198 : decode (am_b mL_does) 198 = .ok (.istore 9, 2) := by decide +kernel
theorem dL_does_200 : decode (am_b mL_does) 200 = .ok (.iload_n 2, 1) := by decide +kernel
theorem dL_does_201 : decode (am_b mL_does) 201 = .ok (.bipush 9, 2) := by decide +kernel
theorem dL_does_203 : decode (am_b mL_does) 203 = .ok (.ishr, 1) := by decide +kernel
theorem dL_does_204 : decode (am_b mL_does) 204 = .ok (.iconst 1, 1) := by decide +kernel
theorem dL_does_205 : decode (am_b mL_does) 205 = .ok (.iand, 1) := by decide +kernel
theorem dL_does_206 : decode (am_b mL_does) 206 = .ok (.ifCond .eq 56, 3) := by decide +kernel
theorem dL_does_209 : decode (am_b mL_does) 209 = .ok (.aload_n 0, 1) := by decide +kernel
theorem dL_does_210 : decode (am_b mL_does) 210 = .ok (.iload 5, 2) := by decide +kernel
theorem dL_does_212 : decode (am_b mL_does) 212 = .ok (.invokevirtual 62, 3) := by decide +kernel
theorem dL_does_215 : decode (am_b mL_does) 215 = .ok (.iload 4, 2) := by decide +kernel
theorem dL_does_217 : decode (am_b mL_does) 217 = .ok (.ifCond .ne 7, 3) := by decide +kernel
theorem dL_does_220 : decode (am_b mL_does) 220 = .ok (.iconst (-1), 1) := by decide +kernel
theorem dL_does_221 : decode (am_b mL_does) 221 = .ok (.goto 5, 3) := by decide +kernel
theorem dL_does_224 : decode (am_b mL_does) 224 = .ok (.iload 9, 2) := by decide +kernel
theorem dL_does_226 : decode (am_b mL_does) 226 = .ok (.if_icmp .ne 40, 3) := by decide +kernel
theorem dL_does_229 : decode (am_b mL_does) 229 = .ok (.aload_n 0, 1) := by decide +kernel
theorem dL_does_230 : decode (am_b mL_does) 230 = .ok (.bipush 14, 2) := by decide +kernel
theorem dL_does_232 : decode (am_b mL_does) 232 = .ok (.invokevirtual 14, 3) := by decide +kernel
theorem dL_does_235 : decode (am_b mL_does) 235 = .ok (.iload 8, 2) := by decide +kernel
theorem dL_does_237 : decode (am_b mL_does) 237 = .ok (.if_icmp .ne 29, 3) := by decide +kernel
theorem dL_does_240 : decode (am_b mL_does) 240 = .ok (.aload_n 0, 1) := by decide +kernel
theorem dL_does_241 : decode (am_b mL_does) 241 = .ok (.bipush 7, 2) := by decide +kernel
theorem dL_does_243 : decode (am_b mL_does) 243 = .ok (.invokevirtual 14, 3) := by decide +kernel
theorem dL_does_246 : decode (am_b mL_does) 246 = .ok (.iload 4, 2) := by decide +kernel
theorem dL_does_248 : decode (am_b mL_does) 248 = .ok (.ifCond .ne 7, 3) := by decide +kernel
theorem dL_does_251 : decode (am_b mL_does) 251 = .ok (.iconst 0, 1) := by decide +kernel
theorem dL_does_252 : decode (am_b mL_does) 252 = .ok (.goto 7, 3) := by decide +kernel
theorem dL_does_255 : decode (am_b mL_does) 255 = .ok (.iload 4, 2) := by decide +kernel
theorem dL_does_257 : decode (am_b mL_does) 257 = .ok (.iconst 1, 1) := by decide +kernel
theorem dL_does_258 : decode (am_b mL_does) 258 = .ok (.isub, 1) := by decide +kernel
theorem dL_does_259 : decode (am_b mL_does) 259 = .ok (.if_icmp .ne 7, 3) := by decide +kernel
theorem dL_does_262 : decode (am_b mL_does) 262 = .ok (.iconst 1, 1) := by decide +kernel
theorem dL_does_263 : decode (am_b mL_does) 263 = .ok (.goto 4, 3) := by decide +kernel
theorem dL_does_266 : decode (am_b mL_does) 266 = .ok (.iconst 0, 1) := by decide +kernel
theorem dL_does_267 : decode (am_b mL_does) 267 = .ok (.ireturn, 1) := by decide +kernel
theorem dL_does_268 : decode (am_b mL_does) 268 = .ok (.iload_n 3, 1) := by decide +kernel
theorem dL_does_269 : decode (am_b mL_does) 269 = .ok (.bipush 13, 2) := by decide +kernel
theorem dL_does_271 : decode (am_b mL_does) 271 = .ok (.invokestatic 56, 3) := by decide +kernel
theorem dL_does_274 : decode (am_b mL_does) 274 = .ok (.bipush 12, 2) := by decide +kernel
theorem dL_does_276 : decode (am_b mL_does) 276 = .ok (.if_icmp .ne 8, 3) := by decide +kernel
theorem dL_does_279 : decode (am_b mL_does) 279 = .ok (.bipush (-6), 2) := by decide +kernel
theorem dL_does_281 : decode (am_b mL_does) 281 = .ok (.goto 9, 3) := by decide +kernel
theorem dL_does_284 : decode (am_b mL_does) 284 = .ok (.iload_n 3, 1) := by decide +kernel
theorem dL_does_285 : decode (am_b mL_does) 285 = .ok (.bipush 13, 2) := by decide +kernel
theorem dL_does_287 : decode (am_b mL_does) 287 = .ok (.invokestatic 56, 3) := by decide +kernel
theorem dL_does_290 : decode (am_b mL_does) 290 = .ok (.istore 10, 2) := by decide +kernel
theorem dL_does_292 : decode (am_b mL_does) 292 = .ok (.iload 10, 2) := by decide +kernel
theorem dL_does_294 : decode (am_b mL_does) 294 = .ok (.ifCond .ge 8, 3) := by decide +kernel
theorem dL_does_297 : decode (am_b mL_does) 297 = .ok (.bipush (-6), 2) := by decide +kernel
theorem dL_does_299 : decode (am_b mL_does) 299 = .ok (.goto 10, 3) := by decide +kernel
theorem dL_does_302 : decode (am_b mL_does) 302 = .ok (.aload_n 0, 1) := by decide +kernel
theorem dL_does_303 : decode (am_b mL_does) 303 = .ok (.iload 10, 2) := by decide +kernel
theorem dL_does_305 : decode (am_b mL_does) 305 = .ok (.iconst 1, 1) := by decide +kernel
theorem dL_does_306 : decode (am_b mL_does) 306 = .ok (.invokevirtual 8, 3) := by decide +kernel
theorem dL_does_309 : decode (am_b mL_does) 309 = .ok (.istore 11, 2) := by decide +kernel
theorem dL_does_311 : decode (am_b mL_does) 311 = .ok (.iload 4, 2) := by decide +kernel
theorem dL_does_313 : decode (am_b mL_does) 313 = .ok (.ifCond .ne 7, 3) := by decide +kernel
theorem dL_does_316 : decode (am_b mL_does) 316 = .ok (.iconst 0, 1) := by decide +kernel
theorem dL_does_317 : decode (am_b mL_does) 317 = .ok (.goto 10, 3) := by decide +kernel
theorem dL_does_320 : decode (am_b mL_does) 320 = .ok (.aload_n 0, 1) := by decide +kernel
theorem dL_does_321 : decode (am_b mL_does) 321 = .ok (.iload 5, 2) := by decide +kernel
theorem dL_does_323 : decode (am_b mL_does) 323 = .ok (.iconst 1, 1) := by decide +kernel
theorem dL_does_324 : decode (am_b mL_does) 324 = .ok (.invokevirtual 18, 3) := by decide +kernel
theorem dL_does_327 : decode (am_b mL_does) 327 = .ok (.istore 12, 2) := by decide +kernel
theorem dL_does_329 : decode (am_b mL_does) 329 = .ok (.aload_n 0, 1) := by decide +kernel
theorem dL_does_330 : decode (am_b mL_does) 330 = .ok (.iload 5, 2) := by decide +kernel
theorem dL_does_332 : decode (am_b mL_does) 332 = .ok (.iload 10, 2) := by decide +kernel
theorem dL_does_334 : decode (am_b mL_does) 334 = .ok (.invokevirtual 47, 3) := by decide +kernel
theorem dL_does_337 : decode (am_b mL_does) 337 = .ok (.istore 13, 2) := by decide +kernel
theorem dL_does_339 : decode (am_b mL_does) 339 = .ok (.iload 13, 2) := by decide +kernel
theorem dL_does_341 : decode (am_b mL_does) 341 = .ok (.iload 4, 2) := by decide +kernel
theorem dL_does_343 : decode (am_b mL_does) 343 = .ok (.ifCond .ne 7, 3) := by decide +kernel
theorem dL_does_346 : decode (am_b mL_does) 346 = .ok (.iconst (-1), 1) := by decide +kernel
theorem dL_does_347 : decode (am_b mL_does) 347 = .ok (.goto 24, 3) := by decide +kernel
theorem dL_does_350 : decode (am_b mL_does) 350 = .ok (.iload 11, 2) := by decide +kernel
theorem dL_does_352 : decode (am_b mL_does) 352 = .ok (.bipush (-6), 2) := by decide +kernel
theorem dL_does_354 : decode (am_b mL_does) 354 = .ok (.if_icmp .eq 15, 3) := by decide +kernel
theorem dL_does_357 : decode (am_b mL_does) 357 = .ok (.iload 11, 2) := by decide +kernel
theorem dL_does_359 : decode (am_b mL_does) 359 = .ok (.iload 5, 2) := by decide +kernel
theorem dL_does_361 : decode (am_b mL_does) 361 = .ok (.if_icmp .eq 8, 3) := by decide +kernel
theorem dL_does_364 : decode (am_b mL_does) 364 = .ok (.bipush (-5), 2) := by decide +kernel
theorem dL_does_366 : decode (am_b mL_does) 366 = .ok (.goto 5, 3) := by decide +kernel
theorem dL_does_369 : decode (am_b mL_does) 369 = .ok (.iload 12, 2) := by decide +kernel
theorem dL_does_371 : decode (am_b mL_does) 371 = .ok (.if_icmp .ne 7, 3) := by decide +kernel
theorem dL_does_374 : decode (am_b mL_does) 374 = .ok (.iconst 1, 1) := by decide +kernel
theorem dL_does_375 : decode (am_b mL_does) 375 = .ok (.goto 4, 3) := by decide +kernel
theorem dL_does_378 : decode (am_b mL_does) 378 = .ok (.iconst 0, 1) := by decide +kernel
theorem dL_does_379 : decode (am_b mL_does) 379 = .ok (.ireturn, 1) := by decide +kernel
theorem dL_does_380 : decode (am_b mL_does) 380 = .ok (.iload_n 3, 1) := by decide +kernel
theorem dL_does_381 : decode (am_b mL_does) 381 = .ok (.bipush 12, 2) := by decide +kernel
theorem dL_does_383 : decode (am_b mL_does) 383 = .ok (.invokestatic 56, 3) := by decide +kernel
theorem dL_does_386 : decode (am_b mL_does) 386 = .ok (.istore 14, 2) := by decide +kernel
theorem dL_does_388 : decode (am_b mL_does) 388 = .ok (.iload_n 3, 1) := by decide +kernel
theorem dL_does_389 : decode (am_b mL_does) 389 = .ok (.iconst 4, 1) := by decide +kernel
theorem dL_does_390 : decode (am_b mL_does) 390 = .ok (.ishr, 1) := by decide +kernel
theorem dL_does_391 : decode (am_b mL_does) 391 = .ok (.iconst 1, 1) := by decide +kernel
theorem dL_does_392 : decode (am_b mL_does) 392 = .ok (.iand, 1) := by decide +kernel
theorem dL_does_393 : decode (am_b mL_does) 393 = .ok (.iconst 1, 1) := by decide +kernel
theorem dL_does_394 : decode (am_b mL_does) 394 = .ok (.if_icmp .ne 7, 3) := by decide +kernel
theorem dL_does_397 : decode (am_b mL_does) 397 = .ok (.iconst 1, 1) := by decide +kernel
theorem dL_does_398 : decode (am_b mL_does) 398 = .ok (.goto 4, 3) := by decide +kernel
theorem dL_does_401 : decode (am_b mL_does) 401 = .ok (.iconst 0, 1) := by decide +kernel
theorem dL_does_402 : decode (am_b mL_does) 402 = .ok (.istore 15, 2) := by decide +kernel
theorem dL_does_404 : decode (am_b mL_does) 404 = .ok (.aload_n 0, 1) := by decide +kernel
theorem dL_does_405 : decode (am_b mL_does) 405 = .ok (.bipush 9, 2) := by decide +kernel
theorem dL_does_407 : decode (am_b mL_does) 407 = .ok (.invokevirtual 14, 3) := by decide +kernel
theorem dL_does_410 : decode (am_b mL_does) 410 = .ok (.istore 16, 2) := by decide +kernel
theorem dL_does_412 : decode (am_b mL_does) 412 = .ok (.aload_n 0, 1) := by decide +kernel
theorem dL_does_413 : decode (am_b mL_does) 413 = .ok (.iload 14, 2) := by decide +kernel
theorem dL_does_415 : decode (am_b mL_does) 415 = .ok (.iload 15, 2) := by decide +kernel
theorem dL_does_417 : decode (am_b mL_does) 417 = .ok (.invokevirtual 65, 3) := by decide +kernel
theorem dL_does_420 : decode (am_b mL_does) 420 = .ok (.istore 17, 2) := by decide +kernel
theorem dL_does_422 : decode (am_b mL_does) 422 = .ok (.iload 16, 2) := by decide +kernel
theorem dL_does_424 : decode (am_b mL_does) 424 = .ok (.iload 14, 2) := by decide +kernel
theorem dL_does_426 : decode (am_b mL_does) 426 = .ok (.ishr, 1) := by decide +kernel
theorem dL_does_427 : decode (am_b mL_does) 427 = .ok (.iconst 1, 1) := by decide +kernel
theorem dL_does_428 : decode (am_b mL_does) 428 = .ok (.iand, 1) := by decide +kernel
theorem dL_does_429 : decode (am_b mL_does) 429 = .ok (.iload 15, 2) := by decide +kernel
theorem dL_does_431 : decode (am_b mL_does) 431 = .ok (.ifCond .eq 7, 3) := by decide +kernel
theorem dL_does_434 : decode (am_b mL_does) 434 = .ok (.iconst 1, 1) := by decide +kernel
theorem dL_does_435 : decode (am_b mL_does) 435 = .ok (.goto 4, 3) := by decide +kernel
theorem dL_does_438 : decode (am_b mL_does) 438 = .ok (.iconst 0, 1) := by decide +kernel
theorem dL_does_439 : decode (am_b mL_does) 439 = .ok (.if_icmp .ne 18, 3) := by decide +kernel
theorem dL_does_442 : decode (am_b mL_does) 442 = .ok (.iload 17, 2) := by decide +kernel
theorem dL_does_444 : decode (am_b mL_does) 444 = .ok (.bipush (-5), 2) := by decide +kernel
theorem dL_does_446 : decode (am_b mL_does) 446 = .ok (.if_icmp .ne 7, 3) := by decide +kernel
theorem dL_does_449 : decode (am_b mL_does) 449 = .ok (.iconst 1, 1) := by decide +kernel
theorem dL_does_450 : decode (am_b mL_does) 450 = .ok (.goto 34, 3) := by decide +kernel
theorem dL_does_453 : decode (am_b mL_does) 453 = .ok (.iconst 0, 1) := by decide +kernel
theorem dL_does_454 : decode (am_b mL_does) 454 = .ok (.goto 30, 3) := by decide +kernel
theorem dL_does_457 : decode (am_b mL_does) 457 = .ok (.iload 17, 2) := by decide +kernel
theorem dL_does_459 : decode (am_b mL_does) 459 = .ok (.iconst (-1), 1) := by decide +kernel
theorem dL_does_460 : decode (am_b mL_does) 460 = .ok (.if_icmp .le 23, 3) := by decide +kernel
theorem dL_does_463 : decode (am_b mL_does) 463 = .ok (.aload_n 0, 1) := by decide +kernel
theorem dL_does_464 : decode (am_b mL_does) 464 = .ok (.bipush 9, 2) := by decide +kernel
theorem dL_does_466 : decode (am_b mL_does) 466 = .ok (.invokevirtual 14, 3) := by decide +kernel
theorem dL_does_469 : decode (am_b mL_does) 469 = .ok (.iload 16, 2) := by decide +kernel
theorem dL_does_471 : decode (am_b mL_does) 471 = .ok (.iconst 1, 1) := by decide +kernel
theorem dL_does_472 : decode (am_b mL_does) 472 = .ok (.iload 14, 2) := by decide +kernel
theorem dL_does_474 : decode (am_b mL_does) 474 = .ok (.ishl, 1) := by decide +kernel
theorem dL_does_475 : decode (am_b mL_does) 475 = .ok (.ixor, 1) := by decide +kernel
theorem dL_does_476 : decode (am_b mL_does) 476 = .ok (.if_icmp .ne 7, 3) := by decide +kernel
theorem dL_does_479 : decode (am_b mL_does) 479 = .ok (.iconst 1, 1) := by decide +kernel
theorem dL_does_480 : decode (am_b mL_does) 480 = .ok (.goto 4, 3) := by decide +kernel
theorem dL_does_483 : decode (am_b mL_does) 483 = .ok (.iconst 0, 1) := by decide +kernel
theorem dL_does_484 : decode (am_b mL_does) 484 = .ok (.ireturn, 1) := by decide +kernel
theorem dL_does_485 : decode (am_b mL_does) 485 = .ok (.iload_n 2, 1) := by decide +kernel
theorem dL_does_486 : decode (am_b mL_does) 486 = .ok (.iconst 4, 1) := by decide +kernel
theorem dL_does_487 : decode (am_b mL_does) 487 = .ok (.ishr, 1) := by decide +kernel
theorem dL_does_488 : decode (am_b mL_does) 488 = .ok (.bipush 6, 2) := by decide +kernel
theorem dL_does_490 : decode (am_b mL_does) 490 = .ok (.invokestatic 56, 3) := by decide +kernel
theorem dL_does_493 : decode (am_b mL_does) 493 = .ok (.istore 18, 2) := by decide +kernel
theorem dL_does_495 : decode (am_b mL_does) 495 = .ok (.iload 18, 2) := by decide +kernel
theorem dL_does_497 : decode (am_b mL_does) 497 = .ok (.iconst 2, 1) := by decide +kernel
theorem dL_does_498 : decode (am_b mL_does) 498 = .ok (.if_icmp .ge 13, 3) := by decide +kernel
theorem dL_does_501 : decode (am_b mL_does) 501 = .ok (.iload_n 3, 1) := by decide +kernel
theorem dL_does_502 : decode (am_b mL_does) 502 = .ok (.sipush 1000, 3) := by decide +kernel
theorem dL_does_505 : decode (am_b mL_does) 505 = .ok (.invokestatic 56, 3) := by decide +kernel
theorem dL_does_508 : decode (am_b mL_does) 508 = .ok (.goto 24, 3) := by decide +kernel
theorem dL_does_511 : decode (am_b mL_does) 511 = .ok (.iload 18, 2) := by decide +kernel
theorem dL_does_513 : decode (am_b mL_does) 513 = .ok (.iconst 4, 1) := by decide +kernel
theorem dL_does_514 : decode (am_b mL_does) 514 = .ok (.if_icmp .ne 12, 3) := by decide +kernel
theorem dL_does_517 : decode (am_b mL_does) 517 = .ok (.iload_n 3, 1) := by decide +kernel
theorem dL_does_518 : decode (am_b mL_does) 518 = .ok (.bipush 6, 2) := by decide +kernel
theorem dL_does_520 : decode (am_b mL_does) 520 = .ok (.invokestatic 56, 3) := by decide +kernel
theorem dL_does_523 : decode (am_b mL_does) 523 = .ok (.goto 9, 3) := by decide +kernel
theorem dL_does_526 : decode (am_b mL_does) 526 = .ok (.iload_n 3, 1) := by decide +kernel
theorem dL_does_527 : decode (am_b mL_does) 527 = .ok (.bipush 101, 2) := by decide +kernel
theorem dL_does_529 : decode (am_b mL_does) 529 = .ok (.invokestatic 56, 3) := by decide +kernel
theorem dL_does_532 : decode (am_b mL_does) 532 = .ok (.istore 19, 2) := by decide +kernel
theorem dL_does_534 : decode (am_b mL_does) 534 = .ok (.aload_n 0, 1) := by decide +kernel
theorem dL_does_535 : decode (am_b mL_does) 535 = .ok (.iload 18, 2) := by decide +kernel
theorem dL_does_537 : decode (am_b mL_does) 537 = .ok (.invokevirtual 14, 3) := by decide +kernel
theorem dL_does_540 : decode (am_b mL_does) 540 = .ok (.istore 20, 2) := by decide +kernel
theorem dL_does_542 : decode (am_b mL_does) 542 = .ok (.aload_n 0, 1) := by decide +kernel
theorem dL_does_543 : decode (am_b mL_does) 543 = .ok (.iload 18, 2) := by decide +kernel
theorem dL_does_545 : decode (am_b mL_does) 545 = .ok (.iload 19, 2) := by decide +kernel
theorem dL_does_547 : decode (am_b mL_does) 547 = .ok (.invokevirtual 69, 3) := by decide +kernel
theorem dL_does_550 : decode (am_b mL_does) 550 = .ok (.iload 20, 2) := by decide +kernel
theorem dL_does_552 : decode (am_b mL_does) 552 = .ok (.if_icmp .ne 18, 3) := by decide +kernel
theorem dL_does_555 : decode (am_b mL_does) 555 = .ok (.aload_n 0, 1) := by decide +kernel
theorem dL_does_556 : decode (am_b mL_does) 556 = .ok (.iload 18, 2) := by decide +kernel
theorem dL_does_558 : decode (am_b mL_does) 558 = .ok (.invokevirtual 14, 3) := by decide +kernel
theorem dL_does_561 : decode (am_b mL_does) 561 = .ok (.iload 19, 2) := by decide +kernel
theorem dL_does_563 : decode (am_b mL_does) 563 = .ok (.if_icmp .ne 7, 3) := by decide +kernel
theorem dL_does_566 : decode (am_b mL_does) 566 = .ok (.iconst 1, 1) := by decide +kernel
theorem dL_does_567 : decode (am_b mL_does) 567 = .ok (.goto 4, 3) := by decide +kernel
theorem dL_does_570 : decode (am_b mL_does) 570 = .ok (.iconst 0, 1) := by decide +kernel
theorem dL_does_571 : decode (am_b mL_does) 571 = .ok (.ireturn, 1) := by decide +kernel
theorem dL_does_572 : decode (am_b mL_does) 572 = .ok (.aload_n 0, 1) := by decide +kernel
theorem dL_does_573 : decode (am_b mL_does) 573 = .ok (.bipush 6, 2) := by decide +kernel
theorem dL_does_575 : decode (am_b mL_does) 575 = .ok (.invokevirtual 14, 3) := by decide +kernel
theorem dL_does_578 : decode (am_b mL_does) 578 = .ok (.istore 21, 2) := by decide +kernel
theorem dL_does_580 : decode (am_b mL_does) 580 = .ok (.aload_n 0, 1) := by decide +kernel
theorem dL_does_581 : decode (am_b mL_does) 581 = .ok (.iload_n 3, 1) := by decide +kernel
theorem dL_does_582 : decode (am_b mL_does) 582 = .ok (.ldc 7, 2) := by decide +kernel
theorem dL_does_584 : decode (am_b mL_does) 584 = .ok (.iand, 1) := by decide +kernel
theorem dL_does_585 : decode (am_b mL_does) 585 = .ok (.invokevirtual 72, 3) := by decide +kernel
theorem dL_does_588 : decode (am_b mL_does) 588 = .ok (.iload 21, 2) := by decide +kernel
theorem dL_does_590 : decode (am_b mL_does) 590 = .ok (.if_icmp .ne 30, 3) := by decide +kernel
theorem dL_does_593 : decode (am_b mL_does) 593 = .ok (.aload_n 0, 1) := by decide +kernel
theorem dL_does_594 : decode (am_b mL_does) 594 = .ok (.bipush 6, 2) := by decide +kernel
theorem dL_does_596 : decode (am_b mL_does) 596 = .ok (.invokevirtual 14, 3) := by decide +kernel
theorem dL_does_599 : decode (am_b mL_does) 599 = .ok (.iload_n 3, 1) := by decide +kernel
theorem dL_does_600 : decode (am_b mL_does) 600 = .ok (.ldc 7, 2) := by decide +kernel
theorem dL_does_602 : decode (am_b mL_does) 602 = .ok (.iand, 1) := by decide +kernel
theorem dL_does_603 : decode (am_b mL_does) 603 = .ok (.if_icmp .ne 17, 3) := by decide +kernel
theorem dL_does_606 : decode (am_b mL_does) 606 = .ok (.aload_n 0, 1) := by decide +kernel
theorem dL_does_607 : decode (am_b mL_does) 607 = .ok (.iconst (-1), 1) := by decide +kernel
theorem dL_does_608 : decode (am_b mL_does) 608 = .ok (.invokevirtual 72, 3) := by decide +kernel
theorem dL_does_611 : decode (am_b mL_does) 611 = .ok (.bipush (-2), 2) := by decide +kernel
theorem dL_does_613 : decode (am_b mL_does) 613 = .ok (.if_icmp .ne 7, 3) := by decide +kernel
theorem dL_does_616 : decode (am_b mL_does) 616 = .ok (.iconst 1, 1) := by decide +kernel
theorem dL_does_617 : decode (am_b mL_does) 617 = .ok (.goto 4, 3) := by decide +kernel
theorem dL_does_620 : decode (am_b mL_does) 620 = .ok (.iconst 0, 1) := by decide +kernel
theorem dL_does_621 : decode (am_b mL_does) 621 = .ok (.ireturn, 1) := by decide +kernel
theorem dL_does_622 : decode (am_b mL_does) 622 = .ok (.iload 4, 2) := by decide +kernel
theorem dL_does_624 : decode (am_b mL_does) 624 = .ok (.ifCond .eq 12, 3) := by decide +kernel
theorem dL_does_627 : decode (am_b mL_does) 627 = .ok (.aload_n 0, 1) := by decide +kernel
theorem dL_does_628 : decode (am_b mL_does) 628 = .ok (.iload 5, 2) := by decide +kernel
theorem dL_does_630 : decode (am_b mL_does) 630 = .ok (.invokestatic 75, 3) := by decide +kernel
theorem dL_does_633 : decode (am_b mL_does) 633 = .ok (.ifCond .eq 7, 3) := by decide +kernel
theorem dL_does_636 : decode (am_b mL_does) 636 = .ok (.iconst 1, 1) := by decide +kernel
theorem dL_does_637 : decode (am_b mL_does) 637 = .ok (.goto 4, 3) := by decide +kernel
theorem dL_does_640 : decode (am_b mL_does) 640 = .ok (.iconst 0, 1) := by decide +kernel
theorem dL_does_641 : decode (am_b mL_does) 641 = .ok (.ireturn, 1) := by decide +kernel
theorem dL_does_642 : decode (am_b mL_does) 642 = .ok (.aload_n 0, 1) := by decide +kernel
theorem dL_does_643 : decode (am_b mL_does) 643 = .ok (.bipush 12, 2) := by decide +kernel
theorem dL_does_645 : decode (am_b mL_does) 645 = .ok (.invokevirtual 14, 3) := by decide +kernel
theorem dL_does_648 : decode (am_b mL_does) 648 = .ok (.sipush 9990, 3) := by decide +kernel
theorem dL_does_651 : decode (am_b mL_does) 651 = .ok (.if_icmp .gt 11, 3) := by decide +kernel
theorem dL_does_654 : decode (am_b mL_does) 654 = .ok (.aload_n 0, 1) := by decide +kernel
theorem dL_does_655 : decode (am_b mL_does) 655 = .ok (.aload_n 1, 1) := by decide +kernel
theorem dL_does_656 : decode (am_b mL_does) 656 = .ok (.invokestatic 79, 3) := by decide +kernel
theorem dL_does_659 : decode (am_b mL_does) 659 = .ok (.ifCond .eq 7, 3) := by decide +kernel
theorem dL_does_662 : decode (am_b mL_does) 662 = .ok (.iconst 1, 1) := by decide +kernel
theorem dL_does_663 : decode (am_b mL_does) 663 = .ok (.goto 4, 3) := by decide +kernel
theorem dL_does_666 : decode (am_b mL_does) 666 = .ok (.iconst 0, 1) := by decide +kernel
theorem dL_does_667 : decode (am_b mL_does) 667 = .ok (.ireturn, 1) := by decide +kernel
theorem dL_law_0 : decode (am_b mL_law) 0 = .ok (.new 9, 3) := by decide +kernel
theorem dL_law_3 : decode (am_b mL_law) 3 = .ok (.dup, 1) := by decide +kernel
theorem dL_law_4 : decode (am_b mL_law) 4 = .ok (.invokespecial 83, 3) := by decide +kernel
theorem dL_law_7 : decode (am_b mL_law) 7 = .ok (.astore_n 1, 1) := by decide +kernel
theorem dL_law_8 : decode (am_b mL_law) 8 = .ok (.bipush 8, 2) := by decide +kernel
theorem dL_law_10 : decode (am_b mL_law) 10 = .ok (.newarray .int, 2) := by decide +kernel
theorem dL_law_12 : decode (am_b mL_law) 12 = .ok (.astore_n 2, 1) := by decide +kernel
theorem dL_law_13 : decode (am_b mL_law) 13 = .ok (.aload_n 1, 1) := by decide +kernel
theorem dL_law_14 : decode (am_b mL_law) 14 = .ok (.bipush 6, 2) := by decide +kernel
theorem dL_law_16 : decode (am_b mL_law) 16 = .ok (.invokevirtual 14, 3) := by decide +kernel
theorem dL_law_19 : decode (am_b mL_law) 19 = .ok (.iconst 1, 1) := by decide +kernel
theorem dL_law_20 : decode (am_b mL_law) 20 = .ok (.if_icmp .ne 55, 3) := by decide +kernel
theorem dL_law_23 : decode (am_b mL_law) 23 = .ok (.aload_n 1, 1) := by decide +kernel
theorem dL_law_24 : decode (am_b mL_law) 24 = .ok (.bipush 9, 2) := by decide +kernel
theorem dL_law_26 : decode (am_b mL_law) 26 = .ok (.invokevirtual 14, 3) := by decide +kernel
theorem dL_law_29 : decode (am_b mL_law) 29 = .ok (.bipush 48, 2) := by decide +kernel
theorem dL_law_31 : decode (am_b mL_law) 31 = .ok (.if_icmp .ne 44, 3) := by decide +kernel
theorem dL_law_34 : decode (am_b mL_law) 34 = .ok (.aload_n 1, 1) := by decide +kernel
theorem dL_law_35 : decode (am_b mL_law) 35 = .ok (.bipush 11, 2) := by decide +kernel
theorem dL_law_37 : decode (am_b mL_law) 37 = .ok (.invokevirtual 14, 3) := by decide +kernel
theorem dL_law_40 : decode (am_b mL_law) 40 = .ok (.sipush 300, 3) := by decide +kernel
theorem dL_law_43 : decode (am_b mL_law) 43 = .ok (.if_icmp .ne 32, 3) := by decide +kernel
theorem dL_law_46 : decode (am_b mL_law) 46 = .ok (.aload_n 1, 1) := by decide +kernel
theorem dL_law_47 : decode (am_b mL_law) 47 = .ok (.iconst 0, 1) := by decide +kernel
theorem dL_law_48 : decode (am_b mL_law) 48 = .ok (.invokevirtual 38, 3) := by decide +kernel
theorem dL_law_51 : decode (am_b mL_law) 51 = .ok (.bipush (-6), 2) := by decide +kernel
theorem dL_law_53 : decode (am_b mL_law) 53 = .ok (.if_icmp .ne 22, 3) := by decide +kernel
theorem dL_law_56 : decode (am_b mL_law) 56 = .ok (.aload_n 1, 1) := by decide +kernel
theorem dL_law_57 : decode (am_b mL_law) 57 = .ok (.bipush 8, 2) := by decide +kernel
theorem dL_law_59 : decode (am_b mL_law) 59 = .ok (.invokevirtual 38, 3) := by decide +kernel
theorem dL_law_62 : decode (am_b mL_law) 62 = .ok (.iconst (-1), 1) := by decide +kernel
theorem dL_law_63 : decode (am_b mL_law) 63 = .ok (.if_icmp .ne 12, 3) := by decide +kernel
theorem dL_law_66 : decode (am_b mL_law) 66 = .ok (.aload_n 1, 1) := by decide +kernel
theorem dL_law_67 : decode (am_b mL_law) 67 = .ok (.invokevirtual 84, 3) := by decide +kernel
theorem dL_law_70 : decode (am_b mL_law) 70 = .ok (.bipush (-5), 2) := by decide +kernel
theorem dL_law_72 : decode (am_b mL_law) 72 = .ok (.if_icmp .eq 5, 3) := by decide +kernel
theorem dL_law_75 : decode (am_b mL_law) 75 = .ok (.iconst 0, 1) := by decide +kernel
theorem dL_law_76 : decode (am_b mL_law) 76 = .ok (.ireturn, 1) := by decide +kernel
theorem dL_law_77 : decode (am_b mL_law) 77 = .ok (.iconst 0, 1) := by decide +kernel
theorem dL_law_78 : decode (am_b mL_law) 78 = .ok (.istore_n 3, 1) := by decide +kernel
theorem dL_law_79 : decode (am_b mL_law) 79 = .ok (.iload_n 3, 1) := by decide +kernel
theorem dL_law_80 : decode (am_b mL_law) 80 = .ok (.bipush 80, 2) := by decide +kernel
theorem dL_law_82 : decode (am_b mL_law) 82 = .ok (.if_icmp .ge 56, 3) := by decide +kernel
theorem dL_law_85 : decode (am_b mL_law) 85 = .ok (.aload_n 1, 1) := by decide +kernel
theorem dL_law_86 : decode (am_b mL_law) 86 = .ok (.aload_n 2, 1) := by decide +kernel
theorem dL_law_87 : decode (am_b mL_law) 87 = .ok (.aload_n 0, 1) := by decide +kernel
theorem dL_law_88 : decode (am_b mL_law) 88 = .ok (.iconst 2, 1) := by decide +kernel
theorem dL_law_89 : decode (am_b mL_law) 89 = .ok (.iload_n 3, 1) := by decide +kernel
theorem dL_law_90 : decode (am_b mL_law) 90 = .ok (.imul, 1) := by decide +kernel
theorem dL_law_91 : decode (am_b mL_law) 91 = .ok (.invokestatic 87, 3) := by decide +kernel
theorem dL_law_94 : decode (am_b mL_law) 94 = .ok (.aload_n 0, 1) := by decide +kernel
theorem dL_law_95 : decode (am_b mL_law) 95 = .ok (.iconst 2, 1) := by decide +kernel
theorem dL_law_96 : decode (am_b mL_law) 96 = .ok (.iload_n 3, 1) := by decide +kernel
theorem dL_law_97 : decode (am_b mL_law) 97 = .ok (.imul, 1) := by decide +kernel
theorem dL_law_98 : decode (am_b mL_law) 98 = .ok (.iconst 1, 1) := by decide +kernel
theorem dL_law_99 : decode (am_b mL_law) 99 = .ok (.iadd, 1) := by decide +kernel
theorem dL_law_100 : decode (am_b mL_law) 100 = .ok (.invokestatic 87, 3) := by decide +kernel
theorem dL_law_103 : decode (am_b mL_law) 103 = .ok (.invokestatic 91, 3) := by decide +kernel
theorem dL_law_106 : decode (am_b mL_law) 106 = .ok (.ifCond .eq 24, 3) := by decide +kernel
theorem dL_law_109 : decode (am_b mL_law) 109 = .ok (.aload_n 1, 1) := by decide +kernel
theorem dL_law_110 : decode (am_b mL_law) 110 = .ok (.invokestatic 95, 3) := by decide +kernel
theorem dL_law_113 : decode (am_b mL_law) 113 = .ok (.ifCond .eq 17, 3) := by decide +kernel
theorem dL_law_116 : decode (am_b mL_law) 116 = .ok (.iload_n 3, 1) := by decide +kernel
theorem dL_law_117 : decode (am_b mL_law) 117 = .ok (.iconst 3, 1) := by decide +kernel
theorem dL_law_118 : decode (am_b mL_law) 118 = .ok (.irem, 1) := by decide +kernel
theorem dL_law_119 : decode (am_b mL_law) 119 = .ok (.iconst 1, 1) := by decide +kernel
theorem dL_law_120 : decode (am_b mL_law) 120 = .ok (.if_icmp .ne 12, 3) := by decide +kernel
theorem dL_law_123 : decode (am_b mL_law) 123 = .ok (.aload_n 1, 1) := by decide +kernel
theorem dL_law_124 : decode (am_b mL_law) 124 = .ok (.invokestatic 99, 3) := by decide +kernel
theorem dL_law_127 : decode (am_b mL_law) 127 = .ok (.ifCond .ne 5, 3) := by decide +kernel
theorem dL_law_130 : decode (am_b mL_law) 130 = .ok (.iconst 0, 1) := by decide +kernel
theorem dL_law_131 : decode (am_b mL_law) 131 = .ok (.ireturn, 1) := by decide +kernel
theorem dL_law_132 : decode (am_b mL_law) 132 = .ok (.iinc 3 1, 3) := by decide +kernel
theorem dL_law_135 : decode (am_b mL_law) 135 = .ok (.goto (-56), 3) := by decide +kernel
theorem dL_law_138 : decode (am_b mL_law) 138 = .ok (.aload_n 1, 1) := by decide +kernel
theorem dL_law_139 : decode (am_b mL_law) 139 = .ok (.bipush 10, 2) := by decide +kernel
theorem dL_law_141 : decode (am_b mL_law) 141 = .ok (.invokevirtual 59, 3) := by decide +kernel
theorem dL_law_144 : decode (am_b mL_law) 144 = .ok (.bipush (-2), 2) := by decide +kernel
theorem dL_law_146 : decode (am_b mL_law) 146 = .ok (.if_icmp .ne 75, 3) := by decide +kernel
theorem dL_law_149 : decode (am_b mL_law) 149 = .ok (.aload_n 1, 1) := by decide +kernel
theorem dL_law_150 : decode (am_b mL_law) 150 = .ok (.bipush 6, 2) := by decide +kernel
theorem dL_law_152 : decode (am_b mL_law) 152 = .ok (.iconst 0, 1) := by decide +kernel
theorem dL_law_153 : decode (am_b mL_law) 153 = .ok (.invokevirtual 69, 3) := by decide +kernel
theorem dL_law_156 : decode (am_b mL_law) 156 = .ok (.bipush (-2), 2) := by decide +kernel
theorem dL_law_158 : decode (am_b mL_law) 158 = .ok (.if_icmp .ne 63, 3) := by decide +kernel
theorem dL_law_161 : decode (am_b mL_law) 161 = .ok (.aload_n 1, 1) := by decide +kernel
theorem dL_law_162 : decode (am_b mL_law) 162 = .ok (.iconst 4, 1) := by decide +kernel
theorem dL_law_163 : decode (am_b mL_law) 163 = .ok (.bipush 6, 2) := by decide +kernel
theorem dL_law_165 : decode (am_b mL_law) 165 = .ok (.invokevirtual 69, 3) := by decide +kernel
theorem dL_law_168 : decode (am_b mL_law) 168 = .ok (.bipush (-2), 2) := by decide +kernel
theorem dL_law_170 : decode (am_b mL_law) 170 = .ok (.if_icmp .ne 51, 3) := by decide +kernel
theorem dL_law_173 : decode (am_b mL_law) 173 = .ok (.aload_n 1, 1) := by decide +kernel
theorem dL_law_174 : decode (am_b mL_law) 174 = .ok (.bipush 101, 2) := by decide +kernel
theorem dL_law_176 : decode (am_b mL_law) 176 = .ok (.iconst 0, 1) := by decide +kernel
theorem dL_law_177 : decode (am_b mL_law) 177 = .ok (.invokevirtual 31, 3) := by decide +kernel
theorem dL_law_180 : decode (am_b mL_law) 180 = .ok (.bipush (-2), 2) := by decide +kernel
theorem dL_law_182 : decode (am_b mL_law) 182 = .ok (.if_icmp .ne 39, 3) := by decide +kernel
theorem dL_law_185 : decode (am_b mL_law) 185 = .ok (.aload_n 1, 1) := by decide +kernel
theorem dL_law_186 : decode (am_b mL_law) 186 = .ok (.bipush 17, 2) := by decide +kernel
theorem dL_law_188 : decode (am_b mL_law) 188 = .ok (.invokevirtual 14, 3) := by decide +kernel
theorem dL_law_191 : decode (am_b mL_law) 191 = .ok (.bipush (-2), 2) := by decide +kernel
theorem dL_law_193 : decode (am_b mL_law) 193 = .ok (.if_icmp .ne 28, 3) := by decide +kernel
theorem dL_law_196 : decode (am_b mL_law) 196 = .ok (.aload_n 1, 1) := by decide +kernel
theorem dL_law_197 : decode (am_b mL_law) 197 = .ok (.iconst 0, 1) := by decide +kernel
theorem dL_law_198 : decode (am_b mL_law) 198 = .ok (.bipush 12, 2) := by decide +kernel
theorem dL_law_200 : decode (am_b mL_law) 200 = .ok (.invokevirtual 44, 3) := by decide +kernel
theorem dL_law_203 : decode (am_b mL_law) 203 = .ok (.iconst (-1), 1) := by decide +kernel
theorem dL_law_204 : decode (am_b mL_law) 204 = .ok (.if_icmp .ne 17, 3) := by decide +kernel
theorem dL_law_207 : decode (am_b mL_law) 207 = .ok (.aload_n 1, 1) := by decide +kernel
theorem dL_law_208 : decode (am_b mL_law) 208 = .ok (.bipush 8, 2) := by decide +kernel
theorem dL_law_210 : decode (am_b mL_law) 210 = .ok (.invokevirtual 41, 3) := by decide +kernel
theorem dL_law_213 : decode (am_b mL_law) 213 = .ok (.iconst (-1), 1) := by decide +kernel
theorem dL_law_214 : decode (am_b mL_law) 214 = .ok (.if_icmp .ne 7, 3) := by decide +kernel
theorem dL_law_217 : decode (am_b mL_law) 217 = .ok (.iconst 1, 1) := by decide +kernel
theorem dL_law_218 : decode (am_b mL_law) 218 = .ok (.goto 4, 3) := by decide +kernel
theorem dL_law_221 : decode (am_b mL_law) 221 = .ok (.iconst 0, 1) := by decide +kernel
theorem dL_law_222 : decode (am_b mL_law) 222 = .ok (.ireturn, 1) := by decide +kernel
