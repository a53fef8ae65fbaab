theorem dL_cell_0 : decode cL_cell 0 = .ok (.iload_n 1, 1) := by decide +kernel
theorem dL_cell_1 : decode cL_cell 1 = .ok (.aload_n 0, 1) := by decide +kernel
theorem dL_cell_2 : decode cL_cell 2 = .ok (.arraylength, 1) := by decide +kernel
theorem dL_cell_3 : decode cL_cell 3 = .ok (.if_icmp .ge 9, 3) := by decide +kernel
theorem dL_cell_6 : decode cL_cell 6 = .ok (.aload_n 0, 1) := by decide +kernel
theorem dL_cell_7 : decode cL_cell 7 = .ok (.iload_n 1, 1) := by decide +kernel
theorem dL_cell_8 : decode cL_cell 8 = .ok (.iaload, 1) := by decide +kernel
theorem dL_cell_9 : decode cL_cell 9 = .ok (.goto 15, 3) := by decide +kernel
theorem dL_cell_12 : decode cL_cell 12 = .ok (.sipush 7919, 3) := by decide +kernel
theorem dL_cell_15 : decode cL_cell 15 = .ok (.iload_n 1, 1) := by decide +kernel
theorem dL_cell_16 : decode cL_cell 16 = .ok (.iconst 3, 1) := by decide +kernel
theorem dL_cell_17 : decode cL_cell 17 = .ok (.iadd, 1) := by decide +kernel
theorem dL_cell_18 : decode cL_cell 18 = .ok (.imul, 1) := by decide +kernel
theorem dL_cell_19 : decode cL_cell 19 = .ok (.iload_n 1, 1) := by decide +kernel
theorem dL_cell_20 : decode cL_cell 20 = .ok (.bipush 11, 2) := by decide +kernel
theorem dL_cell_22 : decode cL_cell 22 = .ok (.iadd, 1) := by decide +kernel
theorem dL_cell_23 : decode cL_cell 23 = .ok (.imul, 1) := by decide +kernel
theorem dL_cell_24 : decode cL_cell 24 = .ok (.ireturn, 1) := by decide +kernel
theorem dL_low_0 : decode cL_low 0 = .ok (.iload_n 0, 1) := by decide +kernel
theorem dL_low_1 : decode cL_low 1 = .ok (.ldc 7, 2) := by decide +kernel
theorem dL_low_3 : decode cL_low 3 = .ok (.iand, 1) := by decide +kernel
theorem dL_low_4 : decode cL_low 4 = .ok (.iload_n 1, 1) := by decide +kernel
theorem dL_low_5 : decode cL_low 5 = .ok (.irem, 1) := by decide +kernel
theorem dL_low_6 : decode cL_low 6 = .ok (.ireturn, 1) := by decide +kernel
theorem dL_ones_0 : decode cL_ones 0 = .ok (.iload_n 0, 1) := by decide +kernel
theorem dL_ones_1 : decode cL_ones 1 = .ok (.iconst 1, 1) := by decide +kernel
theorem dL_ones_2 : decode cL_ones 2 = .ok (.iand, 1) := by decide +kernel
theorem dL_ones_3 : decode cL_ones 3 = .ok (.iload_n 0, 1) := by decide +kernel
theorem dL_ones_4 : decode cL_ones 4 = .ok (.iconst 1, 1) := by decide +kernel
theorem dL_ones_5 : decode cL_ones 5 = .ok (.ishr, 1) := by decide +kernel
theorem dL_ones_6 : decode cL_ones 6 = .ok (.iconst 1, 1) := by decide +kernel
theorem dL_ones_7 : decode cL_ones 7 = .ok (.iand, 1) := by decide +kernel
theorem dL_ones_8 : decode cL_ones 8 = .ok (.iadd, 1) := by decide +kernel
theorem dL_ones_9 : decode cL_ones 9 = .ok (.iload_n 0, 1) := by decide +kernel
theorem dL_ones_10 : decode cL_ones 10 = .ok (.iconst 2, 1) := by decide +kernel
theorem dL_ones_11 : decode cL_ones 11 = .ok (.ishr, 1) := by decide +kernel
theorem dL_ones_12 : decode cL_ones 12 = .ok (.iconst 1, 1) := by decide +kernel
theorem dL_ones_13 : decode cL_ones 13 = .ok (.iand, 1) := by decide +kernel
theorem dL_ones_14 : decode cL_ones 14 = .ok (.iadd, 1) := by decide +kernel
theorem dL_ones_15 : decode cL_ones 15 = .ok (.ireturn, 1) := by decide +kernel
theorem dL_mark_0 : decode cL_mark 0 = .ok (.aload_n 0, 1) := by decide +kernel
theorem dL_mark_1 : decode cL_mark 1 = .ok (.iload_n 2, 1) := by decide +kernel
theorem dL_mark_2 : decode cL_mark 2 = .ok (.iconst 1, 1) := by decide +kernel
theorem dL_mark_3 : decode cL_mark 3 = .ok (.invokevirtual 8, 3) := by decide +kernel
theorem dL_mark_6 : decode cL_mark 6 = .ok (.iload_n 1, 1) := by decide +kernel
theorem dL_mark_7 : decode cL_mark 7 = .ok (.ishr, 1) := by decide +kernel
theorem dL_mark_8 : decode cL_mark 8 = .ok (.iconst 1, 1) := by decide +kernel
theorem dL_mark_9 : decode cL_mark 9 = .ok (.iand, 1) := by decide +kernel
theorem dL_mark_10 : decode cL_mark 10 = .ok (.iconst 1, 1) := by decide +kernel
theorem dL_mark_11 : decode cL_mark 11 = .ok (.if_icmp .ne 7, 3) := by decide +kernel
theorem dL_mark_14 : decode cL_mark 14 = .ok (.iconst 1, 1) := by decide +kernel
theorem dL_mark_15 : decode cL_mark 15 = .ok (.goto 22, 3) := by decide +kernel
theorem dL_mark_18 : decode cL_mark 18 = .ok (.aload_n 0, 1) := by decide +kernel
theorem dL_mark_19 : decode cL_mark 19 = .ok (.iload_n 2, 1) := by decide +kernel
theorem dL_mark_20 : decode cL_mark 20 = .ok (.iconst 2, 1) := by decide +kernel
theorem dL_mark_21 : decode cL_mark 21 = .ok (.invokevirtual 8, 3) := by decide +kernel
theorem dL_mark_24 : decode cL_mark 24 = .ok (.iload_n 1, 1) := by decide +kernel
theorem dL_mark_25 : decode cL_mark 25 = .ok (.ishr, 1) := by decide +kernel
theorem dL_mark_26 : decode cL_mark 26 = .ok (.iconst 1, 1) := by decide +kernel
theorem dL_mark_27 : decode cL_mark 27 = .ok (.iand, 1) := by decide +kernel
theorem dL_mark_28 : decode cL_mark 28 = .ok (.iconst 1, 1) := by decide +kernel
theorem dL_mark_29 : decode cL_mark 29 = .ok (.if_icmp .ne 7, 3) := by decide +kernel
theorem dL_mark_32 : decode cL_mark 32 = .ok (.iconst 2, 1) := by decide +kernel
theorem dL_mark_33 : decode cL_mark 33 = .ok (.goto 4, 3) := by decide +kernel
theorem dL_mark_36 : decode cL_mark 36 = .ok (.iconst 0, 1) := by decide +kernel
theorem dL_mark_37 : decode cL_mark 37 = .ok (.ireturn, 1) := by decide +kernel
theorem dL_areFrames_0 : decode cL_areFrames 0 = .ok (.iconst 4, 1) := by decide +kernel
theorem dL_areFrames_1 : decode cL_areFrames 1 = .ok (.newarray .int, 2) := by decide +kernel
theorem dL_areFrames_3 : decode cL_areFrames 3 = .ok (.astore_n 1, 1) := by decide +kernel
theorem dL_areFrames_4 : decode cL_areFrames 4 = .ok (.iconst 0, 1) := by decide +kernel
theorem dL_areFrames_5 : decode cL_areFrames 5 = .ok (.istore_n 2, 1) := by decide +kernel
theorem dL_areFrames_6 : decode cL_areFrames 6 = .ok (.iconst 0, 1) := by decide +kernel
theorem dL_areFrames_7 : decode cL_areFrames 7 = .ok (.istore_n 3, 1) := by decide +kernel
theorem dL_areFrames_8 : decode cL_areFrames 8 = .ok (.iconst 0, 1) := by decide +kernel
theorem dL_areFrames_9 : decode cL_areFrames 9 = .ok (.istore 4, 2) := by decide +kernel
theorem dL_areFrames_11 : decode cL_areFrames 11 = .ok (.iconst 0, 1) := by decide +kernel
theorem dL_areFrames_12 : decode cL_areFrames 12 = .ok (.istore 5, 2) := by decide +kernel
theorem dL_areFrames_14 : decode cL_areFrames 14 = .ok (.iconst 0, 1) := by decide +kernel
theorem dL_areFrames_15 : decode cL_areFrames 15 = .ok (.istore 6, 2) := by decide +kernel
theorem dL_areFrames_17 : decode cL_areFrames 17 = .ok (.iconst 0, 1) := by decide +kernel
theorem dL_areFrames_18 : decode cL_areFrames 18 = .ok (.istore 7, 2) := by decide +kernel
theorem dL_areFrames_20 : decode cL_areFrames 20 = .ok (.iconst 0, 1) := by decide +kernel
theorem dL_areFrames_21 : decode cL_areFrames 21 = .ok (.istore 8, 2) := by decide +kernel
theorem dL_areFrames_23 : decode cL_areFrames 23 = .ok (.iload 8, 2) := by decide +kernel
theorem dL_areFrames_25 : decode cL_areFrames 25 = .ok (.bipush 30, 2) := by decide +kernel
theorem dL_areFrames_27 : decode cL_areFrames 27 = .ok (.if_icmp .ge 430, 3) := by decide +kernel
theorem dL_areFrames_30 : decode cL_areFrames 30 = .ok (.aload_n 0, 1) := by decide +kernel
theorem dL_areFrames_31 : decode cL_areFrames 31 = .ok (.iload 8, 2) := by decide +kernel
theorem dL_areFrames_33 : decode cL_areFrames 33 = .ok (.iconst 0, 1) := by decide +kernel
theorem dL_areFrames_34 : decode cL_areFrames 34 = .ok (.invokevirtual 8, 3) := by decide +kernel
theorem dL_areFrames_37 : decode cL_areFrames 37 = .ok (.istore 9, 2) := by decide +kernel
theorem dL_areFrames_39 : decode cL_areFrames 39 = .ok (.aload_n 0, 1) := by decide +kernel
theorem dL_areFrames_40 : decode cL_areFrames 40 = .ok (.iload 8, 2) := by decide +kernel
theorem dL_areFrames_42 : decode cL_areFrames 42 = .ok (.iconst 1, 1) := by decide +kernel
theorem dL_areFrames_43 : decode cL_areFrames 43 = .ok (.invokevirtual 8, 3) := by decide +kernel
theorem dL_areFrames_46 : decode cL_areFrames 46 = .ok (.istore 10, 2) := by decide +kernel
theorem dL_areFrames_48 : decode cL_areFrames 48 = .ok (.aload_n 0, 1) := by decide +kernel
theorem dL_areFrames_49 : decode cL_areFrames 49 = .ok (.iload 8, 2) := by decide +kernel
theorem dL_areFrames_51 : decode cL_areFrames 51 = .ok (.iconst 2, 1) := by decide +kernel
theorem dL_areFrames_52 : decode cL_areFrames 52 = .ok (.invokevirtual 8, 3) := by decide +kernel
theorem dL_areFrames_55 : decode cL_areFrames 55 = .ok (.istore 11, 2) := by decide +kernel
theorem dL_areFrames_57 : decode cL_areFrames 57 = .ok (.aload_n 0, 1) := by decide +kernel
theorem dL_areFrames_58 : decode cL_areFrames 58 = .ok (.iload 8, 2) := by decide +kernel
theorem dL_areFrames_60 : decode cL_areFrames 60 = .ok (.iconst 4, 1) := by decide +kernel
theorem dL_areFrames_61 : decode cL_areFrames 61 = .ok (.invokevirtual 8, 3) := by decide +kernel
theorem dL_areFrames_64 : decode cL_areFrames 64 = .ok (.istore 12, 2) := by decide +kernel
theorem dL_areFrames_66 : decode cL_areFrames 66 = .ok (.iload 9, 2) := by decide +kernel
theorem dL_areFrames_68 : decode cL_areFrames 68 = .ok (.iconst 1, 1) := by decide +kernel
theorem dL_areFrames_69 : decode cL_areFrames 69 = .ok (.if_icmp .eq 9, 3) := by decide +kernel
theorem dL_areFrames_72 : decode cL_areFrames 72 = .ok (.iload 9, 2) := by decide +kernel
theorem dL_areFrames_74 : decode cL_areFrames 74 = .ok (.iconst 3, 1) := by decide +kernel
theorem dL_areFrames_75 : decode cL_areFrames 75 = .ok (.if_icmp .ne 7, 3) := by decide +kernel
theorem dL_areFrames_78 : decode cL_areFrames 78 = .ok (.iconst 1, 1) := by decide +kernel
theorem dL_areFrames_79 : decode cL_areFrames 79 = .ok (.goto 4, 3) := by decide +kernel
theorem dL_areFrames_82 : decode cL_areFrames 82 = .ok (.iconst 0, 1) := by decide +kernel
theorem dL_areFrames_83 : decode cL_areFrames 83 = .ok (.istore 13, 2) := by decide +kernel
theorem dL_areFrames_85 : decode cL_areFrames 85 = .ok (.iload 9, 2) := by decide +kernel
theorem dL_areFrames_87 : decode cL_areFrames 87 = .ok (.ifCond .lt 93, 3) := by decide +kernel
theorem dL_areFrames_90 : decode cL_areFrames 90 = .ok (.iload 9, 2) := by decide +kernel
theorem dL_areFrames_92 : decode cL_areFrames 92 = .ok (.iconst 4, 1) := by decide +kernel
theorem dL_areFrames_93 : decode cL_areFrames 93 = .ok (.if_icmp .ge 87, 3) := by decide +kernel
theorem dL_areFrames_96 : decode cL_areFrames 96 = .ok (.iload 10, 2) := by decide +kernel
theorem dL_areFrames_98 : decode cL_areFrames 98 = .ok (.iload 11, 2) := by decide +kernel
theorem dL_areFrames_100 : decode cL_areFrames 100 = .ok (.iand, 1) := by decide +kernel
theorem dL_areFrames_101 : decode cL_areFrames 101 = .ok (.ifCond .ne 79, 3) := by decide +kernel
theorem dL_areFrames_104 : decode cL_areFrames 104 = .ok (.iload 9, 2) := by decide +kernel
theorem dL_areFrames_106 : decode cL_areFrames 106 = .ok (.ifCond .eq 11, 3) := by decide +kernel
theorem dL_areFrames_109 : decode cL_areFrames 109 = .ok (.iload 10, 2) := by decide +kernel
theorem dL_areFrames_111 : decode cL_areFrames 111 = .ok (.iload 11, 2) := by decide +kernel
theorem dL_areFrames_113 : decode cL_areFrames 113 = .ok (.iadd, 1) := by decide +kernel
theorem dL_areFrames_114 : decode cL_areFrames 114 = .ok (.ifCond .ne 66, 3) := by decide +kernel
theorem dL_areFrames_117 : decode cL_areFrames 117 = .ok (.iload 13, 2) := by decide +kernel
theorem dL_areFrames_119 : decode cL_areFrames 119 = .ok (.ifCond .eq 42, 3) := by decide +kernel
theorem dL_areFrames_122 : decode cL_areFrames 122 = .ok (.iload 12, 2) := by decide +kernel
theorem dL_areFrames_124 : decode cL_areFrames 124 = .ok (.ifCond .le 56, 3) := by decide +kernel
theorem dL_areFrames_127 : decode cL_areFrames 127 = .ok (.iload 12, 2) := by decide +kernel
theorem dL_areFrames_129 : decode cL_areFrames 129 = .ok (.iconst 4, 1) := by decide +kernel
theorem dL_areFrames_130 : decode cL_areFrames 130 = .ok (.if_icmp .ge 50, 3) := by decide +kernel
theorem dL_areFrames_133 : decode cL_areFrames 133 = .ok (.aload_n 0, 1) := by decide +kernel
theorem dL_areFrames_134 : decode cL_areFrames 134 = .ok (.iload 8, 2) := by decide +kernel
theorem dL_areFrames_136 : decode cL_areFrames 136 = .ok (.iconst 5, 1) := by decide +kernel
theorem dL_areFrames_137 : decode cL_areFrames 137 = .ok (.invokevirtual 8, 3) := by decide +kernel
theorem dL_areFrames_140 : decode cL_areFrames 140 = .ok (.ifCond .lt 40, 3) := by decide +kernel
theorem dL_areFrames_143 : decode cL_areFrames 143 = .ok (.aload_n 0, 1) := by decide +kernel
theorem dL_areFrames_144 : decode cL_areFrames 144 = .ok (.iload 8, 2) := by decide +kernel
theorem dL_areFrames_146 : decode cL_areFrames 146 = .ok (.iconst 5, 1) := by decide +kernel
theorem dL_areFrames_147 : decode cL_areFrames 147 = .ok (.invokevirtual 8, 3) := by decide +kernel
theorem dL_areFrames_150 : decode cL_areFrames 150 = .ok (.aload_n 0, 1) := by decide +kernel
theorem dL_areFrames_151 : decode cL_areFrames 151 = .ok (.iconst 0, 1) := by decide +kernel
theorem dL_areFrames_152 : decode cL_areFrames 152 = .ok (.invokevirtual 14, 3) := by decide +kernel
theorem dL_areFrames_155 : decode cL_areFrames 155 = .ok (.if_icmp .ge 25, 3) := by decide +kernel
theorem dL_areFrames_158 : decode cL_areFrames 158 = .ok (.goto 8, 3) := by decide +kernel
theorem dL_areFrames_161 : decode cL_areFrames 161 = .ok (.iload 12, 2) := by decide +kernel
theorem dL_areFrames_163 : decode cL_areFrames 163 = .ok (.ifCond .ne 17, 3) := by decide +kernel
theorem dL_areFrames_166 : decode cL_areFrames 166 = .ok (.aload_n 0, 1) := by decide +kernel
theorem dL_areFrames_167 : decode cL_areFrames 167 = .ok (.iload 8, 2) := by decide +kernel
theorem dL_areFrames_169 : decode cL_areFrames 169 = .ok (.iconst 3, 1) := by decide +kernel
theorem dL_areFrames_170 : decode cL_areFrames 170 = .ok (.invokevirtual 8, 3) := by decide +kernel
theorem dL_areFrames_173 : decode cL_areFrames 173 = .ok (.ifCond .lt 7, 3) := by decide +kernel
theorem dL_areFrames_176 : decode cL_areFrames 176 = .ok (.iconst 1, 1) := by decide +kernel
theorem dL_areFrames_177 : decode cL_areFrames 177 = .ok (.goto 4, 3) := by decide +kernel
theorem dL_areFrames_180 : decode cL_areFrames 180 = .ok (.iconst 0, 1) := by decide +kernel
theorem dL_areFrames_181 : decode cL_areFrames 181 = .ok (.istore 14, 2) := by decide +kernel
theorem dL_areFrames_183 : decode cL_areFrames 183 = .ok (.iload 9, 2) := by decide +kernel
theorem dL_areFrames_185 : decode cL_areFrames 185 = .ok (.ifCond .eq 7, 3) := by decide +kernel
theorem dL_areFrames_188 : decode cL_areFrames 188 = .ok (.iconst 1, 1) := by decide +kernel
theorem dL_areFrames_189 : decode cL_areFrames 189 = .ok (.goto 31, 3) := by decide +kernel
theorem dL_areFrames_192 : decode cL_areFrames 192 = .ok (.iload 11, 2) := by decide +kernel
theorem dL_areFrames_194 : decode cL_areFrames 194 = .ok (.ifCond .eq 7, 3) := by decide +kernel
theorem dL_areFrames_197 : decode cL_areFrames 197 = .ok (.iconst 2, 1) := by decide +kernel
theorem dL_areFrames_198 : decode cL_areFrames 198 = .ok (.goto 22, 3) := by decide +kernel
theorem dL_areFrames_201 : decode cL_areFrames 201 = .ok (.iload 10, 2) := by decide +kernel
theorem dL_areFrames_203 : decode cL_areFrames 203 = .ok (.invokestatic 18, 3) := by decide +kernel
theorem dL_areFrames_206 : decode cL_areFrames 206 = .ok (.aload_n 0, 1) := by decide +kernel
theorem dL_areFrames_207 : decode cL_areFrames 207 = .ok (.bipush 11, 2) := by decide +kernel
theorem dL_areFrames_209 : decode cL_areFrames 209 = .ok (.invokevirtual 14, 3) := by decide +kernel
theorem dL_areFrames_212 : decode cL_areFrames 212 = .ok (.if_icmp .ge 7, 3) := by decide +kernel
theorem dL_areFrames_215 : decode cL_areFrames 215 = .ok (.iconst 3, 1) := by decide +kernel
theorem dL_areFrames_216 : decode cL_areFrames 216 = .ok (.goto 4, 3) := by decide +kernel
theorem dL_areFrames_219 : decode cL_areFrames 219 = .ok (.iconst 0, 1) := by decide +kernel
theorem dL_areFrames_220 : decode cL_areFrames 220 = .ok (.istore 15, 2) := by decide +kernel
theorem dL_areFrames_222 : decode cL_areFrames 222 = .ok (.iload 14, 2) := by decide +kernel
theorem dL_areFrames_224 : decode cL_areFrames 224 = .ok (.ifCond .eq 28, 3) := by decide +kernel
theorem dL_areFrames_227 : decode cL_areFrames 227 = .ok (.aload_n 0, 1) := by decide +kernel
theorem dL_areFrames_228 : decode cL_areFrames 228 = .ok (.iload 8, 2) := by decide +kernel
theorem dL_areFrames_230 : decode cL_areFrames 230 = .ok (.invokevirtual 23, 3) := by decide +kernel
theorem dL_areFrames_233 : decode cL_areFrames 233 = .ok (.iload 15, 2) := by decide +kernel
theorem dL_areFrames_235 : decode cL_areFrames 235 = .ok (.if_icmp .ne 17, 3) := by decide +kernel
theorem dL_areFrames_238 : decode cL_areFrames 238 = .ok (.iload 9, 2) := by decide +kernel
theorem dL_areFrames_240 : decode cL_areFrames 240 = .ok (.ifCond .eq 14, 3) := by decide +kernel
theorem dL_areFrames_243 : decode cL_areFrames 243 = .ok (.aload_n 0, 1) := by decide +kernel
theorem dL_areFrames_244 : decode cL_areFrames 244 = .ok (.iload 8, 2) := by decide +kernel
theorem dL_areFrames_246 : decode cL_areFrames 246 = .ok (.invokevirtual 26, 3) := by decide +kernel
theorem dL_areFrames_249 : decode cL_areFrames 249 = .ok (.ifCond .eq 5, 3) := by decide +kernel
theorem dL_areFrames_252 : decode cL_areFrames 252 = .ok (.iconst 0, 1) := by decide +kernel
theorem dL_areFrames_253 : decode cL_areFrames 253 = .ok (.ireturn, 1) := by decide +kernel
theorem dL_areFrames_254 : decode cL_areFrames 254 = .ok (.aload_n 1, 1) := by decide +kernel
theorem dL_areFrames_255 : decode cL_areFrames 255 = .ok (.iload 9, 2) := by decide +kernel
theorem dL_areFrames_257 : decode cL_areFrames 257 = .ok (.dup2, 1) := by decide +kernel
theorem dL_areFrames_258 : decode cL_areFrames 258 = .ok (.iaload, 1) := by decide +kernel
theorem dL_areFrames_259 : decode cL_areFrames 259 = .ok (.iconst 1, 1) := by decide +kernel
theorem dL_areFrames_260 : decode cL_areFrames 260 = .ok (.iadd, 1) := by decide +kernel
theorem dL_areFrames_261 : decode cL_areFrames 261 = .ok (.iastore, 1) := by decide +kernel
theorem dL_areFrames_262 : decode cL_areFrames 262 = .ok (.iload_n 2, 1) := by decide +kernel
theorem dL_areFrames_263 : decode cL_areFrames 263 = .ok (.iload 9, 2) := by decide +kernel
theorem dL_areFrames_265 : decode cL_areFrames 265 = .ok (.iconst 1, 1) := by decide +kernel
theorem dL_areFrames_266 : decode cL_areFrames 266 = .ok (.if_icmp .ne 14, 3) := by decide +kernel
theorem dL_areFrames_269 : decode cL_areFrames 269 = .ok (.bipush 10, 2) := by decide +kernel
theorem dL_areFrames_271 : decode cL_areFrames 271 = .ok (.iload 12, 2) := by decide +kernel
theorem dL_areFrames_273 : decode cL_areFrames 273 = .ok (.imul, 1) := by decide +kernel
theorem dL_areFrames_274 : decode cL_areFrames 274 = .ok (.iload 12, 2) := by decide +kernel
theorem dL_areFrames_276 : decode cL_areFrames 276 = .ok (.imul, 1) := by decide +kernel
theorem dL_areFrames_277 : decode cL_areFrames 277 = .ok (.goto 4, 3) := by decide +kernel
theorem dL_areFrames_280 : decode cL_areFrames 280 = .ok (.iconst 0, 1) := by decide +kernel
theorem dL_areFrames_281 : decode cL_areFrames 281 = .ok (.iadd, 1) := by decide +kernel
theorem dL_areFrames_282 : decode cL_areFrames 282 = .ok (.istore_n 2, 1) := by decide +kernel
theorem dL_areFrames_283 : decode cL_areFrames 283 = .ok (.iload 13, 2) := by decide +kernel
theorem dL_areFrames_285 : decode cL_areFrames 285 = .ok (.ifCond .ne 7, 3) := by decide +kernel
theorem dL_areFrames_288 : decode cL_areFrames 288 = .ok (.iconst 0, 1) := by decide +kernel
theorem dL_areFrames_289 : decode cL_areFrames 289 = .ok (.goto 18, 3) := by decide +kernel
theorem dL_areFrames_292 : decode cL_areFrames 292 = .ok (.iload 8, 2) := by decide +kernel
theorem dL_areFrames_294 : decode cL_areFrames 294 = .ok (.bipush 6, 2) := by decide +kernel
theorem dL_areFrames_296 : decode cL_areFrames 296 = .ok (.irem, 1) := by decide +kernel
theorem dL_areFrames_297 : decode cL_areFrames 297 = .ok (.ifCond .ne 7, 3) := by decide +kernel
theorem dL_areFrames_300 : decode cL_areFrames 300 = .ok (.iconst 1, 1) := by decide +kernel
theorem dL_areFrames_301 : decode cL_areFrames 301 = .ok (.goto 6, 3) := by decide +kernel
theorem dL_areFrames_304 : decode cL_areFrames 304 = .ok (.iload_n 3, 1) := by decide +kernel
theorem dL_areFrames_305 : decode cL_areFrames 305 = .ok (.iconst 1, 1) := by decide +kernel
theorem dL_areFrames_306 : decode cL_areFrames 306 = .ok (.iadd, 1) := by decide +kernel
theorem dL_areFrames_307 : decode cL_areFrames 307 = .ok (.istore_n 3, 1) := by decide +kernel
theorem dL_areFrames_308 : decode cL_areFrames 308 = .ok (.iload_n 3, 1) := by decide +kernel
theorem dL_areFrames_309 : decode cL_areFrames 309 = .ok (.iload 4, 2) := by decide +kernel
theorem dL_areFrames_311 : decode cL_areFrames 311 = .ok (.if_icmp .le 7, 3) := by decide +kernel
theorem dL_areFrames_314 : decode cL_areFrames 314 = .ok (.iload_n 3, 1) := by decide +kernel
theorem dL_areFrames_315 : decode cL_areFrames 315 = .ok (.goto 5, 3) := by decide +kernel
theorem dL_areFrames_318 : decode cL_areFrames 318 = .ok (.iload 4, 2) := by decide +kernel
theorem dL_areFrames_320 : decode cL_areFrames 320 = .ok (.istore 4, 2) := by decide +kernel
theorem dL_areFrames_322 : decode cL_areFrames 322 = .ok (.iload 10, 2) := by decide +kernel
theorem dL_areFrames_324 : decode cL_areFrames 324 = .ok (.iload 11, 2) := by decide +kernel
theorem dL_areFrames_326 : decode cL_areFrames 326 = .ok (.iadd, 1) := by decide +kernel
theorem dL_areFrames_327 : decode cL_areFrames 327 = .ok (.ifCond .ne 7, 3) := by decide +kernel
theorem dL_areFrames_330 : decode cL_areFrames 330 = .ok (.iconst 1, 1) := by decide +kernel
theorem dL_areFrames_331 : decode cL_areFrames 331 = .ok (.goto 4, 3) := by decide +kernel
theorem dL_areFrames_334 : decode cL_areFrames 334 = .ok (.iconst 0, 1) := by decide +kernel
theorem dL_areFrames_335 : decode cL_areFrames 335 = .ok (.istore 16, 2) := by decide +kernel
theorem dL_areFrames_337 : decode cL_areFrames 337 = .ok (.iload 9, 2) := by decide +kernel
theorem dL_areFrames_339 : decode cL_areFrames 339 = .ok (.ifCond .ne 54, 3) := by decide +kernel
theorem dL_areFrames_342 : decode cL_areFrames 342 = .ok (.iload 11, 2) := by decide +kernel
theorem dL_areFrames_344 : decode cL_areFrames 344 = .ok (.invokestatic 18, 3) := by decide +kernel
theorem dL_areFrames_347 : decode cL_areFrames 347 = .ok (.iconst 1, 1) := by decide +kernel
theorem dL_areFrames_348 : decode cL_areFrames 348 = .ok (.if_icmp .gt 41, 3) := by decide +kernel
theorem dL_areFrames_351 : decode cL_areFrames 351 = .ok (.iload 11, 2) := by decide +kernel
theorem dL_areFrames_353 : decode cL_areFrames 353 = .ok (.ifCond .ne 40, 3) := by decide +kernel
theorem dL_areFrames_356 : decode cL_areFrames 356 = .ok (.iload 15, 2) := by decide +kernel
theorem dL_areFrames_358 : decode cL_areFrames 358 = .ok (.iconst 3, 1) := by decide +kernel
theorem dL_areFrames_359 : decode cL_areFrames 359 = .ok (.if_icmp .ne 34, 3) := by decide +kernel
theorem dL_areFrames_362 : decode cL_areFrames 362 = .ok (.iload 16, 2) := by decide +kernel
theorem dL_areFrames_364 : decode cL_areFrames 364 = .ok (.ifCond .eq 15, 3) := by decide +kernel
theorem dL_areFrames_367 : decode cL_areFrames 367 = .ok (.aload_n 0, 1) := by decide +kernel
theorem dL_areFrames_368 : decode cL_areFrames 368 = .ok (.iload 8, 2) := by decide +kernel
theorem dL_areFrames_370 : decode cL_areFrames 370 = .ok (.iconst 3, 1) := by decide +kernel
theorem dL_areFrames_371 : decode cL_areFrames 371 = .ok (.invokevirtual 8, 3) := by decide +kernel
theorem dL_areFrames_374 : decode cL_areFrames 374 = .ok (.iconst 1, 1) := by decide +kernel
theorem dL_areFrames_375 : decode cL_areFrames 375 = .ok (.iadd, 1) := by decide +kernel
theorem dL_areFrames_376 : decode cL_areFrames 376 = .ok (.goto 4, 3) := by decide +kernel
theorem dL_areFrames_379 : decode cL_areFrames 379 = .ok (.iconst 0, 1) := by decide +kernel
theorem dL_areFrames_380 : decode cL_areFrames 380 = .ok (.aload_n 0, 1) := by decide +kernel
theorem dL_areFrames_381 : decode cL_areFrames 381 = .ok (.bipush 14, 2) := by decide +kernel
theorem dL_areFrames_383 : decode cL_areFrames 383 = .ok (.invokevirtual 14, 3) := by decide +kernel
theorem dL_areFrames_386 : decode cL_areFrames 386 = .ok (.if_icmp .lt 7, 3) := by decide +kernel
theorem dL_areFrames_389 : decode cL_areFrames 389 = .ok (.iconst 1, 1) := by decide +kernel
theorem dL_areFrames_390 : decode cL_areFrames 390 = .ok (.goto 4, 3) := by decide +kernel
theorem dL_areFrames_393 : decode cL_areFrames 393 = .ok (.iconst 0, 1) := by decide +kernel
theorem dL_areFrames_394 : decode cL_areFrames 394 = .ok (.istore 17, 2) := by decide +kernel
theorem dL_areFrames_396 : decode cL_areFrames 396 = .ok (.iload 5, 2) := by decide +kernel
theorem dL_areFrames_398 : decode cL_areFrames 398 = .ok (.iload 15, 2) := by decide +kernel
theorem dL_areFrames_400 : decode cL_areFrames 400 = .ok (.ifCond .ne 7, 3) := by decide +kernel
theorem dL_areFrames_403 : decode cL_areFrames 403 = .ok (.iconst 1, 1) := by decide +kernel
theorem dL_areFrames_404 : decode cL_areFrames 404 = .ok (.goto 4, 3) := by decide +kernel
theorem dL_areFrames_407 : decode cL_areFrames 407 = .ok (.iconst 0, 1) := by decide +kernel
theorem dL_areFrames_408 : decode cL_areFrames 408 = .ok (.iadd, 1) := by decide +kernel
theorem dL_areFrames_409 : decode cL_areFrames 409 = .ok (.istore 5, 2) := by decide +kernel
theorem dL_areFrames_411 : decode cL_areFrames 411 = .ok (.iload 6, 2) := by decide +kernel
theorem dL_areFrames_413 : decode cL_areFrames 413 = .ok (.iload 17, 2) := by decide +kernel
theorem dL_areFrames_415 : decode cL_areFrames 415 = .ok (.ifCond .eq 7, 3) := by decide +kernel
theorem dL_areFrames_418 : decode cL_areFrames 418 = .ok (.iconst 1, 1) := by decide +kernel
theorem dL_areFrames_419 : decode cL_areFrames 419 = .ok (.goto 4, 3) := by decide +kernel
theorem dL_areFrames_422 : decode cL_areFrames 422 = .ok (.iconst 0, 1) := by decide +kernel
theorem dL_areFrames_423 : decode cL_areFrames 423 = .ok (.iadd, 1) := by decide +kernel
theorem dL_areFrames_424 : decode cL_areFrames 424 = .ok (.istore 6, 2) := by decide +kernel
theorem dL_areFrames_426 : decode cL_areFrames 426 = .ok (.iload 7, 2) := by decide +kernel
theorem dL_areFrames_428 : decode cL_areFrames 428 = .ok (.iload 9, 2) := by decide +kernel
theorem dL_areFrames_430 : decode cL_areFrames 430 = .ok (.ifCond .ne 17, 3) := by decide +kernel
theorem dL_areFrames_433 : decode cL_areFrames 433 = .ok (.iload 15, 2) := by decide +kernel
theorem dL_areFrames_435 : decode cL_areFrames 435 = .ok (.ifCond .eq 12, 3) := by decide +kernel
theorem dL_areFrames_438 : decode cL_areFrames 438 = .ok (.iload 17, 2) := by decide +kernel
theorem dL_areFrames_440 : decode cL_areFrames 440 = .ok (.ifCond .ne 7, 3) := by decide +kernel
theorem dL_areFrames_443 : decode cL_areFrames 443 = .ok (.iconst 1, 1) := by decide +kernel
theorem dL_areFrames_444 : decode cL_areFrames 444 = .ok (.goto 4, 3) := by decide +kernel
theorem dL_areFrames_447 : decode cL_areFrames 447 = .ok (.iconst 0, 1) := by decide +kernel
theorem dL_areFrames_448 : decode cL_areFrames 448 = .ok (.iadd, 1) := by decide +kernel
theorem dL_areFrames_449 : decode cL_areFrames 449 = .ok (.istore 7, 2) := by decide +kernel
theorem dL_areFrames_451 : decode cL_areFrames 451 = .ok (.iinc 8 1, 3) := by decide +kernel
theorem dL_areFrames_454 : decode cL_areFrames 454 = .ok (.goto (-431), 3) := by decide +kernel
theorem dL_areFrames_457 : decode cL_areFrames 457 = .ok (.aload_n 0, 1) := by decide +kernel
theorem dL_areFrames_458 : decode cL_areFrames 458 = .ok (.iconst 0, 1) := by decide +kernel
theorem dL_areFrames_459 : decode cL_areFrames 459 = .ok (.invokevirtual 29, 3) := by decide +kernel
theorem dL_areFrames_462 : decode cL_areFrames 462 = .ok (.iload 5, 2) := by decide +kernel
theorem dL_areFrames_464 : decode cL_areFrames 464 = .ok (.if_icmp .ne 46, 3) := by decide +kernel
theorem dL_areFrames_467 : decode cL_areFrames 467 = .ok (.aload_n 0, 1) := by decide +kernel
theorem dL_areFrames_468 : decode cL_areFrames 468 = .ok (.iconst 1, 1) := by decide +kernel
theorem dL_areFrames_469 : decode cL_areFrames 469 = .ok (.invokevirtual 29, 3) := by decide +kernel
theorem dL_areFrames_472 : decode cL_areFrames 472 = .ok (.iload 6, 2) := by decide +kernel
theorem dL_areFrames_474 : decode cL_areFrames 474 = .ok (.if_icmp .ne 36, 3) := by decide +kernel
theorem dL_areFrames_477 : decode cL_areFrames 477 = .ok (.aload_n 0, 1) := by decide +kernel
theorem dL_areFrames_478 : decode cL_areFrames 478 = .ok (.iconst 2, 1) := by decide +kernel
theorem dL_areFrames_479 : decode cL_areFrames 479 = .ok (.invokevirtual 29, 3) := by decide +kernel
theorem dL_areFrames_482 : decode cL_areFrames 482 = .ok (.iload 7, 2) := by decide +kernel
theorem dL_areFrames_484 : decode cL_areFrames 484 = .ok (.if_icmp .ne 26, 3) := by decide +kernel
theorem dL_areFrames_487 : decode cL_areFrames 487 = .ok (.aload_n 0, 1) := by decide +kernel
theorem dL_areFrames_488 : decode cL_areFrames 488 = .ok (.invokevirtual 32, 3) := by decide +kernel
theorem dL_areFrames_491 : decode cL_areFrames 491 = .ok (.iload_n 2, 1) := by decide +kernel
theorem dL_areFrames_492 : decode cL_areFrames 492 = .ok (.if_icmp .ne 18, 3) := by decide +kernel
theorem dL_areFrames_495 : decode cL_areFrames 495 = .ok (.aload_n 0, 1) := by decide +kernel
theorem dL_areFrames_496 : decode cL_areFrames 496 = .ok (.bipush 10, 2) := by decide +kernel
theorem dL_areFrames_498 : decode cL_areFrames 498 = .ok (.invokevirtual 14, 3) := by decide +kernel
theorem dL_areFrames_501 : decode cL_areFrames 501 = .ok (.iload 4, 2) := by decide +kernel
theorem dL_areFrames_503 : decode cL_areFrames 503 = .ok (.if_icmp .ne 7, 3) := by decide +kernel
theorem dL_areFrames_506 : decode cL_areFrames 506 = .ok (.iconst 1, 1) := by decide +kernel
theorem dL_areFrames_507 : decode cL_areFrames 507 = .ok (.goto 4, 3) := by decide +kernel
theorem dL_areFrames_510 : decode cL_areFrames 510 = .ok (.iconst 0, 1) := by decide +kernel
theorem dL_areFrames_511 : decode cL_areFrames 511 = .ok (.istore 8, 2) := by decide +kernel
theorem dL_areFrames_513 : decode cL_areFrames 513 = .ok (.iconst 0, 1) := by decide +kernel
theorem dL_areFrames_514 : decode cL_areFrames 514 = .ok (.istore 9, 2) := by decide +kernel
theorem dL_areFrames_516 : decode cL_areFrames 516 = .ok (.iload 9, 2) := by decide +kernel
theorem dL_areFrames_518 : decode cL_areFrames 518 = .ok (.iconst 4, 1) := by decide +kernel
theorem dL_areFrames_519 : decode cL_areFrames 519 = .ok (.if_icmp .ge 36, 3) := by decide +kernel
theorem dL_areFrames_522 : decode cL_areFrames 522 = .ok (.iload 8, 2) := by decide +kernel
theorem dL_areFrames_524 : decode cL_areFrames 524 = .ok (.ifCond .eq 22, 3) := by decide +kernel
theorem dL_areFrames_527 : decode cL_areFrames 527 = .ok (.aload_n 0, 1) := by decide +kernel
theorem dL_areFrames_528 : decode cL_areFrames 528 = .ok (.iconst 1, 1) := by decide +kernel
theorem dL_areFrames_529 : decode cL_areFrames 529 = .ok (.iload 9, 2) := by decide +kernel
theorem dL_areFrames_531 : decode cL_areFrames 531 = .ok (.iadd, 1) := by decide +kernel
theorem dL_areFrames_532 : decode cL_areFrames 532 = .ok (.invokevirtual 14, 3) := by decide +kernel
theorem dL_areFrames_535 : decode cL_areFrames 535 = .ok (.aload_n 1, 1) := by decide +kernel
theorem dL_areFrames_536 : decode cL_areFrames 536 = .ok (.iload 9, 2) := by decide +kernel
theorem dL_areFrames_538 : decode cL_areFrames 538 = .ok (.iaload, 1) := by decide +kernel
theorem dL_areFrames_539 : decode cL_areFrames 539 = .ok (.if_icmp .ne 7, 3) := by decide +kernel
theorem dL_areFrames_542 : decode cL_areFrames 542 = .ok (.iconst 1, 1) := by decide +kernel
theorem dL_areFrames_543 : decode cL_areFrames 543 = .ok (.goto 4, 3) := by decide +kernel
theorem dL_areFrames_546 : decode cL_areFrames 546 = .ok (.iconst 0, 1) := by decide +kernel
theorem dL_areFrames_547 : decode cL_areFrames 547 = .ok (.istore 8, 2) := by decide +kernel
theorem dL_areFrames_549 : decode cL_areFrames 549 = .ok (.iinc 9 1, 3) := by decide +kernel
theorem dL_areFrames_552 : decode cL_areFrames 552 = .ok (.goto (-36), 3) := by decide +kernel
theorem dL_areFrames_555 : decode cL_areFrames 555 = .ok (.iload 8, 2) := by decide +kernel
theorem dL_areFrames_557 : decode cL_areFrames 557 = .ok (.ireturn, 1) := by decide +kernel
