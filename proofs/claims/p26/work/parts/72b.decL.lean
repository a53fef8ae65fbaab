theorem dL_areEditors_0 : decode cL_areEditors 0 = .ok (.iconst 0, 1) := by decide +kernel
theorem dL_areEditors_1 : decode cL_areEditors 1 = .ok (.istore_n 1, 1) := by decide +kernel
theorem dL_areEditors_2 : decode cL_areEditors 2 = .ok (.iload_n 1, 1) := by decide +kernel
theorem dL_areEditors_3 : decode cL_areEditors 3 = .ok (.iconst 3, 1) := by decide +kernel
theorem dL_areEditors_4 : decode cL_areEditors 4 = .ok (.if_icmp .ge 287, 3) := by decide +kernel
theorem dL_areEditors_7 : decode cL_areEditors 7 = .ok (.iconst 0, 1) := by decide +kernel
theorem dL_areEditors_8 : decode cL_areEditors 8 = .ok (.istore_n 2, 1) := by decide +kernel
theorem dL_areEditors_9 : decode cL_areEditors 9 = .ok (.iconst 0, 1) := by decide +kernel
theorem dL_areEditors_10 : decode cL_areEditors 10 = .ok (.istore_n 3, 1) := by decide +kernel
theorem dL_areEditors_11 : decode cL_areEditors 11 = .ok (.iconst 0, 1) := by decide +kernel
theorem dL_areEditors_12 : decode cL_areEditors 12 = .ok (.istore 4, 2) := by decide +kernel
theorem dL_areEditors_14 : decode cL_areEditors 14 = .ok (.iload 4, 2) := by decide +kernel
theorem dL_areEditors_16 : decode cL_areEditors 16 = .ok (.bipush 30, 2) := by decide +kernel
theorem dL_areEditors_18 : decode cL_areEditors 18 = .ok (.if_icmp .ge 47, 3) := by decide +kernel
theorem dL_areEditors_21 : decode cL_areEditors 21 = .ok (.iload_n 2, 1) := by decide +kernel
theorem dL_areEditors_22 : decode cL_areEditors 22 = .ok (.aload_n 0, 1) := by decide +kernel
theorem dL_areEditors_23 : decode cL_areEditors 23 = .ok (.iload_n 1, 1) := by decide +kernel
theorem dL_areEditors_24 : decode cL_areEditors 24 = .ok (.iload 4, 2) := by decide +kernel
theorem dL_areEditors_26 : decode cL_areEditors 26 = .ok (.invokestatic 36, 3) := by decide +kernel
theorem dL_areEditors_29 : decode cL_areEditors 29 = .ok (.iconst 1, 1) := by decide +kernel
theorem dL_areEditors_30 : decode cL_areEditors 30 = .ok (.if_icmp .ne 7, 3) := by decide +kernel
theorem dL_areEditors_33 : decode cL_areEditors 33 = .ok (.iconst 1, 1) := by decide +kernel
theorem dL_areEditors_34 : decode cL_areEditors 34 = .ok (.goto 4, 3) := by decide +kernel
theorem dL_areEditors_37 : decode cL_areEditors 37 = .ok (.iconst 0, 1) := by decide +kernel
theorem dL_areEditors_38 : decode cL_areEditors 38 = .ok (.iadd, 1) := by decide +kernel
theorem dL_areEditors_39 : decode cL_areEditors 39 = .ok (.istore_n 2, 1) := by decide +kernel
theorem dL_areEditors_40 : decode cL_areEditors 40 = .ok (.iload_n 3, 1) := by decide +kernel
theorem dL_areEditors_41 : decode cL_areEditors 41 = .ok (.aload_n 0, 1) := by decide +kernel
theorem dL_areEditors_42 : decode cL_areEditors 42 = .ok (.iload_n 1, 1) := by decide +kernel
theorem dL_areEditors_43 : decode cL_areEditors 43 = .ok (.iload 4, 2) := by decide +kernel
theorem dL_areEditors_45 : decode cL_areEditors 45 = .ok (.invokestatic 36, 3) := by decide +kernel
theorem dL_areEditors_48 : decode cL_areEditors 48 = .ok (.iconst 2, 1) := by decide +kernel
theorem dL_areEditors_49 : decode cL_areEditors 49 = .ok (.if_icmp .ne 7, 3) := by decide +kernel
theorem dL_areEditors_52 : decode cL_areEditors 52 = .ok (.iconst 1, 1) := by decide +kernel
theorem dL_areEditors_53 : decode cL_areEditors 53 = .ok (.goto 4, 3) := by decide +kernel
theorem dL_areEditors_56 : decode cL_areEditors 56 = .ok (.iconst 0, 1) := by decide +kernel
theorem dL_areEditors_57 : decode cL_areEditors 57 = .ok (.iadd, 1) := by decide +kernel
theorem dL_areEditors_58 : decode cL_areEditors 58 = .ok (.istore_n 3, 1) := by decide +kernel
theorem dL_areEditors_59 : decode cL_areEditors 59 = .ok (.iinc 4 1, 3) := by decide +kernel
theorem dL_areEditors_62 : decode cL_areEditors 62 = .ok (.goto (-48), 3) := by decide +kernel
theorem dL_areEditors_65 : decode cL_areEditors 65 = .ok (.aload_n 0, 1) := by decide +kernel
theorem dL_areEditors_66 : decode cL_areEditors 66 = .ok (.bipush 12, 2) := by decide +kernel
theorem dL_areEditors_68 : decode cL_areEditors 68 = .ok (.invokevirtual 14, 3) := by decide +kernel
theorem dL_areEditors_71 : decode cL_areEditors 71 = .ok (.iload_n 3, 1) := by decide +kernel
theorem dL_areEditors_72 : decode cL_areEditors 72 = .ok (.if_icmp .le 14, 3) := by decide +kernel
theorem dL_areEditors_75 : decode cL_areEditors 75 = .ok (.aload_n 0, 1) := by decide +kernel
theorem dL_areEditors_76 : decode cL_areEditors 76 = .ok (.bipush 12, 2) := by decide +kernel
theorem dL_areEditors_78 : decode cL_areEditors 78 = .ok (.invokevirtual 14, 3) := by decide +kernel
theorem dL_areEditors_81 : decode cL_areEditors 81 = .ok (.iload_n 3, 1) := by decide +kernel
theorem dL_areEditors_82 : decode cL_areEditors 82 = .ok (.isub, 1) := by decide +kernel
theorem dL_areEditors_83 : decode cL_areEditors 83 = .ok (.goto 4, 3) := by decide +kernel
theorem dL_areEditors_86 : decode cL_areEditors 86 = .ok (.iconst 0, 1) := by decide +kernel
theorem dL_areEditors_87 : decode cL_areEditors 87 = .ok (.istore 4, 2) := by decide +kernel
theorem dL_areEditors_89 : decode cL_areEditors 89 = .ok (.aload_n 0, 1) := by decide +kernel
theorem dL_areEditors_90 : decode cL_areEditors 90 = .ok (.iload_n 1, 1) := by decide +kernel
theorem dL_areEditors_91 : decode cL_areEditors 91 = .ok (.iconst 0, 1) := by decide +kernel
theorem dL_areEditors_92 : decode cL_areEditors 92 = .ok (.invokevirtual 40, 3) := by decide +kernel
theorem dL_areEditors_95 : decode cL_areEditors 95 = .ok (.ifCond .lt 45, 3) := by decide +kernel
theorem dL_areEditors_98 : decode cL_areEditors 98 = .ok (.aload_n 0, 1) := by decide +kernel
theorem dL_areEditors_99 : decode cL_areEditors 99 = .ok (.iload_n 1, 1) := by decide +kernel
theorem dL_areEditors_100 : decode cL_areEditors 100 = .ok (.iconst 0, 1) := by decide +kernel
theorem dL_areEditors_101 : decode cL_areEditors 101 = .ok (.invokevirtual 40, 3) := by decide +kernel
theorem dL_areEditors_104 : decode cL_areEditors 104 = .ok (.bipush 20, 2) := by decide +kernel
theorem dL_areEditors_106 : decode cL_areEditors 106 = .ok (.if_icmp .gt 34, 3) := by decide +kernel
theorem dL_areEditors_109 : decode cL_areEditors 109 = .ok (.aload_n 0, 1) := by decide +kernel
theorem dL_areEditors_110 : decode cL_areEditors 110 = .ok (.iload_n 1, 1) := by decide +kernel
theorem dL_areEditors_111 : decode cL_areEditors 111 = .ok (.iconst 1, 1) := by decide +kernel
theorem dL_areEditors_112 : decode cL_areEditors 112 = .ok (.invokevirtual 40, 3) := by decide +kernel
theorem dL_areEditors_115 : decode cL_areEditors 115 = .ok (.iload_n 2, 1) := by decide +kernel
theorem dL_areEditors_116 : decode cL_areEditors 116 = .ok (.if_icmp .ne 24, 3) := by decide +kernel
theorem dL_areEditors_119 : decode cL_areEditors 119 = .ok (.aload_n 0, 1) := by decide +kernel
theorem dL_areEditors_120 : decode cL_areEditors 120 = .ok (.iload_n 1, 1) := by decide +kernel
theorem dL_areEditors_121 : decode cL_areEditors 121 = .ok (.iconst 2, 1) := by decide +kernel
theorem dL_areEditors_122 : decode cL_areEditors 122 = .ok (.invokevirtual 40, 3) := by decide +kernel
theorem dL_areEditors_125 : decode cL_areEditors 125 = .ok (.iload_n 3, 1) := by decide +kernel
theorem dL_areEditors_126 : decode cL_areEditors 126 = .ok (.if_icmp .ne 14, 3) := by decide +kernel
theorem dL_areEditors_129 : decode cL_areEditors 129 = .ok (.aload_n 0, 1) := by decide +kernel
theorem dL_areEditors_130 : decode cL_areEditors 130 = .ok (.iload_n 1, 1) := by decide +kernel
theorem dL_areEditors_131 : decode cL_areEditors 131 = .ok (.iconst 3, 1) := by decide +kernel
theorem dL_areEditors_132 : decode cL_areEditors 132 = .ok (.invokevirtual 40, 3) := by decide +kernel
theorem dL_areEditors_135 : decode cL_areEditors 135 = .ok (.iload 4, 2) := by decide +kernel
theorem dL_areEditors_137 : decode cL_areEditors 137 = .ok (.if_icmp .eq 5, 3) := by decide +kernel
theorem dL_areEditors_140 : decode cL_areEditors 140 = .ok (.iconst 0, 1) := by decide +kernel
theorem dL_areEditors_141 : decode cL_areEditors 141 = .ok (.ireturn, 1) := by decide +kernel
theorem dL_areEditors_142 : decode cL_areEditors 142 = .ok (.iconst 0, 1) := by decide +kernel
theorem dL_areEditors_143 : decode cL_areEditors 143 = .ok (.istore 5, 2) := by decide +kernel
theorem dL_areEditors_145 : decode cL_areEditors 145 = .ok (.iload 5, 2) := by decide +kernel
theorem dL_areEditors_147 : decode cL_areEditors 147 = .ok (.iconst 3, 1) := by decide +kernel
theorem dL_areEditors_148 : decode cL_areEditors 148 = .ok (.if_icmp .ge 137, 3) := by decide +kernel
theorem dL_areEditors_151 : decode cL_areEditors 151 = .ok (.iconst 0, 1) := by decide +kernel
theorem dL_areEditors_152 : decode cL_areEditors 152 = .ok (.istore 6, 2) := by decide +kernel
theorem dL_areEditors_154 : decode cL_areEditors 154 = .ok (.iconst 0, 1) := by decide +kernel
theorem dL_areEditors_155 : decode cL_areEditors 155 = .ok (.istore 7, 2) := by decide +kernel
theorem dL_areEditors_157 : decode cL_areEditors 157 = .ok (.iconst 0, 1) := by decide +kernel
theorem dL_areEditors_158 : decode cL_areEditors 158 = .ok (.istore 8, 2) := by decide +kernel
theorem dL_areEditors_160 : decode cL_areEditors 160 = .ok (.iload 8, 2) := by decide +kernel
theorem dL_areEditors_162 : decode cL_areEditors 162 = .ok (.bipush 30, 2) := by decide +kernel
theorem dL_areEditors_164 : decode cL_areEditors 164 = .ok (.if_icmp .ge 85, 3) := by decide +kernel
theorem dL_areEditors_167 : decode cL_areEditors 167 = .ok (.aload_n 0, 1) := by decide +kernel
theorem dL_areEditors_168 : decode cL_areEditors 168 = .ok (.iload_n 1, 1) := by decide +kernel
theorem dL_areEditors_169 : decode cL_areEditors 169 = .ok (.iload 8, 2) := by decide +kernel
theorem dL_areEditors_171 : decode cL_areEditors 171 = .ok (.invokestatic 36, 3) := by decide +kernel
theorem dL_areEditors_174 : decode cL_areEditors 174 = .ok (.ifCond .le 18, 3) := by decide +kernel
theorem dL_areEditors_177 : decode cL_areEditors 177 = .ok (.aload_n 0, 1) := by decide +kernel
theorem dL_areEditors_178 : decode cL_areEditors 178 = .ok (.iload 5, 2) := by decide +kernel
theorem dL_areEditors_180 : decode cL_areEditors 180 = .ok (.iload 8, 2) := by decide +kernel
theorem dL_areEditors_182 : decode cL_areEditors 182 = .ok (.invokestatic 36, 3) := by decide +kernel
theorem dL_areEditors_185 : decode cL_areEditors 185 = .ok (.ifCond .le 7, 3) := by decide +kernel
theorem dL_areEditors_188 : decode cL_areEditors 188 = .ok (.iconst 1, 1) := by decide +kernel
theorem dL_areEditors_189 : decode cL_areEditors 189 = .ok (.goto 4, 3) := by decide +kernel
theorem dL_areEditors_192 : decode cL_areEditors 192 = .ok (.iconst 0, 1) := by decide +kernel
theorem dL_areEditors_193 : decode cL_areEditors 193 = .ok (.istore 9, 2) := by decide +kernel
theorem dL_areEditors_195 : decode cL_areEditors 195 = .ok (.iload 6, 2) := by decide +kernel
theorem dL_areEditors_197 : decode cL_areEditors 197 = .ok (.iload 9, 2) := by decide +kernel
theorem dL_areEditors_199 : decode cL_areEditors 199 = .ok (.ifCond .eq 7, 3) := by decide +kernel
theorem dL_areEditors_202 : decode cL_areEditors 202 = .ok (.iconst 1, 1) := by decide +kernel
theorem dL_areEditors_203 : decode cL_areEditors 203 = .ok (.goto 4, 3) := by decide +kernel
theorem dL_areEditors_206 : decode cL_areEditors 206 = .ok (.iconst 0, 1) := by decide +kernel
theorem dL_areEditors_207 : decode cL_areEditors 207 = .ok (.iadd, 1) := by decide +kernel
theorem dL_areEditors_208 : decode cL_areEditors 208 = .ok (.istore 6, 2) := by decide +kernel
theorem dL_areEditors_210 : decode cL_areEditors 210 = .ok (.iload 7, 2) := by decide +kernel
theorem dL_areEditors_212 : decode cL_areEditors 212 = .ok (.iload 9, 2) := by decide +kernel
theorem dL_areEditors_214 : decode cL_areEditors 214 = .ok (.ifCond .eq 25, 3) := by decide +kernel
theorem dL_areEditors_217 : decode cL_areEditors 217 = .ok (.aload_n 0, 1) := by decide +kernel
theorem dL_areEditors_218 : decode cL_areEditors 218 = .ok (.iload_n 1, 1) := by decide +kernel
theorem dL_areEditors_219 : decode cL_areEditors 219 = .ok (.iload 8, 2) := by decide +kernel
theorem dL_areEditors_221 : decode cL_areEditors 221 = .ok (.invokestatic 36, 3) := by decide +kernel
theorem dL_areEditors_224 : decode cL_areEditors 224 = .ok (.aload_n 0, 1) := by decide +kernel
theorem dL_areEditors_225 : decode cL_areEditors 225 = .ok (.iload 5, 2) := by decide +kernel
theorem dL_areEditors_227 : decode cL_areEditors 227 = .ok (.iload 8, 2) := by decide +kernel
theorem dL_areEditors_229 : decode cL_areEditors 229 = .ok (.invokestatic 36, 3) := by decide +kernel
theorem dL_areEditors_232 : decode cL_areEditors 232 = .ok (.if_icmp .ne 7, 3) := by decide +kernel
theorem dL_areEditors_235 : decode cL_areEditors 235 = .ok (.iconst 1, 1) := by decide +kernel
theorem dL_areEditors_236 : decode cL_areEditors 236 = .ok (.goto 4, 3) := by decide +kernel
theorem dL_areEditors_239 : decode cL_areEditors 239 = .ok (.iconst 0, 1) := by decide +kernel
theorem dL_areEditors_240 : decode cL_areEditors 240 = .ok (.iadd, 1) := by decide +kernel
theorem dL_areEditors_241 : decode cL_areEditors 241 = .ok (.istore 7, 2) := by decide +kernel
theorem dL_areEditors_243 : decode cL_areEditors 243 = .ok (.iinc 8 1, 3) := by decide +kernel
theorem dL_areEditors_246 : decode cL_areEditors 246 = .ok (.goto (-86), 3) := by decide +kernel
theorem dL_areEditors_249 : decode cL_areEditors 249 = .ok (.aload_n 0, 1) := by decide +kernel
theorem dL_areEditors_250 : decode cL_areEditors 250 = .ok (.iload_n 1, 1) := by decide +kernel
theorem dL_areEditors_251 : decode cL_areEditors 251 = .ok (.iload 5, 2) := by decide +kernel
theorem dL_areEditors_253 : decode cL_areEditors 253 = .ok (.invokevirtual 43, 3) := by decide +kernel
theorem dL_areEditors_256 : decode cL_areEditors 256 = .ok (.iload 6, 2) := by decide +kernel
theorem dL_areEditors_258 : decode cL_areEditors 258 = .ok (.ifCond .ne 8, 3) := by decide +kernel
theorem dL_areEditors_261 : decode cL_areEditors 261 = .ok (.bipush 100, 2) := by decide +kernel
theorem dL_areEditors_263 : decode cL_areEditors 263 = .ok (.goto 11, 3) := by decide +kernel
theorem dL_areEditors_266 : decode cL_areEditors 266 = .ok (.bipush 100, 2) := by decide +kernel
theorem dL_areEditors_268 : decode cL_areEditors 268 = .ok (.iload 7, 2) := by decide +kernel
theorem dL_areEditors_270 : decode cL_areEditors 270 = .ok (.imul, 1) := by decide +kernel
theorem dL_areEditors_271 : decode cL_areEditors 271 = .ok (.iload 6, 2) := by decide +kernel
theorem dL_areEditors_273 : decode cL_areEditors 273 = .ok (.idiv, 1) := by decide +kernel
theorem dL_areEditors_274 : decode cL_areEditors 274 = .ok (.if_icmp .eq 5, 3) := by decide +kernel
theorem dL_areEditors_277 : decode cL_areEditors 277 = .ok (.iconst 0, 1) := by decide +kernel
theorem dL_areEditors_278 : decode cL_areEditors 278 = .ok (.ireturn, 1) := by decide +kernel
theorem dL_areEditors_279 : decode cL_areEditors 279 = .ok (.iinc 5 1, 3) := by decide +kernel
theorem dL_areEditors_282 : decode cL_areEditors 282 = .ok (.goto (-137), 3) := by decide +kernel
theorem dL_areEditors_285 : decode cL_areEditors 285 = .ok (.iinc 1 1, 3) := by decide +kernel
theorem dL_areEditors_288 : decode cL_areEditors 288 = .ok (.goto (-286), 3) := by decide +kernel
theorem dL_areEditors_291 : decode cL_areEditors 291 = .ok (.iconst 1, 1) := by decide +kernel
theorem dL_areEditors_292 : decode cL_areEditors 292 = .ok (.ireturn, 1) := by decide +kernel
theorem dL_areChosen_0 : decode cL_areChosen 0 = .ok (.aload_n 0, 1) := by decide +kernel
theorem dL_areChosen_1 : decode cL_areChosen 1 = .ok (.iconst 2, 1) := by decide +kernel
theorem dL_areChosen_2 : decode cL_areChosen 2 = .ok (.invokevirtual 14, 3) := by decide +kernel
theorem dL_areChosen_5 : decode cL_areChosen 5 = .ok (.aload_n 0, 1) := by decide +kernel
theorem dL_areChosen_6 : decode cL_areChosen 6 = .ok (.iconst 4, 1) := by decide +kernel
theorem dL_areChosen_7 : decode cL_areChosen 7 = .ok (.invokevirtual 14, 3) := by decide +kernel
theorem dL_areChosen_10 : decode cL_areChosen 10 = .ok (.iadd, 1) := by decide +kernel
theorem dL_areChosen_11 : decode cL_areChosen 11 = .ok (.istore_n 1, 1) := by decide +kernel
theorem dL_areChosen_12 : decode cL_areChosen 12 = .ok (.iconst (-1), 1) := by decide +kernel
theorem dL_areChosen_13 : decode cL_areChosen 13 = .ok (.istore_n 2, 1) := by decide +kernel
theorem dL_areChosen_14 : decode cL_areChosen 14 = .ok (.iconst 0, 1) := by decide +kernel
theorem dL_areChosen_15 : decode cL_areChosen 15 = .ok (.istore_n 3, 1) := by decide +kernel
theorem dL_areChosen_16 : decode cL_areChosen 16 = .ok (.iload_n 3, 1) := by decide +kernel
theorem dL_areChosen_17 : decode cL_areChosen 17 = .ok (.iload_n 1, 1) := by decide +kernel
theorem dL_areChosen_18 : decode cL_areChosen 18 = .ok (.if_icmp .ge 76, 3) := by decide +kernel
theorem dL_areChosen_21 : decode cL_areChosen 21 = .ok (.aload_n 0, 1) := by decide +kernel
theorem dL_areChosen_22 : decode cL_areChosen 22 = .ok (.iload_n 3, 1) := by decide +kernel
theorem dL_areChosen_23 : decode cL_areChosen 23 = .ok (.invokevirtual 46, 3) := by decide +kernel
theorem dL_areChosen_26 : decode cL_areChosen 26 = .ok (.istore 4, 2) := by decide +kernel
theorem dL_areChosen_28 : decode cL_areChosen 28 = .ok (.iload 4, 2) := by decide +kernel
theorem dL_areChosen_30 : decode cL_areChosen 30 = .ok (.ifCond .lt 42, 3) := by decide +kernel
theorem dL_areChosen_33 : decode cL_areChosen 33 = .ok (.aload_n 0, 1) := by decide +kernel
theorem dL_areChosen_34 : decode cL_areChosen 34 = .ok (.iload 4, 2) := by decide +kernel
theorem dL_areChosen_36 : decode cL_areChosen 36 = .ok (.iconst 0, 1) := by decide +kernel
theorem dL_areChosen_37 : decode cL_areChosen 37 = .ok (.invokevirtual 8, 3) := by decide +kernel
theorem dL_areChosen_40 : decode cL_areChosen 40 = .ok (.iconst 1, 1) := by decide +kernel
theorem dL_areChosen_41 : decode cL_areChosen 41 = .ok (.if_icmp .eq 14, 3) := by decide +kernel
theorem dL_areChosen_44 : decode cL_areChosen 44 = .ok (.aload_n 0, 1) := by decide +kernel
theorem dL_areChosen_45 : decode cL_areChosen 45 = .ok (.iload 4, 2) := by decide +kernel
theorem dL_areChosen_47 : decode cL_areChosen 47 = .ok (.iconst 0, 1) := by decide +kernel
theorem dL_areChosen_48 : decode cL_areChosen 48 = .ok (.invokevirtual 8, 3) := by decide +kernel
theorem dL_areChosen_51 : decode cL_areChosen 51 = .ok (.iconst 3, 1) := by decide +kernel
theorem dL_areChosen_52 : decode cL_areChosen 52 = .ok (.if_icmp .ne 20, 3) := by decide +kernel
theorem dL_areChosen_55 : decode cL_areChosen 55 = .ok (.bipush 100, 2) := by decide +kernel
theorem dL_areChosen_57 : decode cL_areChosen 57 = .ok (.aload_n 0, 1) := by decide +kernel
theorem dL_areChosen_58 : decode cL_areChosen 58 = .ok (.iload 4, 2) := by decide +kernel
theorem dL_areChosen_60 : decode cL_areChosen 60 = .ok (.iconst 5, 1) := by decide +kernel
theorem dL_areChosen_61 : decode cL_areChosen 61 = .ok (.invokevirtual 8, 3) := by decide +kernel
theorem dL_areChosen_64 : decode cL_areChosen 64 = .ok (.imul, 1) := by decide +kernel
theorem dL_areChosen_65 : decode cL_areChosen 65 = .ok (.iload 4, 2) := by decide +kernel
theorem dL_areChosen_67 : decode cL_areChosen 67 = .ok (.iadd, 1) := by decide +kernel
theorem dL_areChosen_68 : decode cL_areChosen 68 = .ok (.iload_n 2, 1) := by decide +kernel
theorem dL_areChosen_69 : decode cL_areChosen 69 = .ok (.if_icmp .gt 5, 3) := by decide +kernel
theorem dL_areChosen_72 : decode cL_areChosen 72 = .ok (.iconst 0, 1) := by decide +kernel
theorem dL_areChosen_73 : decode cL_areChosen 73 = .ok (.ireturn, 1) := by decide +kernel
theorem dL_areChosen_74 : decode cL_areChosen 74 = .ok (.bipush 100, 2) := by decide +kernel
theorem dL_areChosen_76 : decode cL_areChosen 76 = .ok (.aload_n 0, 1) := by decide +kernel
theorem dL_areChosen_77 : decode cL_areChosen 77 = .ok (.iload 4, 2) := by decide +kernel
theorem dL_areChosen_79 : decode cL_areChosen 79 = .ok (.iconst 5, 1) := by decide +kernel
theorem dL_areChosen_80 : decode cL_areChosen 80 = .ok (.invokevirtual 8, 3) := by decide +kernel
theorem dL_areChosen_83 : decode cL_areChosen 83 = .ok (.imul, 1) := by decide +kernel
theorem dL_areChosen_84 : decode cL_areChosen 84 = .ok (.iload 4, 2) := by decide +kernel
theorem dL_areChosen_86 : decode cL_areChosen 86 = .ok (.iadd, 1) := by decide +kernel
theorem dL_areChosen_87 : decode cL_areChosen 87 = .ok (.istore_n 2, 1) := by decide +kernel
theorem dL_areChosen_88 : decode cL_areChosen 88 = .ok (.iinc 3 1, 3) := by decide +kernel
theorem dL_areChosen_91 : decode cL_areChosen 91 = .ok (.goto (-75), 3) := by decide +kernel
theorem dL_areChosen_94 : decode cL_areChosen 94 = .ok (.aload_n 0, 1) := by decide +kernel
theorem dL_areChosen_95 : decode cL_areChosen 95 = .ok (.iload_n 1, 1) := by decide +kernel
theorem dL_areChosen_96 : decode cL_areChosen 96 = .ok (.invokevirtual 46, 3) := by decide +kernel
theorem dL_areChosen_99 : decode cL_areChosen 99 = .ok (.iconst (-1), 1) := by decide +kernel
theorem dL_areChosen_100 : decode cL_areChosen 100 = .ok (.if_icmp .ne 7, 3) := by decide +kernel
theorem dL_areChosen_103 : decode cL_areChosen 103 = .ok (.iconst 1, 1) := by decide +kernel
theorem dL_areChosen_104 : decode cL_areChosen 104 = .ok (.goto 4, 3) := by decide +kernel
theorem dL_areChosen_107 : decode cL_areChosen 107 = .ok (.iconst 0, 1) := by decide +kernel
theorem dL_areChosen_108 : decode cL_areChosen 108 = .ok (.ireturn, 1) := by decide +kernel
theorem dL_isRound_0 : decode cL_isRound 0 = .ok (.aload_n 0, 1) := by decide +kernel
theorem dL_isRound_1 : decode cL_isRound 1 = .ok (.iconst 0, 1) := by decide +kernel
theorem dL_isRound_2 : decode cL_isRound 2 = .ok (.invokevirtual 29, 3) := by decide +kernel
theorem dL_isRound_5 : decode cL_isRound 5 = .ok (.istore_n 2, 1) := by decide +kernel
theorem dL_isRound_6 : decode cL_isRound 6 = .ok (.aload_n 0, 1) := by decide +kernel
theorem dL_isRound_7 : decode cL_isRound 7 = .ok (.iconst 1, 1) := by decide +kernel
theorem dL_isRound_8 : decode cL_isRound 8 = .ok (.invokevirtual 29, 3) := by decide +kernel
theorem dL_isRound_11 : decode cL_isRound 11 = .ok (.aload_n 0, 1) := by decide +kernel
theorem dL_isRound_12 : decode cL_isRound 12 = .ok (.iconst 3, 1) := by decide +kernel
theorem dL_isRound_13 : decode cL_isRound 13 = .ok (.invokevirtual 14, 3) := by decide +kernel
theorem dL_isRound_16 : decode cL_isRound 16 = .ok (.iadd, 1) := by decide +kernel
theorem dL_isRound_17 : decode cL_isRound 17 = .ok (.istore_n 3, 1) := by decide +kernel
theorem dL_isRound_18 : decode cL_isRound 18 = .ok (.aload_n 0, 1) := by decide +kernel
theorem dL_isRound_19 : decode cL_isRound 19 = .ok (.iconst 2, 1) := by decide +kernel
theorem dL_isRound_20 : decode cL_isRound 20 = .ok (.invokevirtual 29, 3) := by decide +kernel
theorem dL_isRound_23 : decode cL_isRound 23 = .ok (.istore 4, 2) := by decide +kernel
theorem dL_isRound_25 : decode cL_isRound 25 = .ok (.aload_n 0, 1) := by decide +kernel
theorem dL_isRound_26 : decode cL_isRound 26 = .ok (.iconst 0, 1) := by decide +kernel
theorem dL_isRound_27 : decode cL_isRound 27 = .ok (.invokevirtual 14, 3) := by decide +kernel
theorem dL_isRound_30 : decode cL_isRound 30 = .ok (.istore 5, 2) := by decide +kernel
theorem dL_isRound_32 : decode cL_isRound 32 = .ok (.iconst 0, 1) := by decide +kernel
theorem dL_isRound_33 : decode cL_isRound 33 = .ok (.istore 6, 2) := by decide +kernel
theorem dL_isRound_35 : decode cL_isRound 35 = .ok (.iload 6, 2) := by decide +kernel
theorem dL_isRound_37 : decode cL_isRound 37 = .ok (.bipush 30, 2) := by decide +kernel
theorem dL_isRound_39 : decode cL_isRound 39 = .ok (.if_icmp .ge 130, 3) := by decide +kernel
theorem dL_isRound_42 : decode cL_isRound 42 = .ok (.aload_n 0, 1) := by decide +kernel
theorem dL_isRound_43 : decode cL_isRound 43 = .ok (.iload 6, 2) := by decide +kernel
theorem dL_isRound_45 : decode cL_isRound 45 = .ok (.iconst 1, 1) := by decide +kernel
theorem dL_isRound_46 : decode cL_isRound 46 = .ok (.invokevirtual 8, 3) := by decide +kernel
theorem dL_isRound_49 : decode cL_isRound 49 = .ok (.istore 7, 2) := by decide +kernel
theorem dL_isRound_51 : decode cL_isRound 51 = .ok (.aload_n 0, 1) := by decide +kernel
theorem dL_isRound_52 : decode cL_isRound 52 = .ok (.iload 6, 2) := by decide +kernel
theorem dL_isRound_54 : decode cL_isRound 54 = .ok (.iconst 2, 1) := by decide +kernel
theorem dL_isRound_55 : decode cL_isRound 55 = .ok (.invokevirtual 8, 3) := by decide +kernel
theorem dL_isRound_58 : decode cL_isRound 58 = .ok (.istore 8, 2) := by decide +kernel
theorem dL_isRound_60 : decode cL_isRound 60 = .ok (.aload_n 0, 1) := by decide +kernel
theorem dL_isRound_61 : decode cL_isRound 61 = .ok (.iload 6, 2) := by decide +kernel
theorem dL_isRound_63 : decode cL_isRound 63 = .ok (.iconst 0, 1) := by decide +kernel
theorem dL_isRound_64 : decode cL_isRound 64 = .ok (.invokevirtual 8, 3) := by decide +kernel
theorem dL_isRound_67 : decode cL_isRound 67 = .ok (.ifCond .ne 11, 3) := by decide +kernel
theorem dL_isRound_70 : decode cL_isRound 70 = .ok (.iload 7, 2) := by decide +kernel
theorem dL_isRound_72 : decode cL_isRound 72 = .ok (.iload 8, 2) := by decide +kernel
theorem dL_isRound_74 : decode cL_isRound 74 = .ok (.iadd, 1) := by decide +kernel
theorem dL_isRound_75 : decode cL_isRound 75 = .ok (.ifCond .ne 29, 3) := by decide +kernel
theorem dL_isRound_78 : decode cL_isRound 78 = .ok (.aload_n 0, 1) := by decide +kernel
theorem dL_isRound_79 : decode cL_isRound 79 = .ok (.iload 6, 2) := by decide +kernel
theorem dL_isRound_81 : decode cL_isRound 81 = .ok (.iconst 3, 1) := by decide +kernel
theorem dL_isRound_82 : decode cL_isRound 82 = .ok (.invokevirtual 8, 3) := by decide +kernel
theorem dL_isRound_85 : decode cL_isRound 85 = .ok (.aload_n 0, 1) := by decide +kernel
theorem dL_isRound_86 : decode cL_isRound 86 = .ok (.iload 6, 2) := by decide +kernel
theorem dL_isRound_88 : decode cL_isRound 88 = .ok (.iconst 0, 1) := by decide +kernel
theorem dL_isRound_89 : decode cL_isRound 89 = .ok (.invokevirtual 8, 3) := by decide +kernel
theorem dL_isRound_92 : decode cL_isRound 92 = .ok (.ifCond .ne 7, 3) := by decide +kernel
theorem dL_isRound_95 : decode cL_isRound 95 = .ok (.iconst 1, 1) := by decide +kernel
theorem dL_isRound_96 : decode cL_isRound 96 = .ok (.goto 4, 3) := by decide +kernel
theorem dL_isRound_99 : decode cL_isRound 99 = .ok (.iconst 0, 1) := by decide +kernel
theorem dL_isRound_100 : decode cL_isRound 100 = .ok (.iadd, 1) := by decide +kernel
theorem dL_isRound_101 : decode cL_isRound 101 = .ok (.goto 4, 3) := by decide +kernel
theorem dL_isRound_104 : decode cL_isRound 104 = .ok (.iconst 0, 1) := by decide +kernel
theorem dL_isRound_105 : decode cL_isRound 105 = .ok (.istore 9, 2) := by decide +kernel
theorem dL_isRound_107 : decode cL_isRound 107 = .ok (.aload_n 1, 1) := by decide +kernel
theorem dL_isRound_108 : decode cL_isRound 108 = .ok (.iload 6, 2) := by decide +kernel
theorem dL_isRound_110 : decode cL_isRound 110 = .ok (.bipush 10, 2) := by decide +kernel
theorem dL_isRound_112 : decode cL_isRound 112 = .ok (.iload 7, 2) := by decide +kernel
theorem dL_isRound_114 : decode cL_isRound 114 = .ok (.invokestatic 18, 3) := by decide +kernel
theorem dL_isRound_117 : decode cL_isRound 117 = .ok (.imul, 1) := by decide +kernel
theorem dL_isRound_118 : decode cL_isRound 118 = .ok (.aload_n 0, 1) := by decide +kernel
theorem dL_isRound_119 : decode cL_isRound 119 = .ok (.iload 6, 2) := by decide +kernel
theorem dL_isRound_121 : decode cL_isRound 121 = .ok (.invokevirtual 23, 3) := by decide +kernel
theorem dL_isRound_124 : decode cL_isRound 124 = .ok (.ifCond .ne 7, 3) := by decide +kernel
theorem dL_isRound_127 : decode cL_isRound 127 = .ok (.iconst 1, 1) := by decide +kernel
theorem dL_isRound_128 : decode cL_isRound 128 = .ok (.goto 10, 3) := by decide +kernel
theorem dL_isRound_131 : decode cL_isRound 131 = .ok (.aload_n 0, 1) := by decide +kernel
theorem dL_isRound_132 : decode cL_isRound 132 = .ok (.iload 6, 2) := by decide +kernel
theorem dL_isRound_134 : decode cL_isRound 134 = .ok (.iconst 0, 1) := by decide +kernel
theorem dL_isRound_135 : decode cL_isRound 135 = .ok (.invokevirtual 8, 3) := by decide +kernel
theorem dL_isRound_138 : decode cL_isRound 138 = .ok (.iadd, 1) := by decide +kernel
theorem dL_isRound_139 : decode cL_isRound 139 = .ok (.bipush 100, 2) := by decide +kernel
theorem dL_isRound_141 : decode cL_isRound 141 = .ok (.iload 9, 2) := by decide +kernel
theorem dL_isRound_143 : decode cL_isRound 143 = .ok (.imul, 1) := by decide +kernel
theorem dL_isRound_144 : decode cL_isRound 144 = .ok (.iadd, 1) := by decide +kernel
theorem dL_isRound_145 : decode cL_isRound 145 = .ok (.aload_n 0, 1) := by decide +kernel
theorem dL_isRound_146 : decode cL_isRound 146 = .ok (.iload 6, 2) := by decide +kernel
theorem dL_isRound_148 : decode cL_isRound 148 = .ok (.iconst 0, 1) := by decide +kernel
theorem dL_isRound_149 : decode cL_isRound 149 = .ok (.invokevirtual 8, 3) := by decide +kernel
theorem dL_isRound_152 : decode cL_isRound 152 = .ok (.ifCond .ne 8, 3) := by decide +kernel
theorem dL_isRound_155 : decode cL_isRound 155 = .ok (.ldc 49, 2) := by decide +kernel
theorem dL_isRound_157 : decode cL_isRound 157 = .ok (.goto 4, 3) := by decide +kernel
theorem dL_isRound_160 : decode cL_isRound 160 = .ok (.iconst 0, 1) := by decide +kernel
theorem dL_isRound_161 : decode cL_isRound 161 = .ok (.iadd, 1) := by decide +kernel
theorem dL_isRound_162 : decode cL_isRound 162 = .ok (.iastore, 1) := by decide +kernel
theorem dL_isRound_163 : decode cL_isRound 163 = .ok (.iinc 6 1, 3) := by decide +kernel
theorem dL_isRound_166 : decode cL_isRound 166 = .ok (.goto (-131), 3) := by decide +kernel
theorem dL_isRound_169 : decode cL_isRound 169 = .ok (.iconst 0, 1) := by decide +kernel
theorem dL_isRound_170 : decode cL_isRound 170 = .ok (.istore 6, 2) := by decide +kernel
theorem dL_isRound_172 : decode cL_isRound 172 = .ok (.iload 6, 2) := by decide +kernel
theorem dL_isRound_174 : decode cL_isRound 174 = .ok (.iconst 3, 1) := by decide +kernel
theorem dL_isRound_175 : decode cL_isRound 175 = .ok (.if_icmp .ge 89, 3) := by decide +kernel
theorem dL_isRound_178 : decode cL_isRound 178 = .ok (.aload_n 1, 1) := by decide +kernel
theorem dL_isRound_179 : decode cL_isRound 179 = .ok (.bipush 30, 2) := by decide +kernel
theorem dL_isRound_181 : decode cL_isRound 181 = .ok (.iload 6, 2) := by decide +kernel
theorem dL_isRound_183 : decode cL_isRound 183 = .ok (.iadd, 1) := by decide +kernel
theorem dL_isRound_184 : decode cL_isRound 184 = .ok (.aload_n 0, 1) := by decide +kernel
theorem dL_isRound_185 : decode cL_isRound 185 = .ok (.iload 6, 2) := by decide +kernel
theorem dL_isRound_187 : decode cL_isRound 187 = .ok (.iconst 0, 1) := by decide +kernel
theorem dL_isRound_188 : decode cL_isRound 188 = .ok (.invokevirtual 40, 3) := by decide +kernel
theorem dL_isRound_191 : decode cL_isRound 191 = .ok (.iastore, 1) := by decide +kernel
theorem dL_isRound_192 : decode cL_isRound 192 = .ok (.aload_n 1, 1) := by decide +kernel
theorem dL_isRound_193 : decode cL_isRound 193 = .ok (.bipush 33, 2) := by decide +kernel
theorem dL_isRound_195 : decode cL_isRound 195 = .ok (.iload 6, 2) := by decide +kernel
theorem dL_isRound_197 : decode cL_isRound 197 = .ok (.iadd, 1) := by decide +kernel
theorem dL_isRound_198 : decode cL_isRound 198 = .ok (.aload_n 0, 1) := by decide +kernel
theorem dL_isRound_199 : decode cL_isRound 199 = .ok (.iload 6, 2) := by decide +kernel
theorem dL_isRound_201 : decode cL_isRound 201 = .ok (.bipush 6, 2) := by decide +kernel
theorem dL_isRound_203 : decode cL_isRound 203 = .ok (.invokevirtual 40, 3) := by decide +kernel
theorem dL_isRound_206 : decode cL_isRound 206 = .ok (.iastore, 1) := by decide +kernel
theorem dL_isRound_207 : decode cL_isRound 207 = .ok (.iconst 0, 1) := by decide +kernel
theorem dL_isRound_208 : decode cL_isRound 208 = .ok (.istore 7, 2) := by decide +kernel
theorem dL_isRound_210 : decode cL_isRound 210 = .ok (.iload 7, 2) := by decide +kernel
theorem dL_isRound_212 : decode cL_isRound 212 = .ok (.bipush 30, 2) := by decide +kernel
theorem dL_isRound_214 : decode cL_isRound 214 = .ok (.if_icmp .ge 44, 3) := by decide +kernel
theorem dL_isRound_217 : decode cL_isRound 217 = .ok (.aload_n 1, 1) := by decide +kernel
theorem dL_isRound_218 : decode cL_isRound 218 = .ok (.bipush 33, 2) := by decide +kernel
theorem dL_isRound_220 : decode cL_isRound 220 = .ok (.iload 6, 2) := by decide +kernel
theorem dL_isRound_222 : decode cL_isRound 222 = .ok (.iadd, 1) := by decide +kernel
theorem dL_isRound_223 : decode cL_isRound 223 = .ok (.dup2, 1) := by decide +kernel
theorem dL_isRound_224 : decode cL_isRound 224 = .ok (.iaload, 1) := by decide +kernel
theorem dL_isRound_225 : decode cL_isRound 225 = .ok (.aload_n 0, 1) := by decide +kernel
theorem dL_isRound_226 : decode cL_isRound 226 = .ok (.iload 7, 2) := by decide +kernel
theorem dL_isRound_228 : decode cL_isRound 228 = .ok (.invokevirtual 23, 3) := by decide +kernel
theorem dL_isRound_231 : decode cL_isRound 231 = .ok (.ifCond .ne 18, 3) := by decide +kernel
theorem dL_isRound_234 : decode cL_isRound 234 = .ok (.aload_n 0, 1) := by decide +kernel
theorem dL_isRound_235 : decode cL_isRound 235 = .ok (.iload 7, 2) := by decide +kernel
theorem dL_isRound_237 : decode cL_isRound 237 = .ok (.iconst 1, 1) := by decide +kernel
theorem dL_isRound_238 : decode cL_isRound 238 = .ok (.invokevirtual 8, 3) := by decide +kernel
theorem dL_isRound_241 : decode cL_isRound 241 = .ok (.iload 6, 2) := by decide +kernel
theorem dL_isRound_243 : decode cL_isRound 243 = .ok (.ishr, 1) := by decide +kernel
theorem dL_isRound_244 : decode cL_isRound 244 = .ok (.iconst 1, 1) := by decide +kernel
theorem dL_isRound_245 : decode cL_isRound 245 = .ok (.iand, 1) := by decide +kernel
theorem dL_isRound_246 : decode cL_isRound 246 = .ok (.goto 4, 3) := by decide +kernel
theorem dL_isRound_249 : decode cL_isRound 249 = .ok (.iconst 0, 1) := by decide +kernel
theorem dL_isRound_250 : decode cL_isRound 250 = .ok (.iadd, 1) := by decide +kernel
theorem dL_isRound_251 : decode cL_isRound 251 = .ok (.iastore, 1) := by decide +kernel
theorem dL_isRound_252 : decode cL_isRound 252 = .ok (.iinc 7 1, 3) := by decide +kernel
theorem dL_isRound_255 : decode cL_isRound 255 = .ok (.goto (-45), 3) := by decide +kernel
theorem dL_isRound_258 : decode cL_isRound 258 = .ok (.iinc 6 1, 3) := by decide +kernel
theorem dL_isRound_261 : decode cL_isRound 261 = .ok (.goto (-89), 3) := by decide +kernel
theorem dL_isRound_264 : decode cL_isRound 264 = .ok (.aload_n 0, 1) := by decide +kernel
theorem dL_isRound_265 : decode cL_isRound 265 = .ok (.invokevirtual 50, 3) := by decide +kernel
theorem dL_isRound_268 : decode cL_isRound 268 = .ok (.istore 6, 2) := by decide +kernel
theorem dL_isRound_270 : decode cL_isRound 270 = .ok (.iload 5, 2) := by decide +kernel
theorem dL_isRound_272 : decode cL_isRound 272 = .ok (.bipush 99, 2) := by decide +kernel
theorem dL_isRound_274 : decode cL_isRound 274 = .ok (.if_icmp .ne 26, 3) := by decide +kernel
theorem dL_isRound_277 : decode cL_isRound 277 = .ok (.iload 6, 2) := by decide +kernel
theorem dL_isRound_279 : decode cL_isRound 279 = .ok (.bipush (-5), 2) := by decide +kernel
theorem dL_isRound_281 : decode cL_isRound 281 = .ok (.if_icmp .ne 17, 3) := by decide +kernel
theorem dL_isRound_284 : decode cL_isRound 284 = .ok (.aload_n 0, 1) := by decide +kernel
theorem dL_isRound_285 : decode cL_isRound 285 = .ok (.iconst 0, 1) := by decide +kernel
theorem dL_isRound_286 : decode cL_isRound 286 = .ok (.invokevirtual 14, 3) := by decide +kernel
theorem dL_isRound_289 : decode cL_isRound 289 = .ok (.bipush 99, 2) := by decide +kernel
theorem dL_isRound_291 : decode cL_isRound 291 = .ok (.if_icmp .ne 7, 3) := by decide +kernel
theorem dL_isRound_294 : decode cL_isRound 294 = .ok (.iconst 1, 1) := by decide +kernel
theorem dL_isRound_295 : decode cL_isRound 295 = .ok (.goto 4, 3) := by decide +kernel
theorem dL_isRound_298 : decode cL_isRound 298 = .ok (.iconst 0, 1) := by decide +kernel
theorem dL_isRound_299 : decode cL_isRound 299 = .ok (.ireturn, 1) := by decide +kernel
theorem dL_isRound_300 : decode cL_isRound 300 = .ok (.iconst 0, 1) := by decide +kernel
theorem dL_isRound_301 : decode cL_isRound 301 = .ok (.istore 7, 2) := by decide +kernel
theorem dL_isRound_303 : decode cL_isRound 303 = .ok (.iload 7, 2) := by decide +kernel
theorem dL_isRound_305 : decode cL_isRound 305 = .ok (.bipush 30, 2) := by decide +kernel
theorem dL_isRound_307 : decode cL_isRound 307 = .ok (.if_icmp .ge 178, 3) := by decide +kernel
theorem dL_isRound_310 : decode cL_isRound 310 = .ok (.aload_n 1, 1) := by decide +kernel
theorem dL_isRound_311 : decode cL_isRound 311 = .ok (.iload 7, 2) := by decide +kernel
theorem dL_isRound_313 : decode cL_isRound 313 = .ok (.iaload, 1) := by decide +kernel
theorem dL_isRound_314 : decode cL_isRound 314 = .ok (.ldc 49, 2) := by decide +kernel
theorem dL_isRound_316 : decode cL_isRound 316 = .ok (.if_icmp .lt 7, 3) := by decide +kernel
theorem dL_isRound_319 : decode cL_isRound 319 = .ok (.iconst 1, 1) := by decide +kernel
theorem dL_isRound_320 : decode cL_isRound 320 = .ok (.goto 4, 3) := by decide +kernel
theorem dL_isRound_323 : decode cL_isRound 323 = .ok (.iconst 0, 1) := by decide +kernel
theorem dL_isRound_324 : decode cL_isRound 324 = .ok (.istore 8, 2) := by decide +kernel
theorem dL_isRound_326 : decode cL_isRound 326 = .ok (.aload_n 1, 1) := by decide +kernel
theorem dL_isRound_327 : decode cL_isRound 327 = .ok (.iload 7, 2) := by decide +kernel
theorem dL_isRound_329 : decode cL_isRound 329 = .ok (.iaload, 1) := by decide +kernel
theorem dL_isRound_330 : decode cL_isRound 330 = .ok (.bipush 10, 2) := by decide +kernel
theorem dL_isRound_332 : decode cL_isRound 332 = .ok (.irem, 1) := by decide +kernel
theorem dL_isRound_333 : decode cL_isRound 333 = .ok (.istore 9, 2) := by decide +kernel
theorem dL_isRound_335 : decode cL_isRound 335 = .ok (.aload_n 0, 1) := by decide +kernel
theorem dL_isRound_336 : decode cL_isRound 336 = .ok (.iload 7, 2) := by decide +kernel
theorem dL_isRound_338 : decode cL_isRound 338 = .ok (.iconst 0, 1) := by decide +kernel
theorem dL_isRound_339 : decode cL_isRound 339 = .ok (.invokevirtual 8, 3) := by decide +kernel
theorem dL_isRound_342 : decode cL_isRound 342 = .ok (.istore 10, 2) := by decide +kernel
theorem dL_isRound_344 : decode cL_isRound 344 = .ok (.iload 8, 2) := by decide +kernel
theorem dL_isRound_346 : decode cL_isRound 346 = .ok (.ifCond .eq 74, 3) := by decide +kernel
theorem dL_isRound_349 : decode cL_isRound 349 = .ok (.iload 9, 2) := by decide +kernel
theorem dL_isRound_351 : decode cL_isRound 351 = .ok (.iconst 1, 1) := by decide +kernel
theorem dL_isRound_352 : decode cL_isRound 352 = .ok (.if_icmp .ne 49, 3) := by decide +kernel
theorem dL_isRound_355 : decode cL_isRound 355 = .ok (.iload 10, 2) := by decide +kernel
theorem dL_isRound_357 : decode cL_isRound 357 = .ok (.iconst 1, 1) := by decide +kernel
theorem dL_isRound_358 : decode cL_isRound 358 = .ok (.if_icmp .ne 39, 3) := by decide +kernel
theorem dL_isRound_361 : decode cL_isRound 361 = .ok (.aload_n 0, 1) := by decide +kernel
theorem dL_isRound_362 : decode cL_isRound 362 = .ok (.iload 7, 2) := by decide +kernel
theorem dL_isRound_364 : decode cL_isRound 364 = .ok (.iconst 4, 1) := by decide +kernel
theorem dL_isRound_365 : decode cL_isRound 365 = .ok (.invokevirtual 8, 3) := by decide +kernel
theorem dL_isRound_368 : decode cL_isRound 368 = .ok (.aload_n 1, 1) := by decide +kernel
theorem dL_isRound_369 : decode cL_isRound 369 = .ok (.iload 7, 2) := by decide +kernel
theorem dL_isRound_371 : decode cL_isRound 371 = .ok (.iaload, 1) := by decide +kernel
theorem dL_isRound_372 : decode cL_isRound 372 = .ok (.bipush 10, 2) := by decide +kernel
theorem dL_isRound_374 : decode cL_isRound 374 = .ok (.idiv, 1) := by decide +kernel
theorem dL_isRound_375 : decode cL_isRound 375 = .ok (.bipush 10, 2) := by decide +kernel
theorem dL_isRound_377 : decode cL_isRound 377 = .ok (.irem, 1) := by decide +kernel
theorem dL_isRound_378 : decode cL_isRound 378 = .ok (.if_icmp .ne 19, 3) := by decide +kernel
theorem dL_isRound_381 : decode cL_isRound 381 = .ok (.aload_n 0, 1) := by decide +kernel
theorem dL_isRound_382 : decode cL_isRound 382 = .ok (.iload 7, 2) := by decide +kernel
theorem dL_isRound_384 : decode cL_isRound 384 = .ok (.iconst 5, 1) := by decide +kernel
theorem dL_isRound_385 : decode cL_isRound 385 = .ok (.invokevirtual 8, 3) := by decide +kernel
theorem dL_isRound_388 : decode cL_isRound 388 = .ok (.iload 5, 2) := by decide +kernel
theorem dL_isRound_390 : decode cL_isRound 390 = .ok (.if_icmp .ne 7, 3) := by decide +kernel
theorem dL_isRound_393 : decode cL_isRound 393 = .ok (.iconst 1, 1) := by decide +kernel
theorem dL_isRound_394 : decode cL_isRound 394 = .ok (.goto 38, 3) := by decide +kernel
theorem dL_isRound_397 : decode cL_isRound 397 = .ok (.iconst 0, 1) := by decide +kernel
theorem dL_isRound_398 : decode cL_isRound 398 = .ok (.goto 34, 3) := by decide +kernel
theorem dL_isRound_401 : decode cL_isRound 401 = .ok (.iload 10, 2) := by decide +kernel
theorem dL_isRound_403 : decode cL_isRound 403 = .ok (.ifCond .eq 9, 3) := by decide +kernel
theorem dL_isRound_406 : decode cL_isRound 406 = .ok (.iload 10, 2) := by decide +kernel
theorem dL_isRound_408 : decode cL_isRound 408 = .ok (.iconst 2, 1) := by decide +kernel
theorem dL_isRound_409 : decode cL_isRound 409 = .ok (.if_icmp .ne 7, 3) := by decide +kernel
theorem dL_isRound_412 : decode cL_isRound 412 = .ok (.iconst 1, 1) := by decide +kernel
theorem dL_isRound_413 : decode cL_isRound 413 = .ok (.goto 19, 3) := by decide +kernel
theorem dL_isRound_416 : decode cL_isRound 416 = .ok (.iconst 0, 1) := by decide +kernel
theorem dL_isRound_417 : decode cL_isRound 417 = .ok (.goto 15, 3) := by decide +kernel
theorem dL_isRound_420 : decode cL_isRound 420 = .ok (.iload 10, 2) := by decide +kernel
theorem dL_isRound_422 : decode cL_isRound 422 = .ok (.iload 9, 2) := by decide +kernel
theorem dL_isRound_424 : decode cL_isRound 424 = .ok (.if_icmp .ne 7, 3) := by decide +kernel
theorem dL_isRound_427 : decode cL_isRound 427 = .ok (.iconst 1, 1) := by decide +kernel
theorem dL_isRound_428 : decode cL_isRound 428 = .ok (.goto 4, 3) := by decide +kernel
theorem dL_isRound_431 : decode cL_isRound 431 = .ok (.iconst 0, 1) := by decide +kernel
theorem dL_isRound_432 : decode cL_isRound 432 = .ok (.istore 11, 2) := by decide +kernel
theorem dL_isRound_434 : decode cL_isRound 434 = .ok (.iload 11, 2) := by decide +kernel
theorem dL_isRound_436 : decode cL_isRound 436 = .ok (.ifCond .eq 41, 3) := by decide +kernel
theorem dL_isRound_439 : decode cL_isRound 439 = .ok (.aload_n 0, 1) := by decide +kernel
theorem dL_isRound_440 : decode cL_isRound 440 = .ok (.iload 7, 2) := by decide +kernel
theorem dL_isRound_442 : decode cL_isRound 442 = .ok (.iconst 1, 1) := by decide +kernel
theorem dL_isRound_443 : decode cL_isRound 443 = .ok (.invokevirtual 8, 3) := by decide +kernel
theorem dL_isRound_446 : decode cL_isRound 446 = .ok (.aload_n 0, 1) := by decide +kernel
theorem dL_isRound_447 : decode cL_isRound 447 = .ok (.iload 7, 2) := by decide +kernel
theorem dL_isRound_449 : decode cL_isRound 449 = .ok (.iconst 2, 1) := by decide +kernel
theorem dL_isRound_450 : decode cL_isRound 450 = .ok (.invokevirtual 8, 3) := by decide +kernel
theorem dL_isRound_453 : decode cL_isRound 453 = .ok (.iadd, 1) := by decide +kernel
theorem dL_isRound_454 : decode cL_isRound 454 = .ok (.ifCond .ne 23, 3) := by decide +kernel
theorem dL_isRound_457 : decode cL_isRound 457 = .ok (.aload_n 0, 1) := by decide +kernel
theorem dL_isRound_458 : decode cL_isRound 458 = .ok (.iload 7, 2) := by decide +kernel
theorem dL_isRound_460 : decode cL_isRound 460 = .ok (.iconst 3, 1) := by decide +kernel
theorem dL_isRound_461 : decode cL_isRound 461 = .ok (.invokevirtual 8, 3) := by decide +kernel
theorem dL_isRound_464 : decode cL_isRound 464 = .ok (.aload_n 1, 1) := by decide +kernel
theorem dL_isRound_465 : decode cL_isRound 465 = .ok (.iload 7, 2) := by decide +kernel
theorem dL_isRound_467 : decode cL_isRound 467 = .ok (.iaload, 1) := by decide +kernel
theorem dL_isRound_468 : decode cL_isRound 468 = .ok (.ldc 49, 2) := by decide +kernel
theorem dL_isRound_470 : decode cL_isRound 470 = .ok (.irem, 1) := by decide +kernel
theorem dL_isRound_471 : decode cL_isRound 471 = .ok (.bipush 100, 2) := by decide +kernel
theorem dL_isRound_473 : decode cL_isRound 473 = .ok (.idiv, 1) := by decide +kernel
theorem dL_isRound_474 : decode cL_isRound 474 = .ok (.if_icmp .eq 5, 3) := by decide +kernel
theorem dL_isRound_477 : decode cL_isRound 477 = .ok (.iconst 0, 1) := by decide +kernel
theorem dL_isRound_478 : decode cL_isRound 478 = .ok (.ireturn, 1) := by decide +kernel
theorem dL_isRound_479 : decode cL_isRound 479 = .ok (.iinc 7 1, 3) := by decide +kernel
theorem dL_isRound_482 : decode cL_isRound 482 = .ok (.goto (-179), 3) := by decide +kernel
theorem dL_isRound_485 : decode cL_isRound 485 = .ok (.iconst 0, 1) := by decide +kernel
theorem dL_isRound_486 : decode cL_isRound 486 = .ok (.istore 7, 2) := by decide +kernel
theorem dL_isRound_488 : decode cL_isRound 488 = .ok (.iload 7, 2) := by decide +kernel
theorem dL_isRound_490 : decode cL_isRound 490 = .ok (.iconst 3, 1) := by decide +kernel
theorem dL_isRound_491 : decode cL_isRound 491 = .ok (.if_icmp .ge 65, 3) := by decide +kernel
theorem dL_isRound_494 : decode cL_isRound 494 = .ok (.aload_n 0, 1) := by decide +kernel
theorem dL_isRound_495 : decode cL_isRound 495 = .ok (.iload 7, 2) := by decide +kernel
theorem dL_isRound_497 : decode cL_isRound 497 = .ok (.iconst 0, 1) := by decide +kernel
theorem dL_isRound_498 : decode cL_isRound 498 = .ok (.invokevirtual 40, 3) := by decide +kernel
theorem dL_isRound_501 : decode cL_isRound 501 = .ok (.aload_n 1, 1) := by decide +kernel
theorem dL_isRound_502 : decode cL_isRound 502 = .ok (.bipush 30, 2) := by decide +kernel
theorem dL_isRound_504 : decode cL_isRound 504 = .ok (.iload 7, 2) := by decide +kernel
theorem dL_isRound_506 : decode cL_isRound 506 = .ok (.iadd, 1) := by decide +kernel
theorem dL_isRound_507 : decode cL_isRound 507 = .ok (.iaload, 1) := by decide +kernel
theorem dL_isRound_508 : decode cL_isRound 508 = .ok (.bipush 17, 2) := by decide +kernel
theorem dL_isRound_510 : decode cL_isRound 510 = .ok (.if_icmp .le 8, 3) := by decide +kernel
theorem dL_isRound_513 : decode cL_isRound 513 = .ok (.bipush 20, 2) := by decide +kernel
theorem dL_isRound_515 : decode cL_isRound 515 = .ok (.goto 12, 3) := by decide +kernel
theorem dL_isRound_518 : decode cL_isRound 518 = .ok (.aload_n 1, 1) := by decide +kernel
theorem dL_isRound_519 : decode cL_isRound 519 = .ok (.bipush 30, 2) := by decide +kernel
theorem dL_isRound_521 : decode cL_isRound 521 = .ok (.iload 7, 2) := by decide +kernel
theorem dL_isRound_523 : decode cL_isRound 523 = .ok (.iadd, 1) := by decide +kernel
theorem dL_isRound_524 : decode cL_isRound 524 = .ok (.iaload, 1) := by decide +kernel
theorem dL_isRound_525 : decode cL_isRound 525 = .ok (.iconst 2, 1) := by decide +kernel
theorem dL_isRound_526 : decode cL_isRound 526 = .ok (.iadd, 1) := by decide +kernel
theorem dL_isRound_527 : decode cL_isRound 527 = .ok (.if_icmp .ne 21, 3) := by decide +kernel
theorem dL_isRound_530 : decode cL_isRound 530 = .ok (.aload_n 0, 1) := by decide +kernel
theorem dL_isRound_531 : decode cL_isRound 531 = .ok (.iload 7, 2) := by decide +kernel
theorem dL_isRound_533 : decode cL_isRound 533 = .ok (.bipush 6, 2) := by decide +kernel
theorem dL_isRound_535 : decode cL_isRound 535 = .ok (.invokevirtual 40, 3) := by decide +kernel
theorem dL_isRound_538 : decode cL_isRound 538 = .ok (.aload_n 1, 1) := by decide +kernel
theorem dL_isRound_539 : decode cL_isRound 539 = .ok (.bipush 33, 2) := by decide +kernel
theorem dL_isRound_541 : decode cL_isRound 541 = .ok (.iload 7, 2) := by decide +kernel
theorem dL_isRound_543 : decode cL_isRound 543 = .ok (.iadd, 1) := by decide +kernel
theorem dL_isRound_544 : decode cL_isRound 544 = .ok (.iaload, 1) := by decide +kernel
theorem dL_isRound_545 : decode cL_isRound 545 = .ok (.if_icmp .eq 5, 3) := by decide +kernel
theorem dL_isRound_548 : decode cL_isRound 548 = .ok (.iconst 0, 1) := by decide +kernel
theorem dL_isRound_549 : decode cL_isRound 549 = .ok (.ireturn, 1) := by decide +kernel
theorem dL_isRound_550 : decode cL_isRound 550 = .ok (.iinc 7 1, 3) := by decide +kernel
theorem dL_isRound_553 : decode cL_isRound 553 = .ok (.goto (-65), 3) := by decide +kernel
theorem dL_isRound_556 : decode cL_isRound 556 = .ok (.iload 6, 2) := by decide +kernel
theorem dL_isRound_558 : decode cL_isRound 558 = .ok (.iload_n 2, 1) := by decide +kernel
theorem dL_isRound_559 : decode cL_isRound 559 = .ok (.if_icmp .ne 38, 3) := by decide +kernel
theorem dL_isRound_562 : decode cL_isRound 562 = .ok (.aload_n 0, 1) := by decide +kernel
theorem dL_isRound_563 : decode cL_isRound 563 = .ok (.iconst 3, 1) := by decide +kernel
theorem dL_isRound_564 : decode cL_isRound 564 = .ok (.invokevirtual 14, 3) := by decide +kernel
theorem dL_isRound_567 : decode cL_isRound 567 = .ok (.iload_n 3, 1) := by decide +kernel
theorem dL_isRound_568 : decode cL_isRound 568 = .ok (.if_icmp .ne 29, 3) := by decide +kernel
theorem dL_isRound_571 : decode cL_isRound 571 = .ok (.aload_n 0, 1) := by decide +kernel
theorem dL_isRound_572 : decode cL_isRound 572 = .ok (.iconst 1, 1) := by decide +kernel
theorem dL_isRound_573 : decode cL_isRound 573 = .ok (.invokevirtual 14, 3) := by decide +kernel
theorem dL_isRound_576 : decode cL_isRound 576 = .ok (.iload 4, 2) := by decide +kernel
theorem dL_isRound_578 : decode cL_isRound 578 = .ok (.if_icmp .ne 19, 3) := by decide +kernel
theorem dL_isRound_581 : decode cL_isRound 581 = .ok (.aload_n 0, 1) := by decide +kernel
theorem dL_isRound_582 : decode cL_isRound 582 = .ok (.iconst 0, 1) := by decide +kernel
theorem dL_isRound_583 : decode cL_isRound 583 = .ok (.invokevirtual 14, 3) := by decide +kernel
theorem dL_isRound_586 : decode cL_isRound 586 = .ok (.iload 5, 2) := by decide +kernel
theorem dL_isRound_588 : decode cL_isRound 588 = .ok (.iconst 1, 1) := by decide +kernel
theorem dL_isRound_589 : decode cL_isRound 589 = .ok (.iadd, 1) := by decide +kernel
theorem dL_isRound_590 : decode cL_isRound 590 = .ok (.if_icmp .ne 7, 3) := by decide +kernel
theorem dL_isRound_593 : decode cL_isRound 593 = .ok (.iconst 1, 1) := by decide +kernel
theorem dL_isRound_594 : decode cL_isRound 594 = .ok (.goto 4, 3) := by decide +kernel
theorem dL_isRound_597 : decode cL_isRound 597 = .ok (.iconst 0, 1) := by decide +kernel
theorem dL_isRound_598 : decode cL_isRound 598 = .ok (.ireturn, 1) := by decide +kernel
