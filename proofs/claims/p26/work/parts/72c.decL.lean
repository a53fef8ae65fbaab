theorem dL_isArgued_0 : decode cL_isArgued 0 = .ok (.aload_n 0, 1) := by decide +kernel
theorem dL_isArgued_1 : decode cL_isArgued 1 = .ok (.bipush 13, 2) := by decide +kernel
theorem dL_isArgued_3 : decode cL_isArgued 3 = .ok (.invokevirtual 14, 3) := by decide +kernel
theorem dL_isArgued_6 : decode cL_isArgued 6 = .ok (.istore 4, 2) := by decide +kernel
theorem dL_isArgued_8 : decode cL_isArgued 8 = .ok (.aload_n 0, 1) := by decide +kernel
theorem dL_isArgued_9 : decode cL_isArgued 9 = .ok (.iload_n 1, 1) := by decide +kernel
theorem dL_isArgued_10 : decode cL_isArgued 10 = .ok (.iconst 0, 1) := by decide +kernel
theorem dL_isArgued_11 : decode cL_isArgued 11 = .ok (.invokevirtual 40, 3) := by decide +kernel
theorem dL_isArgued_14 : decode cL_isArgued 14 = .ok (.istore 5, 2) := by decide +kernel
theorem dL_isArgued_16 : decode cL_isArgued 16 = .ok (.aload_n 0, 1) := by decide +kernel
theorem dL_isArgued_17 : decode cL_isArgued 17 = .ok (.iload_n 2, 1) := by decide +kernel
theorem dL_isArgued_18 : decode cL_isArgued 18 = .ok (.iconst 0, 1) := by decide +kernel
theorem dL_isArgued_19 : decode cL_isArgued 19 = .ok (.invokevirtual 40, 3) := by decide +kernel
theorem dL_isArgued_22 : decode cL_isArgued 22 = .ok (.istore 6, 2) := by decide +kernel
theorem dL_isArgued_24 : decode cL_isArgued 24 = .ok (.aload_n 0, 1) := by decide +kernel
theorem dL_isArgued_25 : decode cL_isArgued 25 = .ok (.iload_n 1, 1) := by decide +kernel
theorem dL_isArgued_26 : decode cL_isArgued 26 = .ok (.iconst 4, 1) := by decide +kernel
theorem dL_isArgued_27 : decode cL_isArgued 27 = .ok (.invokevirtual 40, 3) := by decide +kernel
theorem dL_isArgued_30 : decode cL_isArgued 30 = .ok (.istore 7, 2) := by decide +kernel
theorem dL_isArgued_32 : decode cL_isArgued 32 = .ok (.aload_n 0, 1) := by decide +kernel
theorem dL_isArgued_33 : decode cL_isArgued 33 = .ok (.iload_n 2, 1) := by decide +kernel
theorem dL_isArgued_34 : decode cL_isArgued 34 = .ok (.iconst 5, 1) := by decide +kernel
theorem dL_isArgued_35 : decode cL_isArgued 35 = .ok (.invokevirtual 40, 3) := by decide +kernel
theorem dL_isArgued_38 : decode cL_isArgued 38 = .ok (.istore 8, 2) := by decide +kernel
theorem dL_isArgued_40 : decode cL_isArgued 40 = .ok (.aload_n 0, 1) := by decide +kernel
theorem dL_isArgued_41 : decode cL_isArgued 41 = .ok (.iload_n 2, 1) := by decide +kernel
theorem dL_isArgued_42 : decode cL_isArgued 42 = .ok (.iload_n 3, 1) := by decide +kernel
theorem dL_isArgued_43 : decode cL_isArgued 43 = .ok (.invokestatic 36, 3) := by decide +kernel
theorem dL_isArgued_46 : decode cL_isArgued 46 = .ok (.istore 9, 2) := by decide +kernel
theorem dL_isArgued_48 : decode cL_isArgued 48 = .ok (.aload_n 0, 1) := by decide +kernel
theorem dL_isArgued_49 : decode cL_isArgued 49 = .ok (.iload_n 1, 1) := by decide +kernel
theorem dL_isArgued_50 : decode cL_isArgued 50 = .ok (.iload_n 2, 1) := by decide +kernel
theorem dL_isArgued_51 : decode cL_isArgued 51 = .ok (.iload_n 3, 1) := by decide +kernel
theorem dL_isArgued_52 : decode cL_isArgued 52 = .ok (.invokevirtual 53, 3) := by decide +kernel
theorem dL_isArgued_55 : decode cL_isArgued 55 = .ok (.istore 10, 2) := by decide +kernel
theorem dL_isArgued_57 : decode cL_isArgued 57 = .ok (.iload_n 1, 1) := by decide +kernel
theorem dL_isArgued_58 : decode cL_isArgued 58 = .ok (.iload_n 2, 1) := by decide +kernel
theorem dL_isArgued_59 : decode cL_isArgued 59 = .ok (.if_icmp .ne 16, 3) := by decide +kernel
theorem dL_isArgued_62 : decode cL_isArgued 62 = .ok (.iload 10, 2) := by decide +kernel
theorem dL_isArgued_64 : decode cL_isArgued 64 = .ok (.bipush (-2), 2) := by decide +kernel
theorem dL_isArgued_66 : decode cL_isArgued 66 = .ok (.if_icmp .ne 7, 3) := by decide +kernel
theorem dL_isArgued_69 : decode cL_isArgued 69 = .ok (.iconst 1, 1) := by decide +kernel
theorem dL_isArgued_70 : decode cL_isArgued 70 = .ok (.goto 4, 3) := by decide +kernel
theorem dL_isArgued_73 : decode cL_isArgued 73 = .ok (.iconst 0, 1) := by decide +kernel
theorem dL_isArgued_74 : decode cL_isArgued 74 = .ok (.ireturn, 1) := by decide +kernel
theorem dL_isArgued_75 : decode cL_isArgued 75 = .ok (.iload 9, 2) := by decide +kernel
theorem dL_isArgued_77 : decode cL_isArgued 77 = .ok (.iconst 2, 1) := by decide +kernel
theorem dL_isArgued_78 : decode cL_isArgued 78 = .ok (.if_icmp .ne 10, 3) := by decide +kernel
theorem dL_isArgued_81 : decode cL_isArgued 81 = .ok (.iload 5, 2) := by decide +kernel
theorem dL_isArgued_83 : decode cL_isArgued 83 = .ok (.iload 4, 2) := by decide +kernel
theorem dL_isArgued_85 : decode cL_isArgued 85 = .ok (.if_icmp .ge 38, 3) := by decide +kernel
theorem dL_isArgued_88 : decode cL_isArgued 88 = .ok (.iload 10, 2) := by decide +kernel
theorem dL_isArgued_90 : decode cL_isArgued 90 = .ok (.bipush (-5), 2) := by decide +kernel
theorem dL_isArgued_92 : decode cL_isArgued 92 = .ok (.if_icmp .ne 29, 3) := by decide +kernel
theorem dL_isArgued_95 : decode cL_isArgued 95 = .ok (.aload_n 0, 1) := by decide +kernel
theorem dL_isArgued_96 : decode cL_isArgued 96 = .ok (.iload_n 1, 1) := by decide +kernel
theorem dL_isArgued_97 : decode cL_isArgued 97 = .ok (.iconst 0, 1) := by decide +kernel
theorem dL_isArgued_98 : decode cL_isArgued 98 = .ok (.invokevirtual 40, 3) := by decide +kernel
theorem dL_isArgued_101 : decode cL_isArgued 101 = .ok (.iload 5, 2) := by decide +kernel
theorem dL_isArgued_103 : decode cL_isArgued 103 = .ok (.if_icmp .ne 18, 3) := by decide +kernel
theorem dL_isArgued_106 : decode cL_isArgued 106 = .ok (.aload_n 0, 1) := by decide +kernel
theorem dL_isArgued_107 : decode cL_isArgued 107 = .ok (.iload_n 1, 1) := by decide +kernel
theorem dL_isArgued_108 : decode cL_isArgued 108 = .ok (.iconst 4, 1) := by decide +kernel
theorem dL_isArgued_109 : decode cL_isArgued 109 = .ok (.invokevirtual 40, 3) := by decide +kernel
theorem dL_isArgued_112 : decode cL_isArgued 112 = .ok (.iload 7, 2) := by decide +kernel
theorem dL_isArgued_114 : decode cL_isArgued 114 = .ok (.if_icmp .ne 7, 3) := by decide +kernel
theorem dL_isArgued_117 : decode cL_isArgued 117 = .ok (.iconst 1, 1) := by decide +kernel
theorem dL_isArgued_118 : decode cL_isArgued 118 = .ok (.goto 4, 3) := by decide +kernel
theorem dL_isArgued_121 : decode cL_isArgued 121 = .ok (.iconst 0, 1) := by decide +kernel
theorem dL_isArgued_122 : decode cL_isArgued 122 = .ok (.ireturn, 1) := by decide +kernel
theorem dL_isArgued_123 : decode cL_isArgued 123 = .ok (.iload 6, 2) := by decide +kernel
theorem dL_isArgued_125 : decode cL_isArgued 125 = .ok (.iload 4, 2) := by decide +kernel
theorem dL_isArgued_127 : decode cL_isArgued 127 = .ok (.if_icmp .ge 7, 3) := by decide +kernel
theorem dL_isArgued_130 : decode cL_isArgued 130 = .ok (.iconst 1, 1) := by decide +kernel
theorem dL_isArgued_131 : decode cL_isArgued 131 = .ok (.goto 4, 3) := by decide +kernel
theorem dL_isArgued_134 : decode cL_isArgued 134 = .ok (.iconst 0, 1) := by decide +kernel
theorem dL_isArgued_135 : decode cL_isArgued 135 = .ok (.istore 11, 2) := by decide +kernel
theorem dL_isArgued_137 : decode cL_isArgued 137 = .ok (.iload 10, 2) := by decide +kernel
theorem dL_isArgued_139 : decode cL_isArgued 139 = .ok (.iload 11, 2) := by decide +kernel
theorem dL_isArgued_141 : decode cL_isArgued 141 = .ok (.ifCond .eq 7, 3) := by decide +kernel
theorem dL_isArgued_144 : decode cL_isArgued 144 = .ok (.iconst 1, 1) := by decide +kernel
theorem dL_isArgued_145 : decode cL_isArgued 145 = .ok (.goto 4, 3) := by decide +kernel
theorem dL_isArgued_148 : decode cL_isArgued 148 = .ok (.iconst 0, 1) := by decide +kernel
theorem dL_isArgued_149 : decode cL_isArgued 149 = .ok (.if_icmp .ne 91, 3) := by decide +kernel
theorem dL_isArgued_152 : decode cL_isArgued 152 = .ok (.aload_n 0, 1) := by decide +kernel
theorem dL_isArgued_153 : decode cL_isArgued 153 = .ok (.iload_n 1, 1) := by decide +kernel
theorem dL_isArgued_154 : decode cL_isArgued 154 = .ok (.iconst 0, 1) := by decide +kernel
theorem dL_isArgued_155 : decode cL_isArgued 155 = .ok (.invokevirtual 40, 3) := by decide +kernel
theorem dL_isArgued_158 : decode cL_isArgued 158 = .ok (.iload 5, 2) := by decide +kernel
theorem dL_isArgued_160 : decode cL_isArgued 160 = .ok (.iload 4, 2) := by decide +kernel
theorem dL_isArgued_162 : decode cL_isArgued 162 = .ok (.isub, 1) := by decide +kernel
theorem dL_isArgued_163 : decode cL_isArgued 163 = .ok (.if_icmp .ne 77, 3) := by decide +kernel
theorem dL_isArgued_166 : decode cL_isArgued 166 = .ok (.aload_n 0, 1) := by decide +kernel
theorem dL_isArgued_167 : decode cL_isArgued 167 = .ok (.iload_n 2, 1) := by decide +kernel
theorem dL_isArgued_168 : decode cL_isArgued 168 = .ok (.iconst 0, 1) := by decide +kernel
theorem dL_isArgued_169 : decode cL_isArgued 169 = .ok (.invokevirtual 40, 3) := by decide +kernel
theorem dL_isArgued_172 : decode cL_isArgued 172 = .ok (.iload 11, 2) := by decide +kernel
theorem dL_isArgued_174 : decode cL_isArgued 174 = .ok (.ifCond .eq 8, 3) := by decide +kernel
theorem dL_isArgued_177 : decode cL_isArgued 177 = .ok (.iload 6, 2) := by decide +kernel
theorem dL_isArgued_179 : decode cL_isArgued 179 = .ok (.goto 8, 3) := by decide +kernel
theorem dL_isArgued_182 : decode cL_isArgued 182 = .ok (.iload 6, 2) := by decide +kernel
theorem dL_isArgued_184 : decode cL_isArgued 184 = .ok (.iload 4, 2) := by decide +kernel
theorem dL_isArgued_186 : decode cL_isArgued 186 = .ok (.isub, 1) := by decide +kernel
theorem dL_isArgued_187 : decode cL_isArgued 187 = .ok (.if_icmp .ne 53, 3) := by decide +kernel
theorem dL_isArgued_190 : decode cL_isArgued 190 = .ok (.aload_n 0, 1) := by decide +kernel
theorem dL_isArgued_191 : decode cL_isArgued 191 = .ok (.iload_n 2, 1) := by decide +kernel
theorem dL_isArgued_192 : decode cL_isArgued 192 = .ok (.iload_n 3, 1) := by decide +kernel
theorem dL_isArgued_193 : decode cL_isArgued 193 = .ok (.invokestatic 36, 3) := by decide +kernel
theorem dL_isArgued_196 : decode cL_isArgued 196 = .ok (.iload 11, 2) := by decide +kernel
theorem dL_isArgued_198 : decode cL_isArgued 198 = .ok (.ifCond .eq 7, 3) := by decide +kernel
theorem dL_isArgued_201 : decode cL_isArgued 201 = .ok (.iconst 0, 1) := by decide +kernel
theorem dL_isArgued_202 : decode cL_isArgued 202 = .ok (.goto 4, 3) := by decide +kernel
theorem dL_isArgued_205 : decode cL_isArgued 205 = .ok (.iconst 2, 1) := by decide +kernel
theorem dL_isArgued_206 : decode cL_isArgued 206 = .ok (.if_icmp .ne 34, 3) := by decide +kernel
theorem dL_isArgued_209 : decode cL_isArgued 209 = .ok (.aload_n 0, 1) := by decide +kernel
theorem dL_isArgued_210 : decode cL_isArgued 210 = .ok (.iload_n 1, 1) := by decide +kernel
theorem dL_isArgued_211 : decode cL_isArgued 211 = .ok (.iconst 4, 1) := by decide +kernel
theorem dL_isArgued_212 : decode cL_isArgued 212 = .ok (.invokevirtual 40, 3) := by decide +kernel
theorem dL_isArgued_215 : decode cL_isArgued 215 = .ok (.iload 7, 2) := by decide +kernel
theorem dL_isArgued_217 : decode cL_isArgued 217 = .ok (.iconst 1, 1) := by decide +kernel
theorem dL_isArgued_218 : decode cL_isArgued 218 = .ok (.iadd, 1) := by decide +kernel
theorem dL_isArgued_219 : decode cL_isArgued 219 = .ok (.if_icmp .ne 21, 3) := by decide +kernel
theorem dL_isArgued_222 : decode cL_isArgued 222 = .ok (.aload_n 0, 1) := by decide +kernel
theorem dL_isArgued_223 : decode cL_isArgued 223 = .ok (.iload_n 2, 1) := by decide +kernel
theorem dL_isArgued_224 : decode cL_isArgued 224 = .ok (.iconst 5, 1) := by decide +kernel
theorem dL_isArgued_225 : decode cL_isArgued 225 = .ok (.invokevirtual 40, 3) := by decide +kernel
theorem dL_isArgued_228 : decode cL_isArgued 228 = .ok (.iload 8, 2) := by decide +kernel
theorem dL_isArgued_230 : decode cL_isArgued 230 = .ok (.iload 10, 2) := by decide +kernel
theorem dL_isArgued_232 : decode cL_isArgued 232 = .ok (.iadd, 1) := by decide +kernel
theorem dL_isArgued_233 : decode cL_isArgued 233 = .ok (.if_icmp .ne 7, 3) := by decide +kernel
theorem dL_isArgued_236 : decode cL_isArgued 236 = .ok (.iconst 1, 1) := by decide +kernel
theorem dL_isArgued_237 : decode cL_isArgued 237 = .ok (.goto 4, 3) := by decide +kernel
theorem dL_isArgued_240 : decode cL_isArgued 240 = .ok (.iconst 0, 1) := by decide +kernel
theorem dL_isArgued_241 : decode cL_isArgued 241 = .ok (.ireturn, 1) := by decide +kernel
theorem dL_isDecided_0 : decode cL_isDecided 0 = .ok (.aload_n 0, 1) := by decide +kernel
theorem dL_isDecided_1 : decode cL_isDecided 1 = .ok (.iload_n 1, 1) := by decide +kernel
theorem dL_isDecided_2 : decode cL_isDecided 2 = .ok (.invokevirtual 26, 3) := by decide +kernel
theorem dL_isDecided_5 : decode cL_isDecided 5 = .ok (.istore_n 2, 1) := by decide +kernel
theorem dL_isDecided_6 : decode cL_isDecided 6 = .ok (.iconst 0, 1) := by decide +kernel
theorem dL_isDecided_7 : decode cL_isDecided 7 = .ok (.istore_n 3, 1) := by decide +kernel
theorem dL_isDecided_8 : decode cL_isDecided 8 = .ok (.aload_n 0, 1) := by decide +kernel
theorem dL_isDecided_9 : decode cL_isDecided 9 = .ok (.bipush 12, 2) := by decide +kernel
theorem dL_isDecided_11 : decode cL_isDecided 11 = .ok (.invokevirtual 14, 3) := by decide +kernel
theorem dL_isDecided_14 : decode cL_isDecided 14 = .ok (.istore 4, 2) := by decide +kernel
theorem dL_isDecided_16 : decode cL_isDecided 16 = .ok (.aload_n 0, 1) := by decide +kernel
theorem dL_isDecided_17 : decode cL_isDecided 17 = .ok (.iload_n 1, 1) := by decide +kernel
theorem dL_isDecided_18 : decode cL_isDecided 18 = .ok (.iconst 0, 1) := by decide +kernel
theorem dL_isDecided_19 : decode cL_isDecided 19 = .ok (.invokevirtual 8, 3) := by decide +kernel
theorem dL_isDecided_22 : decode cL_isDecided 22 = .ok (.ifCond .eq 13, 3) := by decide +kernel
theorem dL_isDecided_25 : decode cL_isDecided 25 = .ok (.iload_n 2, 1) := by decide +kernel
theorem dL_isDecided_26 : decode cL_isDecided 26 = .ok (.ifCond .ne 7, 3) := by decide +kernel
theorem dL_isDecided_29 : decode cL_isDecided 29 = .ok (.iconst 1, 1) := by decide +kernel
theorem dL_isDecided_30 : decode cL_isDecided 30 = .ok (.goto 4, 3) := by decide +kernel
theorem dL_isDecided_33 : decode cL_isDecided 33 = .ok (.iconst 0, 1) := by decide +kernel
theorem dL_isDecided_34 : decode cL_isDecided 34 = .ok (.ireturn, 1) := by decide +kernel
theorem dL_isDecided_35 : decode cL_isDecided 35 = .ok (.iconst 0, 1) := by decide +kernel
theorem dL_isDecided_36 : decode cL_isDecided 36 = .ok (.istore 5, 2) := by decide +kernel
theorem dL_isDecided_38 : decode cL_isDecided 38 = .ok (.iload 5, 2) := by decide +kernel
theorem dL_isDecided_40 : decode cL_isDecided 40 = .ok (.iconst 3, 1) := by decide +kernel
theorem dL_isDecided_41 : decode cL_isDecided 41 = .ok (.if_icmp .ge 144, 3) := by decide +kernel
theorem dL_isDecided_44 : decode cL_isDecided 44 = .ok (.aload_n 0, 1) := by decide +kernel
theorem dL_isDecided_45 : decode cL_isDecided 45 = .ok (.iload 5, 2) := by decide +kernel
theorem dL_isDecided_47 : decode cL_isDecided 47 = .ok (.iload_n 1, 1) := by decide +kernel
theorem dL_isDecided_48 : decode cL_isDecided 48 = .ok (.invokestatic 36, 3) := by decide +kernel
theorem dL_isDecided_51 : decode cL_isDecided 51 = .ok (.istore 6, 2) := by decide +kernel
theorem dL_isDecided_53 : decode cL_isDecided 53 = .ok (.aload_n 0, 1) := by decide +kernel
theorem dL_isDecided_54 : decode cL_isDecided 54 = .ok (.iload_n 1, 1) := by decide +kernel
theorem dL_isDecided_55 : decode cL_isDecided 55 = .ok (.invokevirtual 23, 3) := by decide +kernel
theorem dL_isDecided_58 : decode cL_isDecided 58 = .ok (.ifCond .ne 7, 3) := by decide +kernel
theorem dL_isDecided_61 : decode cL_isDecided 61 = .ok (.iconst 1, 1) := by decide +kernel
theorem dL_isDecided_62 : decode cL_isDecided 62 = .ok (.goto 4, 3) := by decide +kernel
theorem dL_isDecided_65 : decode cL_isDecided 65 = .ok (.iconst 0, 1) := by decide +kernel
theorem dL_isDecided_66 : decode cL_isDecided 66 = .ok (.istore 7, 2) := by decide +kernel
theorem dL_isDecided_68 : decode cL_isDecided 68 = .ok (.iconst 0, 1) := by decide +kernel
theorem dL_isDecided_69 : decode cL_isDecided 69 = .ok (.istore 8, 2) := by decide +kernel
theorem dL_isDecided_71 : decode cL_isDecided 71 = .ok (.iload 8, 2) := by decide +kernel
theorem dL_isDecided_73 : decode cL_isDecided 73 = .ok (.iconst 3, 1) := by decide +kernel
theorem dL_isDecided_74 : decode cL_isDecided 74 = .ok (.if_icmp .ge 91, 3) := by decide +kernel
theorem dL_isDecided_77 : decode cL_isDecided 77 = .ok (.aload_n 0, 1) := by decide +kernel
theorem dL_isDecided_78 : decode cL_isDecided 78 = .ok (.iload 5, 2) := by decide +kernel
theorem dL_isDecided_80 : decode cL_isDecided 80 = .ok (.iload_n 1, 1) := by decide +kernel
theorem dL_isDecided_81 : decode cL_isDecided 81 = .ok (.iload 8, 2) := by decide +kernel
theorem dL_isDecided_83 : decode cL_isDecided 83 = .ok (.invokevirtual 57, 3) := by decide +kernel
theorem dL_isDecided_86 : decode cL_isDecided 86 = .ok (.istore 9, 2) := by decide +kernel
theorem dL_isDecided_88 : decode cL_isDecided 88 = .ok (.iload_n 3, 1) := by decide +kernel
theorem dL_isDecided_89 : decode cL_isDecided 89 = .ok (.iload 9, 2) := by decide +kernel
theorem dL_isDecided_91 : decode cL_isDecided 91 = .ok (.ifCond .lt 28, 3) := by decide +kernel
theorem dL_isDecided_94 : decode cL_isDecided 94 = .ok (.aload_n 0, 1) := by decide +kernel
theorem dL_isDecided_95 : decode cL_isDecided 95 = .ok (.iload_n 1, 1) := by decide +kernel
theorem dL_isDecided_96 : decode cL_isDecided 96 = .ok (.invokevirtual 23, 3) := by decide +kernel
theorem dL_isDecided_99 : decode cL_isDecided 99 = .ok (.ifCond .ne 7, 3) := by decide +kernel
theorem dL_isDecided_102 : decode cL_isDecided 102 = .ok (.iconst 1, 1) := by decide +kernel
theorem dL_isDecided_103 : decode cL_isDecided 103 = .ok (.goto 4, 3) := by decide +kernel
theorem dL_isDecided_106 : decode cL_isDecided 106 = .ok (.iconst 0, 1) := by decide +kernel
theorem dL_isDecided_107 : decode cL_isDecided 107 = .ok (.iload 7, 2) := by decide +kernel
theorem dL_isDecided_109 : decode cL_isDecided 109 = .ok (.if_icmp .eq 10, 3) := by decide +kernel
theorem dL_isDecided_112 : decode cL_isDecided 112 = .ok (.iconst 1, 1) := by decide +kernel
theorem dL_isDecided_113 : decode cL_isDecided 113 = .ok (.iload 5, 2) := by decide +kernel
theorem dL_isDecided_115 : decode cL_isDecided 115 = .ok (.ishl, 1) := by decide +kernel
theorem dL_isDecided_116 : decode cL_isDecided 116 = .ok (.goto 4, 3) := by decide +kernel
theorem dL_isDecided_119 : decode cL_isDecided 119 = .ok (.iconst 0, 1) := by decide +kernel
theorem dL_isDecided_120 : decode cL_isDecided 120 = .ok (.ior, 1) := by decide +kernel
theorem dL_isDecided_121 : decode cL_isDecided 121 = .ok (.istore_n 3, 1) := by decide +kernel
theorem dL_isDecided_122 : decode cL_isDecided 122 = .ok (.iload_n 3, 1) := by decide +kernel
theorem dL_isDecided_123 : decode cL_isDecided 123 = .ok (.iload 9, 2) := by decide +kernel
theorem dL_isDecided_125 : decode cL_isDecided 125 = .ok (.bipush (-4), 2) := by decide +kernel
theorem dL_isDecided_127 : decode cL_isDecided 127 = .ok (.if_icmp .ne 15, 3) := by decide +kernel
theorem dL_isDecided_130 : decode cL_isDecided 130 = .ok (.iload 7, 2) := by decide +kernel
theorem dL_isDecided_132 : decode cL_isDecided 132 = .ok (.ifCond .eq 10, 3) := by decide +kernel
theorem dL_isDecided_135 : decode cL_isDecided 135 = .ok (.iconst 1, 1) := by decide +kernel
theorem dL_isDecided_136 : decode cL_isDecided 136 = .ok (.iload 5, 2) := by decide +kernel
theorem dL_isDecided_138 : decode cL_isDecided 138 = .ok (.ishl, 1) := by decide +kernel
theorem dL_isDecided_139 : decode cL_isDecided 139 = .ok (.goto 4, 3) := by decide +kernel
theorem dL_isDecided_142 : decode cL_isDecided 142 = .ok (.iconst 0, 1) := by decide +kernel
theorem dL_isDecided_143 : decode cL_isDecided 143 = .ok (.ior, 1) := by decide +kernel
theorem dL_isDecided_144 : decode cL_isDecided 144 = .ok (.istore_n 3, 1) := by decide +kernel
theorem dL_isDecided_145 : decode cL_isDecided 145 = .ok (.iload 9, 2) := by decide +kernel
theorem dL_isDecided_147 : decode cL_isDecided 147 = .ok (.ifCond .lt 12, 3) := by decide +kernel
theorem dL_isDecided_150 : decode cL_isDecided 150 = .ok (.aload_n 0, 1) := by decide +kernel
theorem dL_isDecided_151 : decode cL_isDecided 151 = .ok (.invokevirtual 59, 3) := by decide +kernel
theorem dL_isDecided_154 : decode cL_isDecided 154 = .ok (.ifCond .ge 5, 3) := by decide +kernel
theorem dL_isDecided_157 : decode cL_isDecided 157 = .ok (.iconst 0, 1) := by decide +kernel
theorem dL_isDecided_158 : decode cL_isDecided 158 = .ok (.ireturn, 1) := by decide +kernel
theorem dL_isDecided_159 : decode cL_isDecided 159 = .ok (.iinc 8 1, 3) := by decide +kernel
theorem dL_isDecided_162 : decode cL_isDecided 162 = .ok (.goto (-91), 3) := by decide +kernel
theorem dL_isDecided_165 : decode cL_isDecided 165 = .ok (.aload_n 0, 1) := by decide +kernel
theorem dL_isDecided_166 : decode cL_isDecided 166 = .ok (.iload 5, 2) := by decide +kernel
theorem dL_isDecided_168 : decode cL_isDecided 168 = .ok (.iload_n 1, 1) := by decide +kernel
theorem dL_isDecided_169 : decode cL_isDecided 169 = .ok (.invokestatic 36, 3) := by decide +kernel
theorem dL_isDecided_172 : decode cL_isDecided 172 = .ok (.iload 6, 2) := by decide +kernel
theorem dL_isDecided_174 : decode cL_isDecided 174 = .ok (.if_icmp .eq 5, 3) := by decide +kernel
theorem dL_isDecided_177 : decode cL_isDecided 177 = .ok (.iconst 0, 1) := by decide +kernel
theorem dL_isDecided_178 : decode cL_isDecided 178 = .ok (.ireturn, 1) := by decide +kernel
theorem dL_isDecided_179 : decode cL_isDecided 179 = .ok (.iinc 5 1, 3) := by decide +kernel
theorem dL_isDecided_182 : decode cL_isDecided 182 = .ok (.goto (-144), 3) := by decide +kernel
theorem dL_isDecided_185 : decode cL_isDecided 185 = .ok (.iload_n 2, 1) := by decide +kernel
theorem dL_isDecided_186 : decode cL_isDecided 186 = .ok (.iload_n 3, 1) := by decide +kernel
theorem dL_isDecided_187 : decode cL_isDecided 187 = .ok (.if_icmp .ne 18, 3) := by decide +kernel
theorem dL_isDecided_190 : decode cL_isDecided 190 = .ok (.iload 4, 2) := by decide +kernel
theorem dL_isDecided_192 : decode cL_isDecided 192 = .ok (.aload_n 0, 1) := by decide +kernel
theorem dL_isDecided_193 : decode cL_isDecided 193 = .ok (.bipush 12, 2) := by decide +kernel
theorem dL_isDecided_195 : decode cL_isDecided 195 = .ok (.invokevirtual 14, 3) := by decide +kernel
theorem dL_isDecided_198 : decode cL_isDecided 198 = .ok (.if_icmp .ne 7, 3) := by decide +kernel
theorem dL_isDecided_201 : decode cL_isDecided 201 = .ok (.iconst 1, 1) := by decide +kernel
theorem dL_isDecided_202 : decode cL_isDecided 202 = .ok (.goto 4, 3) := by decide +kernel
theorem dL_isDecided_205 : decode cL_isDecided 205 = .ok (.iconst 0, 1) := by decide +kernel
theorem dL_isDecided_206 : decode cL_isDecided 206 = .ok (.ireturn, 1) := by decide +kernel
theorem dL_isPrinted_0 : decode cL_isPrinted 0 = .ok (.aload_n 0, 1) := by decide +kernel
theorem dL_isPrinted_1 : decode cL_isPrinted 1 = .ok (.iload_n 1, 1) := by decide +kernel
theorem dL_isPrinted_2 : decode cL_isPrinted 2 = .ok (.iconst 0, 1) := by decide +kernel
theorem dL_isPrinted_3 : decode cL_isPrinted 3 = .ok (.invokevirtual 8, 3) := by decide +kernel
theorem dL_isPrinted_6 : decode cL_isPrinted 6 = .ok (.iconst 1, 1) := by decide +kernel
theorem dL_isPrinted_7 : decode cL_isPrinted 7 = .ok (.if_icmp .ne 31, 3) := by decide +kernel
theorem dL_isPrinted_10 : decode cL_isPrinted 10 = .ok (.iload_n 2, 1) := by decide +kernel
theorem dL_isPrinted_11 : decode cL_isPrinted 11 = .ok (.aload_n 0, 1) := by decide +kernel
theorem dL_isPrinted_12 : decode cL_isPrinted 12 = .ok (.iload_n 1, 1) := by decide +kernel
theorem dL_isPrinted_13 : decode cL_isPrinted 13 = .ok (.iconst 4, 1) := by decide +kernel
theorem dL_isPrinted_14 : decode cL_isPrinted 14 = .ok (.invokevirtual 8, 3) := by decide +kernel
theorem dL_isPrinted_17 : decode cL_isPrinted 17 = .ok (.if_icmp .gt 21, 3) := by decide +kernel
theorem dL_isPrinted_20 : decode cL_isPrinted 20 = .ok (.bipush 10, 2) := by decide +kernel
theorem dL_isPrinted_22 : decode cL_isPrinted 22 = .ok (.iload_n 2, 1) := by decide +kernel
theorem dL_isPrinted_23 : decode cL_isPrinted 23 = .ok (.imul, 1) := by decide +kernel
theorem dL_isPrinted_24 : decode cL_isPrinted 24 = .ok (.iload_n 2, 1) := by decide +kernel
theorem dL_isPrinted_25 : decode cL_isPrinted 25 = .ok (.imul, 1) := by decide +kernel
theorem dL_isPrinted_26 : decode cL_isPrinted 26 = .ok (.aload_n 0, 1) := by decide +kernel
theorem dL_isPrinted_27 : decode cL_isPrinted 27 = .ok (.iconst 5, 1) := by decide +kernel
theorem dL_isPrinted_28 : decode cL_isPrinted 28 = .ok (.invokevirtual 14, 3) := by decide +kernel
theorem dL_isPrinted_31 : decode cL_isPrinted 31 = .ok (.if_icmp .gt 7, 3) := by decide +kernel
theorem dL_isPrinted_34 : decode cL_isPrinted 34 = .ok (.iconst 1, 1) := by decide +kernel
theorem dL_isPrinted_35 : decode cL_isPrinted 35 = .ok (.goto 4, 3) := by decide +kernel
theorem dL_isPrinted_38 : decode cL_isPrinted 38 = .ok (.iconst 0, 1) := by decide +kernel
theorem dL_isPrinted_39 : decode cL_isPrinted 39 = .ok (.istore_n 3, 1) := by decide +kernel
theorem dL_isPrinted_40 : decode cL_isPrinted 40 = .ok (.aload_n 0, 1) := by decide +kernel
theorem dL_isPrinted_41 : decode cL_isPrinted 41 = .ok (.iconst 5, 1) := by decide +kernel
theorem dL_isPrinted_42 : decode cL_isPrinted 42 = .ok (.invokevirtual 14, 3) := by decide +kernel
theorem dL_isPrinted_45 : decode cL_isPrinted 45 = .ok (.istore 4, 2) := by decide +kernel
theorem dL_isPrinted_47 : decode cL_isPrinted 47 = .ok (.aload_n 0, 1) := by decide +kernel
theorem dL_isPrinted_48 : decode cL_isPrinted 48 = .ok (.bipush 6, 2) := by decide +kernel
theorem dL_isPrinted_50 : decode cL_isPrinted 50 = .ok (.invokevirtual 14, 3) := by decide +kernel
theorem dL_isPrinted_53 : decode cL_isPrinted 53 = .ok (.istore 5, 2) := by decide +kernel
theorem dL_isPrinted_55 : decode cL_isPrinted 55 = .ok (.aload_n 0, 1) := by decide +kernel
theorem dL_isPrinted_56 : decode cL_isPrinted 56 = .ok (.bipush 6, 2) := by decide +kernel
theorem dL_isPrinted_58 : decode cL_isPrinted 58 = .ok (.iload_n 2, 1) := by decide +kernel
theorem dL_isPrinted_59 : decode cL_isPrinted 59 = .ok (.iadd, 1) := by decide +kernel
theorem dL_isPrinted_60 : decode cL_isPrinted 60 = .ok (.invokevirtual 14, 3) := by decide +kernel
theorem dL_isPrinted_63 : decode cL_isPrinted 63 = .ok (.istore 6, 2) := by decide +kernel
theorem dL_isPrinted_65 : decode cL_isPrinted 65 = .ok (.aload_n 0, 1) := by decide +kernel
theorem dL_isPrinted_66 : decode cL_isPrinted 66 = .ok (.iload_n 1, 1) := by decide +kernel
theorem dL_isPrinted_67 : decode cL_isPrinted 67 = .ok (.iload_n 2, 1) := by decide +kernel
theorem dL_isPrinted_68 : decode cL_isPrinted 68 = .ok (.invokevirtual 62, 3) := by decide +kernel
theorem dL_isPrinted_71 : decode cL_isPrinted 71 = .ok (.istore 7, 2) := by decide +kernel
theorem dL_isPrinted_73 : decode cL_isPrinted 73 = .ok (.iload_n 3, 1) := by decide +kernel
theorem dL_isPrinted_74 : decode cL_isPrinted 74 = .ok (.ifCond .ne 26, 3) := by decide +kernel
theorem dL_isPrinted_77 : decode cL_isPrinted 77 = .ok (.iload 7, 2) := by decide +kernel
theorem dL_isPrinted_79 : decode cL_isPrinted 79 = .ok (.bipush (-5), 2) := by decide +kernel
theorem dL_isPrinted_81 : decode cL_isPrinted 81 = .ok (.if_icmp .ne 17, 3) := by decide +kernel
theorem dL_isPrinted_84 : decode cL_isPrinted 84 = .ok (.aload_n 0, 1) := by decide +kernel
theorem dL_isPrinted_85 : decode cL_isPrinted 85 = .ok (.iconst 5, 1) := by decide +kernel
theorem dL_isPrinted_86 : decode cL_isPrinted 86 = .ok (.invokevirtual 14, 3) := by decide +kernel
theorem dL_isPrinted_89 : decode cL_isPrinted 89 = .ok (.iload 4, 2) := by decide +kernel
theorem dL_isPrinted_91 : decode cL_isPrinted 91 = .ok (.if_icmp .ne 7, 3) := by decide +kernel
theorem dL_isPrinted_94 : decode cL_isPrinted 94 = .ok (.iconst 1, 1) := by decide +kernel
theorem dL_isPrinted_95 : decode cL_isPrinted 95 = .ok (.goto 4, 3) := by decide +kernel
theorem dL_isPrinted_98 : decode cL_isPrinted 98 = .ok (.iconst 0, 1) := by decide +kernel
theorem dL_isPrinted_99 : decode cL_isPrinted 99 = .ok (.ireturn, 1) := by decide +kernel
theorem dL_isPrinted_100 : decode cL_isPrinted 100 = .ok (.iload 7, 2) := by decide +kernel
theorem dL_isPrinted_102 : decode cL_isPrinted 102 = .ok (.iload 4, 2) := by decide +kernel
theorem dL_isPrinted_104 : decode cL_isPrinted 104 = .ok (.bipush 10, 2) := by decide +kernel
theorem dL_isPrinted_106 : decode cL_isPrinted 106 = .ok (.iload_n 2, 1) := by decide +kernel
theorem dL_isPrinted_107 : decode cL_isPrinted 107 = .ok (.imul, 1) := by decide +kernel
theorem dL_isPrinted_108 : decode cL_isPrinted 108 = .ok (.iload_n 2, 1) := by decide +kernel
theorem dL_isPrinted_109 : decode cL_isPrinted 109 = .ok (.imul, 1) := by decide +kernel
theorem dL_isPrinted_110 : decode cL_isPrinted 110 = .ok (.isub, 1) := by decide +kernel
theorem dL_isPrinted_111 : decode cL_isPrinted 111 = .ok (.if_icmp .ne 70, 3) := by decide +kernel
theorem dL_isPrinted_114 : decode cL_isPrinted 114 = .ok (.aload_n 0, 1) := by decide +kernel
theorem dL_isPrinted_115 : decode cL_isPrinted 115 = .ok (.iconst 5, 1) := by decide +kernel
theorem dL_isPrinted_116 : decode cL_isPrinted 116 = .ok (.invokevirtual 14, 3) := by decide +kernel
theorem dL_isPrinted_119 : decode cL_isPrinted 119 = .ok (.iload 7, 2) := by decide +kernel
theorem dL_isPrinted_121 : decode cL_isPrinted 121 = .ok (.if_icmp .ne 60, 3) := by decide +kernel
theorem dL_isPrinted_124 : decode cL_isPrinted 124 = .ok (.aload_n 0, 1) := by decide +kernel
theorem dL_isPrinted_125 : decode cL_isPrinted 125 = .ok (.bipush 6, 2) := by decide +kernel
theorem dL_isPrinted_127 : decode cL_isPrinted 127 = .ok (.invokevirtual 14, 3) := by decide +kernel
theorem dL_isPrinted_130 : decode cL_isPrinted 130 = .ok (.iload 5, 2) := by decide +kernel
theorem dL_isPrinted_132 : decode cL_isPrinted 132 = .ok (.bipush 10, 2) := by decide +kernel
theorem dL_isPrinted_134 : decode cL_isPrinted 134 = .ok (.iload_n 2, 1) := by decide +kernel
theorem dL_isPrinted_135 : decode cL_isPrinted 135 = .ok (.imul, 1) := by decide +kernel
theorem dL_isPrinted_136 : decode cL_isPrinted 136 = .ok (.iload_n 2, 1) := by decide +kernel
theorem dL_isPrinted_137 : decode cL_isPrinted 137 = .ok (.imul, 1) := by decide +kernel
theorem dL_isPrinted_138 : decode cL_isPrinted 138 = .ok (.iadd, 1) := by decide +kernel
theorem dL_isPrinted_139 : decode cL_isPrinted 139 = .ok (.if_icmp .ne 42, 3) := by decide +kernel
theorem dL_isPrinted_142 : decode cL_isPrinted 142 = .ok (.aload_n 0, 1) := by decide +kernel
theorem dL_isPrinted_143 : decode cL_isPrinted 143 = .ok (.bipush 6, 2) := by decide +kernel
theorem dL_isPrinted_145 : decode cL_isPrinted 145 = .ok (.iload_n 2, 1) := by decide +kernel
theorem dL_isPrinted_146 : decode cL_isPrinted 146 = .ok (.iadd, 1) := by decide +kernel
theorem dL_isPrinted_147 : decode cL_isPrinted 147 = .ok (.invokevirtual 14, 3) := by decide +kernel
theorem dL_isPrinted_150 : decode cL_isPrinted 150 = .ok (.iload 6, 2) := by decide +kernel
theorem dL_isPrinted_152 : decode cL_isPrinted 152 = .ok (.iconst 1, 1) := by decide +kernel
theorem dL_isPrinted_153 : decode cL_isPrinted 153 = .ok (.iadd, 1) := by decide +kernel
theorem dL_isPrinted_154 : decode cL_isPrinted 154 = .ok (.if_icmp .ne 27, 3) := by decide +kernel
theorem dL_isPrinted_157 : decode cL_isPrinted 157 = .ok (.aload_n 0, 1) := by decide +kernel
theorem dL_isPrinted_158 : decode cL_isPrinted 158 = .ok (.iload_n 1, 1) := by decide +kernel
theorem dL_isPrinted_159 : decode cL_isPrinted 159 = .ok (.iconst 0, 1) := by decide +kernel
theorem dL_isPrinted_160 : decode cL_isPrinted 160 = .ok (.invokevirtual 8, 3) := by decide +kernel
theorem dL_isPrinted_163 : decode cL_isPrinted 163 = .ok (.iconst 3, 1) := by decide +kernel
theorem dL_isPrinted_164 : decode cL_isPrinted 164 = .ok (.if_icmp .ne 17, 3) := by decide +kernel
theorem dL_isPrinted_167 : decode cL_isPrinted 167 = .ok (.aload_n 0, 1) := by decide +kernel
theorem dL_isPrinted_168 : decode cL_isPrinted 168 = .ok (.iload_n 1, 1) := by decide +kernel
theorem dL_isPrinted_169 : decode cL_isPrinted 169 = .ok (.iconst 4, 1) := by decide +kernel
theorem dL_isPrinted_170 : decode cL_isPrinted 170 = .ok (.invokevirtual 8, 3) := by decide +kernel
theorem dL_isPrinted_173 : decode cL_isPrinted 173 = .ok (.iload_n 2, 1) := by decide +kernel
theorem dL_isPrinted_174 : decode cL_isPrinted 174 = .ok (.if_icmp .ne 7, 3) := by decide +kernel
theorem dL_isPrinted_177 : decode cL_isPrinted 177 = .ok (.iconst 1, 1) := by decide +kernel
theorem dL_isPrinted_178 : decode cL_isPrinted 178 = .ok (.goto 4, 3) := by decide +kernel
theorem dL_isPrinted_181 : decode cL_isPrinted 181 = .ok (.iconst 0, 1) := by decide +kernel
theorem dL_isPrinted_182 : decode cL_isPrinted 182 = .ok (.ireturn, 1) := by decide +kernel
