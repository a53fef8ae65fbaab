theorem dX2_init_0 : decode cX2_init 0 = .ok (.aload_n 0, 1) := by decide +kernel
theorem dX2_init_1 : decode cX2_init 1 = .ok (.invokespecial 5, 3) := by decide +kernel
theorem dX2_init_4 : decode cX2_init 4 = .ok (.aload_n 0, 1) := by decide +kernel
theorem dX2_init_5 : decode cX2_init 5 = .ok (.iconst 4, 1) := by decide +kernel
theorem dX2_init_6 : decode cX2_init 6 = .ok (.newarray .int, 2) := by decide +kernel
theorem dX2_init_8 : decode cX2_init 8 = .ok (.dup, 1) := by decide +kernel
theorem dX2_init_9 : decode cX2_init 9 = .ok (.iconst 0, 1) := by decide +kernel
theorem dX2_init_10 : decode cX2_init 10 = .ok (.iconst 2, 1) := by decide +kernel
theorem dX2_init_11 : decode cX2_init 11 = .ok (.iastore, 1) := by decide +kernel
theorem dX2_init_12 : decode cX2_init 12 = .ok (.dup, 1) := by decide +kernel
theorem dX2_init_13 : decode cX2_init 13 = .ok (.iconst 1, 1) := by decide +kernel
theorem dX2_init_14 : decode cX2_init 14 = .ok (.iconst 3, 1) := by decide +kernel
theorem dX2_init_15 : decode cX2_init 15 = .ok (.iastore, 1) := by decide +kernel
theorem dX2_init_16 : decode cX2_init 16 = .ok (.dup, 1) := by decide +kernel
theorem dX2_init_17 : decode cX2_init 17 = .ok (.iconst 2, 1) := by decide +kernel
theorem dX2_init_18 : decode cX2_init 18 = .ok (.iconst 2, 1) := by decide +kernel
theorem dX2_init_19 : decode cX2_init 19 = .ok (.iastore, 1) := by decide +kernel
theorem dX2_init_20 : decode cX2_init 20 = .ok (.dup, 1) := by decide +kernel
theorem dX2_init_21 : decode cX2_init 21 = .ok (.iconst 3, 1) := by decide +kernel
theorem dX2_init_22 : decode cX2_init 22 = .ok (.iconst 2, 1) := by decide +kernel
theorem dX2_init_23 : decode cX2_init 23 = .ok (.iastore, 1) := by decide +kernel
theorem dX2_init_24 : decode cX2_init 24 = .ok (.putfield 11, 3) := by decide +kernel
theorem dX2_init_27 : decode cX2_init 27 = .ok (.aload_n 0, 1) := by decide +kernel
theorem dX2_init_28 : decode cX2_init 28 = .ok (.bipush 30, 2) := by decide +kernel
theorem dX2_init_30 : decode cX2_init 30 = .ok (.newarray .int, 2) := by decide +kernel
theorem dX2_init_32 : decode cX2_init 32 = .ok (.putfield 15, 3) := by decide +kernel
theorem dX2_init_35 : decode cX2_init 35 = .ok (.aload_n 0, 1) := by decide +kernel
theorem dX2_init_36 : decode cX2_init 36 = .ok (.bipush 30, 2) := by decide +kernel
theorem dX2_init_38 : decode cX2_init 38 = .ok (.newarray .int, 2) := by decide +kernel
theorem dX2_init_40 : decode cX2_init 40 = .ok (.putfield 18, 3) := by decide +kernel
theorem dX2_init_43 : decode cX2_init 43 = .ok (.aload_n 0, 1) := by decide +kernel
theorem dX2_init_44 : decode cX2_init 44 = .ok (.bipush 30, 2) := by decide +kernel
theorem dX2_init_46 : decode cX2_init 46 = .ok (.newarray .int, 2) := by decide +kernel
theorem dX2_init_48 : decode cX2_init 48 = .ok (.putfield 21, 3) := by decide +kernel
theorem dX2_init_51 : decode cX2_init 51 = .ok (.aload_n 0, 1) := by decide +kernel
theorem dX2_init_52 : decode cX2_init 52 = .ok (.bipush 30, 2) := by decide +kernel
theorem dX2_init_54 : decode cX2_init 54 = .ok (.newarray .int, 2) := by decide +kernel
theorem dX2_init_56 : decode cX2_init 56 = .ok (.putfield 24, 3) := by decide +kernel
theorem dX2_init_59 : decode cX2_init 59 = .ok (.aload_n 0, 1) := by decide +kernel
theorem dX2_init_60 : decode cX2_init 60 = .ok (.bipush 30, 2) := by decide +kernel
theorem dX2_init_62 : decode cX2_init 62 = .ok (.newarray .int, 2) := by decide +kernel
theorem dX2_init_64 : decode cX2_init 64 = .ok (.putfield 27, 3) := by decide +kernel
theorem dX2_init_67 : decode cX2_init 67 = .ok (.aload_n 0, 1) := by decide +kernel
theorem dX2_init_68 : decode cX2_init 68 = .ok (.bipush 30, 2) := by decide +kernel
theorem dX2_init_70 : decode cX2_init 70 = .ok (.newarray .int, 2) := by decide +kernel
theorem dX2_init_72 : decode cX2_init 72 = .ok (.putfield 30, 3) := by decide +kernel
theorem dX2_init_75 : decode cX2_init 75 = .ok (.aload_n 0, 1) := by decide +kernel
theorem dX2_init_76 : decode cX2_init 76 = .ok (.iconst 3, 1) := by decide +kernel
theorem dX2_init_77 : decode cX2_init 77 = .ok (.newarray .int, 2) := by decide +kernel
theorem dX2_init_79 : decode cX2_init 79 = .ok (.putfield 33, 3) := by decide +kernel
theorem dX2_init_82 : decode cX2_init 82 = .ok (.aload_n 0, 1) := by decide +kernel
theorem dX2_init_83 : decode cX2_init 83 = .ok (.iconst 3, 1) := by decide +kernel
theorem dX2_init_84 : decode cX2_init 84 = .ok (.newarray .int, 2) := by decide +kernel
theorem dX2_init_86 : decode cX2_init 86 = .ok (.putfield 36, 3) := by decide +kernel
theorem dX2_init_89 : decode cX2_init 89 = .ok (.aload_n 0, 1) := by decide +kernel
theorem dX2_init_90 : decode cX2_init 90 = .ok (.iconst 3, 1) := by decide +kernel
theorem dX2_init_91 : decode cX2_init 91 = .ok (.newarray .int, 2) := by decide +kernel
theorem dX2_init_93 : decode cX2_init 93 = .ok (.putfield 39, 3) := by decide +kernel
theorem dX2_init_96 : decode cX2_init 96 = .ok (.aload_n 0, 1) := by decide +kernel
theorem dX2_init_97 : decode cX2_init 97 = .ok (.iconst 3, 1) := by decide +kernel
theorem dX2_init_98 : decode cX2_init 98 = .ok (.newarray .int, 2) := by decide +kernel
theorem dX2_init_100 : decode cX2_init 100 = .ok (.putfield 42, 3) := by decide +kernel
theorem dX2_init_103 : decode cX2_init 103 = .ok (.aload_n 0, 1) := by decide +kernel
theorem dX2_init_104 : decode cX2_init 104 = .ok (.iconst 4, 1) := by decide +kernel
theorem dX2_init_105 : decode cX2_init 105 = .ok (.newarray .int, 2) := by decide +kernel
theorem dX2_init_107 : decode cX2_init 107 = .ok (.putfield 45, 3) := by decide +kernel
theorem dX2_init_110 : decode cX2_init 110 = .ok (.aload_n 0, 1) := by decide +kernel
theorem dX2_init_111 : decode cX2_init 111 = .ok (.iconst 0, 1) := by decide +kernel
theorem dX2_init_112 : decode cX2_init 112 = .ok (.putfield 48, 3) := by decide +kernel
theorem dX2_init_115 : decode cX2_init 115 = .ok (.aload_n 0, 1) := by decide +kernel
theorem dX2_init_116 : decode cX2_init 116 = .ok (.sipush 300, 3) := by decide +kernel
theorem dX2_init_119 : decode cX2_init 119 = .ok (.putfield 52, 3) := by decide +kernel
theorem dX2_init_122 : decode cX2_init 122 = .ok (.aload_n 0, 1) := by decide +kernel
theorem dX2_init_123 : decode cX2_init 123 = .ok (.iconst 0, 1) := by decide +kernel
theorem dX2_init_124 : decode cX2_init 124 = .ok (.putfield 55, 3) := by decide +kernel
theorem dX2_init_127 : decode cX2_init 127 = .ok (.iconst 0, 1) := by decide +kernel
theorem dX2_init_128 : decode cX2_init 128 = .ok (.istore_n 1, 1) := by decide +kernel
theorem dX2_init_129 : decode cX2_init 129 = .ok (.iload_n 1, 1) := by decide +kernel
theorem dX2_init_130 : decode cX2_init 130 = .ok (.bipush 30, 2) := by decide +kernel
theorem dX2_init_132 : decode cX2_init 132 = .ok (.if_icmp .ge 17, 3) := by decide +kernel
theorem dX2_init_135 : decode cX2_init 135 = .ok (.aload_n 0, 1) := by decide +kernel
theorem dX2_init_136 : decode cX2_init 136 = .ok (.getfield 30, 3) := by decide +kernel
theorem dX2_init_139 : decode cX2_init 139 = .ok (.iload_n 1, 1) := by decide +kernel
theorem dX2_init_140 : decode cX2_init 140 = .ok (.bipush (-6), 2) := by decide +kernel
theorem dX2_init_142 : decode cX2_init 142 = .ok (.iastore, 1) := by decide +kernel
theorem dX2_init_143 : decode cX2_init 143 = .ok (.iinc 1 1, 3) := by decide +kernel
theorem dX2_init_146 : decode cX2_init 146 = .ok (.goto (-17), 3) := by decide +kernel
theorem dX2_init_149 : decode cX2_init 149 = .ok (.iconst 0, 1) := by decide +kernel
theorem dX2_init_150 : decode cX2_init 150 = .ok (.istore_n 1, 1) := by decide +kernel
theorem dX2_init_151 : decode cX2_init 151 = .ok (.iload_n 1, 1) := by decide +kernel
theorem dX2_init_152 : decode cX2_init 152 = .ok (.iconst 3, 1) := by decide +kernel
theorem dX2_init_153 : decode cX2_init 153 = .ok (.if_icmp .ge 16, 3) := by decide +kernel
theorem dX2_init_156 : decode cX2_init 156 = .ok (.aload_n 0, 1) := by decide +kernel
theorem dX2_init_157 : decode cX2_init 157 = .ok (.getfield 33, 3) := by decide +kernel
theorem dX2_init_160 : decode cX2_init 160 = .ok (.iload_n 1, 1) := by decide +kernel
theorem dX2_init_161 : decode cX2_init 161 = .ok (.iconst 5, 1) := by decide +kernel
theorem dX2_init_162 : decode cX2_init 162 = .ok (.iastore, 1) := by decide +kernel
theorem dX2_init_163 : decode cX2_init 163 = .ok (.iinc 1 1, 3) := by decide +kernel
theorem dX2_init_166 : decode cX2_init 166 = .ok (.goto (-15), 3) := by decide +kernel
theorem dX2_init_169 : decode cX2_init 169 = .ok (.return_, 1) := by decide +kernel
theorem dX2_takeOver_0 : decode cX2_takeOver 0 = .ok (.aload_n 1, 1) := by decide +kernel
theorem dX2_takeOver_1 : decode cX2_takeOver 1 = .ok (.getfield 11, 3) := by decide +kernel
theorem dX2_takeOver_4 : decode cX2_takeOver 4 = .ok (.iconst 0, 1) := by decide +kernel
theorem dX2_takeOver_5 : decode cX2_takeOver 5 = .ok (.aload_n 0, 1) := by decide +kernel
theorem dX2_takeOver_6 : decode cX2_takeOver 6 = .ok (.getfield 11, 3) := by decide +kernel
theorem dX2_takeOver_9 : decode cX2_takeOver 9 = .ok (.iconst 0, 1) := by decide +kernel
theorem dX2_takeOver_10 : decode cX2_takeOver 10 = .ok (.aload_n 0, 1) := by decide +kernel
theorem dX2_takeOver_11 : decode cX2_takeOver 11 = .ok (.getfield 11, 3) := by decide +kernel
theorem dX2_takeOver_14 : decode cX2_takeOver 14 = .ok (.arraylength, 1) := by decide +kernel
theorem dX2_takeOver_15 : decode cX2_takeOver 15 = .ok (.invokestatic 58, 3) := by decide +kernel
theorem dX2_takeOver_18 : decode cX2_takeOver 18 = .ok (.aload_n 1, 1) := by decide +kernel
theorem dX2_takeOver_19 : decode cX2_takeOver 19 = .ok (.getfield 15, 3) := by decide +kernel
theorem dX2_takeOver_22 : decode cX2_takeOver 22 = .ok (.iconst 0, 1) := by decide +kernel
theorem dX2_takeOver_23 : decode cX2_takeOver 23 = .ok (.aload_n 0, 1) := by decide +kernel
theorem dX2_takeOver_24 : decode cX2_takeOver 24 = .ok (.getfield 15, 3) := by decide +kernel
theorem dX2_takeOver_27 : decode cX2_takeOver 27 = .ok (.iconst 0, 1) := by decide +kernel
theorem dX2_takeOver_28 : decode cX2_takeOver 28 = .ok (.bipush 30, 2) := by decide +kernel
theorem dX2_takeOver_30 : decode cX2_takeOver 30 = .ok (.invokestatic 58, 3) := by decide +kernel
theorem dX2_takeOver_33 : decode cX2_takeOver 33 = .ok (.aload_n 1, 1) := by decide +kernel
theorem dX2_takeOver_34 : decode cX2_takeOver 34 = .ok (.getfield 18, 3) := by decide +kernel
theorem dX2_takeOver_37 : decode cX2_takeOver 37 = .ok (.iconst 0, 1) := by decide +kernel
theorem dX2_takeOver_38 : decode cX2_takeOver 38 = .ok (.aload_n 0, 1) := by decide +kernel
theorem dX2_takeOver_39 : decode cX2_takeOver 39 = .ok (.getfield 18, 3) := by decide +kernel
theorem dX2_takeOver_42 : decode cX2_takeOver 42 = .ok (.iconst 0, 1) := by decide +kernel
theorem dX2_takeOver_43 : decode cX2_takeOver 43 = .ok (.bipush 30, 2) := by decide +kernel
theorem dX2_takeOver_45 : decode cX2_takeOver 45 = .ok (.invokestatic 58, 3) := by decide +kernel
theorem dX2_takeOver_48 : decode cX2_takeOver 48 = .ok (.aload_n 1, 1) := by decide +kernel
theorem dX2_takeOver_49 : decode cX2_takeOver 49 = .ok (.getfield 21, 3) := by decide +kernel
theorem dX2_takeOver_52 : decode cX2_takeOver 52 = .ok (.iconst 0, 1) := by decide +kernel
theorem dX2_takeOver_53 : decode cX2_takeOver 53 = .ok (.aload_n 0, 1) := by decide +kernel
theorem dX2_takeOver_54 : decode cX2_takeOver 54 = .ok (.getfield 21, 3) := by decide +kernel
theorem dX2_takeOver_57 : decode cX2_takeOver 57 = .ok (.iconst 0, 1) := by decide +kernel
theorem dX2_takeOver_58 : decode cX2_takeOver 58 = .ok (.bipush 30, 2) := by decide +kernel
theorem dX2_takeOver_60 : decode cX2_takeOver 60 = .ok (.invokestatic 58, 3) := by decide +kernel
theorem dX2_takeOver_63 : decode cX2_takeOver 63 = .ok (.aload_n 1, 1) := by decide +kernel
theorem dX2_takeOver_64 : decode cX2_takeOver 64 = .ok (.getfield 24, 3) := by decide +kernel
theorem dX2_takeOver_67 : decode cX2_takeOver 67 = .ok (.iconst 0, 1) := by decide +kernel
theorem dX2_takeOver_68 : decode cX2_takeOver 68 = .ok (.aload_n 0, 1) := by decide +kernel
theorem dX2_takeOver_69 : decode cX2_takeOver 69 = .ok (.getfield 24, 3) := by decide +kernel
theorem dX2_takeOver_72 : decode cX2_takeOver 72 = .ok (.iconst 0, 1) := by decide +kernel
theorem dX2_takeOver_73 : decode cX2_takeOver 73 = .ok (.bipush 30, 2) := by decide +kernel
theorem dX2_takeOver_75 : decode cX2_takeOver 75 = .ok (.invokestatic 58, 3) := by decide +kernel
theorem dX2_takeOver_78 : decode cX2_takeOver 78 = .ok (.aload_n 1, 1) := by decide +kernel
theorem dX2_takeOver_79 : decode cX2_takeOver 79 = .ok (.getfield 27, 3) := by decide +kernel
theorem dX2_takeOver_82 : decode cX2_takeOver 82 = .ok (.iconst 0, 1) := by decide +kernel
theorem dX2_takeOver_83 : decode cX2_takeOver 83 = .ok (.aload_n 0, 1) := by decide +kernel
theorem dX2_takeOver_84 : decode cX2_takeOver 84 = .ok (.getfield 27, 3) := by decide +kernel
theorem dX2_takeOver_87 : decode cX2_takeOver 87 = .ok (.iconst 0, 1) := by decide +kernel
theorem dX2_takeOver_88 : decode cX2_takeOver 88 = .ok (.bipush 30, 2) := by decide +kernel
theorem dX2_takeOver_90 : decode cX2_takeOver 90 = .ok (.invokestatic 58, 3) := by decide +kernel
theorem dX2_takeOver_93 : decode cX2_takeOver 93 = .ok (.aload_n 1, 1) := by decide +kernel
theorem dX2_takeOver_94 : decode cX2_takeOver 94 = .ok (.getfield 30, 3) := by decide +kernel
theorem dX2_takeOver_97 : decode cX2_takeOver 97 = .ok (.iconst 0, 1) := by decide +kernel
theorem dX2_takeOver_98 : decode cX2_takeOver 98 = .ok (.aload_n 0, 1) := by decide +kernel
theorem dX2_takeOver_99 : decode cX2_takeOver 99 = .ok (.getfield 30, 3) := by decide +kernel
theorem dX2_takeOver_102 : decode cX2_takeOver 102 = .ok (.iconst 0, 1) := by decide +kernel
theorem dX2_takeOver_103 : decode cX2_takeOver 103 = .ok (.bipush 30, 2) := by decide +kernel
theorem dX2_takeOver_105 : decode cX2_takeOver 105 = .ok (.invokestatic 58, 3) := by decide +kernel
theorem dX2_takeOver_108 : decode cX2_takeOver 108 = .ok (.aload_n 1, 1) := by decide +kernel
theorem dX2_takeOver_109 : decode cX2_takeOver 109 = .ok (.getfield 33, 3) := by decide +kernel
theorem dX2_takeOver_112 : decode cX2_takeOver 112 = .ok (.iconst 0, 1) := by decide +kernel
theorem dX2_takeOver_113 : decode cX2_takeOver 113 = .ok (.aload_n 0, 1) := by decide +kernel
theorem dX2_takeOver_114 : decode cX2_takeOver 114 = .ok (.getfield 33, 3) := by decide +kernel
theorem dX2_takeOver_117 : decode cX2_takeOver 117 = .ok (.iconst 0, 1) := by decide +kernel
theorem dX2_takeOver_118 : decode cX2_takeOver 118 = .ok (.iconst 3, 1) := by decide +kernel
theorem dX2_takeOver_119 : decode cX2_takeOver 119 = .ok (.invokestatic 58, 3) := by decide +kernel
theorem dX2_takeOver_122 : decode cX2_takeOver 122 = .ok (.aload_n 1, 1) := by decide +kernel
theorem dX2_takeOver_123 : decode cX2_takeOver 123 = .ok (.getfield 36, 3) := by decide +kernel
theorem dX2_takeOver_126 : decode cX2_takeOver 126 = .ok (.iconst 0, 1) := by decide +kernel
theorem dX2_takeOver_127 : decode cX2_takeOver 127 = .ok (.aload_n 0, 1) := by decide +kernel
theorem dX2_takeOver_128 : decode cX2_takeOver 128 = .ok (.getfield 36, 3) := by decide +kernel
theorem dX2_takeOver_131 : decode cX2_takeOver 131 = .ok (.iconst 0, 1) := by decide +kernel
theorem dX2_takeOver_132 : decode cX2_takeOver 132 = .ok (.iconst 3, 1) := by decide +kernel
theorem dX2_takeOver_133 : decode cX2_takeOver 133 = .ok (.invokestatic 58, 3) := by decide +kernel
theorem dX2_takeOver_136 : decode cX2_takeOver 136 = .ok (.aload_n 1, 1) := by decide +kernel
theorem dX2_takeOver_137 : decode cX2_takeOver 137 = .ok (.getfield 39, 3) := by decide +kernel
theorem dX2_takeOver_140 : decode cX2_takeOver 140 = .ok (.iconst 0, 1) := by decide +kernel
theorem dX2_takeOver_141 : decode cX2_takeOver 141 = .ok (.aload_n 0, 1) := by decide +kernel
theorem dX2_takeOver_142 : decode cX2_takeOver 142 = .ok (.getfield 39, 3) := by decide +kernel
theorem dX2_takeOver_145 : decode cX2_takeOver 145 = .ok (.iconst 0, 1) := by decide +kernel
theorem dX2_takeOver_146 : decode cX2_takeOver 146 = .ok (.iconst 3, 1) := by decide +kernel
theorem dX2_takeOver_147 : decode cX2_takeOver 147 = .ok (.invokestatic 58, 3) := by decide +kernel
theorem dX2_takeOver_150 : decode cX2_takeOver 150 = .ok (.aload_n 1, 1) := by decide +kernel
theorem dX2_takeOver_151 : decode cX2_takeOver 151 = .ok (.getfield 42, 3) := by decide +kernel
theorem dX2_takeOver_154 : decode cX2_takeOver 154 = .ok (.iconst 0, 1) := by decide +kernel
theorem dX2_takeOver_155 : decode cX2_takeOver 155 = .ok (.aload_n 0, 1) := by decide +kernel
theorem dX2_takeOver_156 : decode cX2_takeOver 156 = .ok (.getfield 42, 3) := by decide +kernel
theorem dX2_takeOver_159 : decode cX2_takeOver 159 = .ok (.iconst 0, 1) := by decide +kernel
theorem dX2_takeOver_160 : decode cX2_takeOver 160 = .ok (.iconst 3, 1) := by decide +kernel
theorem dX2_takeOver_161 : decode cX2_takeOver 161 = .ok (.invokestatic 58, 3) := by decide +kernel
theorem dX2_takeOver_164 : decode cX2_takeOver 164 = .ok (.aload_n 1, 1) := by decide +kernel
theorem dX2_takeOver_165 : decode cX2_takeOver 165 = .ok (.getfield 45, 3) := by decide +kernel
theorem dX2_takeOver_168 : decode cX2_takeOver 168 = .ok (.iconst 0, 1) := by decide +kernel
theorem dX2_takeOver_169 : decode cX2_takeOver 169 = .ok (.aload_n 0, 1) := by decide +kernel
theorem dX2_takeOver_170 : decode cX2_takeOver 170 = .ok (.getfield 45, 3) := by decide +kernel
theorem dX2_takeOver_173 : decode cX2_takeOver 173 = .ok (.iconst 0, 1) := by decide +kernel
theorem dX2_takeOver_174 : decode cX2_takeOver 174 = .ok (.aload_n 0, 1) := by decide +kernel
theorem dX2_takeOver_175 : decode cX2_takeOver 175 = .ok (.getfield 45, 3) := by decide +kernel
theorem dX2_takeOver_178 : decode cX2_takeOver 178 = .ok (.arraylength, 1) := by decide +kernel
theorem dX2_takeOver_179 : decode cX2_takeOver 179 = .ok (.invokestatic 58, 3) := by decide +kernel
theorem dX2_takeOver_182 : decode cX2_takeOver 182 = .ok (.aload_n 0, 1) := by decide +kernel
theorem dX2_takeOver_183 : decode cX2_takeOver 183 = .ok (.aload_n 1, 1) := by decide +kernel
theorem dX2_takeOver_184 : decode cX2_takeOver 184 = .ok (.getfield 48, 3) := by decide +kernel
theorem dX2_takeOver_187 : decode cX2_takeOver 187 = .ok (.putfield 48, 3) := by decide +kernel
theorem dX2_takeOver_190 : decode cX2_takeOver 190 = .ok (.aload_n 0, 1) := by decide +kernel
theorem dX2_takeOver_191 : decode cX2_takeOver 191 = .ok (.aload_n 1, 1) := by decide +kernel
theorem dX2_takeOver_192 : decode cX2_takeOver 192 = .ok (.getfield 52, 3) := by decide +kernel
theorem dX2_takeOver_195 : decode cX2_takeOver 195 = .ok (.putfield 52, 3) := by decide +kernel
theorem dX2_takeOver_198 : decode cX2_takeOver 198 = .ok (.aload_n 0, 1) := by decide +kernel
theorem dX2_takeOver_199 : decode cX2_takeOver 199 = .ok (.aload_n 1, 1) := by decide +kernel
theorem dX2_takeOver_200 : decode cX2_takeOver 200 = .ok (.getfield 55, 3) := by decide +kernel
theorem dX2_takeOver_203 : decode cX2_takeOver 203 = .ok (.putfield 55, 3) := by decide +kernel
theorem dX2_takeOver_206 : decode cX2_takeOver 206 = .ok (.return_, 1) := by decide +kernel
theorem dX2_changeSetting_0 : decode cX2_changeSetting 0 = .ok (.iload_n 1, 1) := by decide +kernel
theorem dX2_changeSetting_1 : decode cX2_changeSetting 1 = .ok (.ifCond .lt 12, 3) := by decide +kernel
theorem dX2_changeSetting_4 : decode cX2_changeSetting 4 = .ok (.iload_n 1, 1) := by decide +kernel
theorem dX2_changeSetting_5 : decode cX2_changeSetting 5 = .ok (.aload_n 0, 1) := by decide +kernel
theorem dX2_changeSetting_6 : decode cX2_changeSetting 6 = .ok (.getfield 11, 3) := by decide +kernel
theorem dX2_changeSetting_9 : decode cX2_changeSetting 9 = .ok (.arraylength, 1) := by decide +kernel
theorem dX2_changeSetting_10 : decode cX2_changeSetting 10 = .ok (.if_icmp .lt 6, 3) := by decide +kernel
theorem dX2_changeSetting_13 : decode cX2_changeSetting 13 = .ok (.bipush (-2), 2) := by decide +kernel
theorem dX2_changeSetting_15 : decode cX2_changeSetting 15 = .ok (.ireturn, 1) := by decide +kernel
theorem dX2_changeSetting_16 : decode cX2_changeSetting 16 = .ok (.iload_n 2, 1) := by decide +kernel
theorem dX2_changeSetting_17 : decode cX2_changeSetting 17 = .ok (.getstatic 64, 3) := by decide +kernel
theorem dX2_changeSetting_20 : decode cX2_changeSetting 20 = .ok (.iload_n 1, 1) := by decide +kernel
theorem dX2_changeSetting_21 : decode cX2_changeSetting 21 = .ok (.iaload, 1) := by decide +kernel
theorem dX2_changeSetting_22 : decode cX2_changeSetting 22 = .ok (.if_icmp .lt 12, 3) := by decide +kernel
theorem dX2_changeSetting_25 : decode cX2_changeSetting 25 = .ok (.iload_n 2, 1) := by decide +kernel
theorem dX2_changeSetting_26 : decode cX2_changeSetting 26 = .ok (.getstatic 67, 3) := by decide +kernel
theorem dX2_changeSetting_29 : decode cX2_changeSetting 29 = .ok (.iload_n 1, 1) := by decide +kernel
theorem dX2_changeSetting_30 : decode cX2_changeSetting 30 = .ok (.iaload, 1) := by decide +kernel
theorem dX2_changeSetting_31 : decode cX2_changeSetting 31 = .ok (.if_icmp .le 6, 3) := by decide +kernel
theorem dX2_changeSetting_34 : decode cX2_changeSetting 34 = .ok (.bipush (-2), 2) := by decide +kernel
theorem dX2_changeSetting_36 : decode cX2_changeSetting 36 = .ok (.ireturn, 1) := by decide +kernel
theorem dX2_changeSetting_37 : decode cX2_changeSetting 37 = .ok (.aload_n 0, 1) := by decide +kernel
theorem dX2_changeSetting_38 : decode cX2_changeSetting 38 = .ok (.getfield 11, 3) := by decide +kernel
theorem dX2_changeSetting_41 : decode cX2_changeSetting 41 = .ok (.iload_n 1, 1) := by decide +kernel
theorem dX2_changeSetting_42 : decode cX2_changeSetting 42 = .ok (.iaload, 1) := by decide +kernel
theorem dX2_changeSetting_43 : decode cX2_changeSetting 43 = .ok (.istore_n 3, 1) := by decide +kernel
theorem dX2_changeSetting_44 : decode cX2_changeSetting 44 = .ok (.aload_n 0, 1) := by decide +kernel
theorem dX2_changeSetting_45 : decode cX2_changeSetting 45 = .ok (.getfield 11, 3) := by decide +kernel
theorem dX2_changeSetting_48 : decode cX2_changeSetting 48 = .ok (.iload_n 1, 1) := by decide +kernel
theorem dX2_changeSetting_49 : decode cX2_changeSetting 49 = .ok (.iload_n 2, 1) := by decide +kernel
theorem dX2_changeSetting_50 : decode cX2_changeSetting 50 = .ok (.iastore, 1) := by decide +kernel
theorem dX2_changeSetting_51 : decode cX2_changeSetting 51 = .ok (.iload_n 3, 1) := by decide +kernel
theorem dX2_changeSetting_52 : decode cX2_changeSetting 52 = .ok (.ireturn, 1) := by decide +kernel
theorem dX2_putMark_0 : decode cX2_putMark 0 = .ok (.iload_n 1, 1) := by decide +kernel
theorem dX2_putMark_1 : decode cX2_putMark 1 = .ok (.invokestatic 70, 3) := by decide +kernel
theorem dX2_putMark_4 : decode cX2_putMark 4 = .ok (.ifCond .eq 10, 3) := by decide +kernel
theorem dX2_putMark_7 : decode cX2_putMark 7 = .ok (.iload_n 2, 1) := by decide +kernel
theorem dX2_putMark_8 : decode cX2_putMark 8 = .ok (.invokestatic 74, 3) := by decide +kernel
theorem dX2_putMark_11 : decode cX2_putMark 11 = .ok (.ifCond .ne 5, 3) := by decide +kernel
theorem dX2_putMark_14 : decode cX2_putMark 14 = .ok (.iconst (-1), 1) := by decide +kernel
theorem dX2_putMark_15 : decode cX2_putMark 15 = .ok (.ireturn, 1) := by decide +kernel
theorem dX2_putMark_16 : decode cX2_putMark 16 = .ok (.iload_n 3, 1) := by decide +kernel
theorem dX2_putMark_17 : decode cX2_putMark 17 = .ok (.ifCond .lt 8, 3) := by decide +kernel
theorem dX2_putMark_20 : decode cX2_putMark 20 = .ok (.iload_n 3, 1) := by decide +kernel
theorem dX2_putMark_21 : decode cX2_putMark 21 = .ok (.iconst 2, 1) := by decide +kernel
theorem dX2_putMark_22 : decode cX2_putMark 22 = .ok (.if_icmp .le 6, 3) := by decide +kernel
theorem dX2_putMark_25 : decode cX2_putMark 25 = .ok (.bipush (-2), 2) := by decide +kernel
theorem dX2_putMark_27 : decode cX2_putMark 27 = .ok (.ireturn, 1) := by decide +kernel
theorem dX2_putMark_28 : decode cX2_putMark 28 = .ok (.aload_n 0, 1) := by decide +kernel
theorem dX2_putMark_29 : decode cX2_putMark 29 = .ok (.getfield 15, 3) := by decide +kernel
theorem dX2_putMark_32 : decode cX2_putMark 32 = .ok (.iload_n 2, 1) := by decide +kernel
theorem dX2_putMark_33 : decode cX2_putMark 33 = .ok (.iaload, 1) := by decide +kernel
theorem dX2_putMark_34 : decode cX2_putMark 34 = .ok (.ifCond .eq 6, 3) := by decide +kernel
theorem dX2_putMark_37 : decode cX2_putMark 37 = .ok (.bipush (-5), 2) := by decide +kernel
theorem dX2_putMark_39 : decode cX2_putMark 39 = .ok (.ireturn, 1) := by decide +kernel
theorem dX2_putMark_40 : decode cX2_putMark 40 = .ok (.aload_n 0, 1) := by decide +kernel
theorem dX2_putMark_41 : decode cX2_putMark 41 = .ok (.iload_n 1, 1) := by decide +kernel
theorem dX2_putMark_42 : decode cX2_putMark 42 = .ok (.iload_n 2, 1) := by decide +kernel
theorem dX2_putMark_43 : decode cX2_putMark 43 = .ok (.invokevirtual 77, 3) := by decide +kernel
theorem dX2_putMark_46 : decode cX2_putMark 46 = .ok (.istore 4, 2) := by decide +kernel
theorem dX2_putMark_48 : decode cX2_putMark 48 = .ok (.iload_n 3, 1) := by decide +kernel
theorem dX2_putMark_49 : decode cX2_putMark 49 = .ok (.iconst 2, 1) := by decide +kernel
theorem dX2_putMark_50 : decode cX2_putMark 50 = .ok (.if_icmp .ne 20, 3) := by decide +kernel
theorem dX2_putMark_53 : decode cX2_putMark 53 = .ok (.iload 4, 2) := by decide +kernel
theorem dX2_putMark_55 : decode cX2_putMark 55 = .ok (.iconst 2, 1) := by decide +kernel
theorem dX2_putMark_56 : decode cX2_putMark 56 = .ok (.if_icmp .eq 14, 3) := by decide +kernel
theorem dX2_putMark_59 : decode cX2_putMark 59 = .ok (.aload_n 0, 1) := by decide +kernel
theorem dX2_putMark_60 : decode cX2_putMark 60 = .ok (.iload_n 1, 1) := by decide +kernel
theorem dX2_putMark_61 : decode cX2_putMark 61 = .ok (.invokevirtual 81, 3) := by decide +kernel
theorem dX2_putMark_64 : decode cX2_putMark 64 = .ok (.ifCond .ne 6, 3) := by decide +kernel
theorem dX2_putMark_67 : decode cX2_putMark 67 = .ok (.bipush (-4), 2) := by decide +kernel
theorem dX2_putMark_69 : decode cX2_putMark 69 = .ok (.ireturn, 1) := by decide +kernel
theorem dX2_putMark_70 : decode cX2_putMark 70 = .ok (.aload_n 0, 1) := by decide +kernel
theorem dX2_putMark_71 : decode cX2_putMark 71 = .ok (.getfield 18, 3) := by decide +kernel
theorem dX2_putMark_74 : decode cX2_putMark 74 = .ok (.iload_n 2, 1) := by decide +kernel
theorem dX2_putMark_75 : decode cX2_putMark 75 = .ok (.aload_n 0, 1) := by decide +kernel
theorem dX2_putMark_76 : decode cX2_putMark 76 = .ok (.getfield 18, 3) := by decide +kernel
theorem dX2_putMark_79 : decode cX2_putMark 79 = .ok (.iload_n 2, 1) := by decide +kernel
theorem dX2_putMark_80 : decode cX2_putMark 80 = .ok (.iaload, 1) := by decide +kernel
theorem dX2_putMark_81 : decode cX2_putMark 81 = .ok (.iload_n 1, 1) := by decide +kernel
theorem dX2_putMark_82 : decode cX2_putMark 82 = .ok (.iload_n 3, 1) := by decide +kernel
theorem dX2_putMark_83 : decode cX2_putMark 83 = .ok (.iconst 1, 1) := by decide +kernel
theorem dX2_putMark_84 : decode cX2_putMark 84 = .ok (.if_icmp .ne 7, 3) := by decide +kernel
theorem dX2_putMark_87 : decode cX2_putMark 87 = .ok (.iconst 1, 1) := by decide +kernel
theorem dX2_putMark_88 : decode cX2_putMark 88 = .ok (.goto 4, 3) := by decide +kernel
theorem dX2_putMark_91 : decode cX2_putMark 91 = .ok (.iconst 0, 1) := by decide +kernel
theorem dX2_putMark_92 : decode cX2_putMark 92 = .ok (.invokestatic 85, 3) := by decide +kernel
theorem dX2_putMark_95 : decode cX2_putMark 95 = .ok (.iastore, 1) := by decide +kernel
theorem dX2_putMark_96 : decode cX2_putMark 96 = .ok (.aload_n 0, 1) := by decide +kernel
theorem dX2_putMark_97 : decode cX2_putMark 97 = .ok (.getfield 21, 3) := by decide +kernel
theorem dX2_putMark_100 : decode cX2_putMark 100 = .ok (.iload_n 2, 1) := by decide +kernel
theorem dX2_putMark_101 : decode cX2_putMark 101 = .ok (.aload_n 0, 1) := by decide +kernel
theorem dX2_putMark_102 : decode cX2_putMark 102 = .ok (.getfield 21, 3) := by decide +kernel
theorem dX2_putMark_105 : decode cX2_putMark 105 = .ok (.iload_n 2, 1) := by decide +kernel
theorem dX2_putMark_106 : decode cX2_putMark 106 = .ok (.iaload, 1) := by decide +kernel
theorem dX2_putMark_107 : decode cX2_putMark 107 = .ok (.iload_n 1, 1) := by decide +kernel
theorem dX2_putMark_108 : decode cX2_putMark 108 = .ok (.iload_n 3, 1) := by decide +kernel
theorem dX2_putMark_109 : decode cX2_putMark 109 = .ok (.iconst 2, 1) := by decide +kernel
theorem dX2_putMark_110 : decode cX2_putMark 110 = .ok (.if_icmp .ne 7, 3) := by decide +kernel
theorem dX2_putMark_113 : decode cX2_putMark 113 = .ok (.iconst 1, 1) := by decide +kernel
theorem dX2_putMark_114 : decode cX2_putMark 114 = .ok (.goto 4, 3) := by decide +kernel
theorem dX2_putMark_117 : decode cX2_putMark 117 = .ok (.iconst 0, 1) := by decide +kernel
theorem dX2_putMark_118 : decode cX2_putMark 118 = .ok (.invokestatic 85, 3) := by decide +kernel
theorem dX2_putMark_121 : decode cX2_putMark 121 = .ok (.iastore, 1) := by decide +kernel
theorem dX2_putMark_122 : decode cX2_putMark 122 = .ok (.iload 4, 2) := by decide +kernel
theorem dX2_putMark_124 : decode cX2_putMark 124 = .ok (.ireturn, 1) := by decide +kernel
theorem dX2_argueAgainst_0 : decode cX2_argueAgainst 0 = .ok (.iload_n 1, 1) := by decide +kernel
theorem dX2_argueAgainst_1 : decode cX2_argueAgainst 1 = .ok (.invokestatic 70, 3) := by decide +kernel
theorem dX2_argueAgainst_4 : decode cX2_argueAgainst 4 = .ok (.ifCond .eq 17, 3) := by decide +kernel
theorem dX2_argueAgainst_7 : decode cX2_argueAgainst 7 = .ok (.iload_n 2, 1) := by decide +kernel
theorem dX2_argueAgainst_8 : decode cX2_argueAgainst 8 = .ok (.invokestatic 70, 3) := by decide +kernel
theorem dX2_argueAgainst_11 : decode cX2_argueAgainst 11 = .ok (.ifCond .eq 10, 3) := by decide +kernel
theorem dX2_argueAgainst_14 : decode cX2_argueAgainst 14 = .ok (.iload_n 3, 1) := by decide +kernel
theorem dX2_argueAgainst_15 : decode cX2_argueAgainst 15 = .ok (.invokestatic 74, 3) := by decide +kernel
theorem dX2_argueAgainst_18 : decode cX2_argueAgainst 18 = .ok (.ifCond .ne 5, 3) := by decide +kernel
theorem dX2_argueAgainst_21 : decode cX2_argueAgainst 21 = .ok (.iconst (-1), 1) := by decide +kernel
theorem dX2_argueAgainst_22 : decode cX2_argueAgainst 22 = .ok (.ireturn, 1) := by decide +kernel
theorem dX2_argueAgainst_23 : decode cX2_argueAgainst 23 = .ok (.iload_n 1, 1) := by decide +kernel
theorem dX2_argueAgainst_24 : decode cX2_argueAgainst 24 = .ok (.iload_n 2, 1) := by decide +kernel
theorem dX2_argueAgainst_25 : decode cX2_argueAgainst 25 = .ok (.if_icmp .ne 6, 3) := by decide +kernel
theorem dX2_argueAgainst_28 : decode cX2_argueAgainst 28 = .ok (.bipush (-2), 2) := by decide +kernel
theorem dX2_argueAgainst_30 : decode cX2_argueAgainst 30 = .ok (.ireturn, 1) := by decide +kernel
theorem dX2_argueAgainst_31 : decode cX2_argueAgainst 31 = .ok (.aload_n 0, 1) := by decide +kernel
theorem dX2_argueAgainst_32 : decode cX2_argueAgainst 32 = .ok (.getfield 11, 3) := by decide +kernel
theorem dX2_argueAgainst_35 : decode cX2_argueAgainst 35 = .ok (.iconst 2, 1) := by decide +kernel
theorem dX2_argueAgainst_36 : decode cX2_argueAgainst 36 = .ok (.iaload, 1) := by decide +kernel
theorem dX2_argueAgainst_37 : decode cX2_argueAgainst 37 = .ok (.istore 4, 2) := by decide +kernel
theorem dX2_argueAgainst_39 : decode cX2_argueAgainst 39 = .ok (.aload_n 0, 1) := by decide +kernel
theorem dX2_argueAgainst_40 : decode cX2_argueAgainst 40 = .ok (.iload_n 2, 1) := by decide +kernel
theorem dX2_argueAgainst_41 : decode cX2_argueAgainst 41 = .ok (.iload_n 3, 1) := by decide +kernel
theorem dX2_argueAgainst_42 : decode cX2_argueAgainst 42 = .ok (.invokevirtual 77, 3) := by decide +kernel
theorem dX2_argueAgainst_45 : decode cX2_argueAgainst 45 = .ok (.iconst 2, 1) := by decide +kernel
theorem dX2_argueAgainst_46 : decode cX2_argueAgainst 46 = .ok (.if_icmp .ne 14, 3) := by decide +kernel
theorem dX2_argueAgainst_49 : decode cX2_argueAgainst 49 = .ok (.aload_n 0, 1) := by decide +kernel
theorem dX2_argueAgainst_50 : decode cX2_argueAgainst 50 = .ok (.getfield 33, 3) := by decide +kernel
theorem dX2_argueAgainst_53 : decode cX2_argueAgainst 53 = .ok (.iload_n 1, 1) := by decide +kernel
theorem dX2_argueAgainst_54 : decode cX2_argueAgainst 54 = .ok (.iaload, 1) := by decide +kernel
theorem dX2_argueAgainst_55 : decode cX2_argueAgainst 55 = .ok (.iload 4, 2) := by decide +kernel
theorem dX2_argueAgainst_57 : decode cX2_argueAgainst 57 = .ok (.if_icmp .ge 6, 3) := by decide +kernel
theorem dX2_argueAgainst_60 : decode cX2_argueAgainst 60 = .ok (.bipush (-5), 2) := by decide +kernel
theorem dX2_argueAgainst_62 : decode cX2_argueAgainst 62 = .ok (.ireturn, 1) := by decide +kernel
theorem dX2_argueAgainst_63 : decode cX2_argueAgainst 63 = .ok (.aload_n 0, 1) := by decide +kernel
theorem dX2_argueAgainst_64 : decode cX2_argueAgainst 64 = .ok (.getfield 33, 3) := by decide +kernel
theorem dX2_argueAgainst_67 : decode cX2_argueAgainst 67 = .ok (.iload_n 1, 1) := by decide +kernel
theorem dX2_argueAgainst_68 : decode cX2_argueAgainst 68 = .ok (.dup2, 1) := by decide +kernel
theorem dX2_argueAgainst_69 : decode cX2_argueAgainst 69 = .ok (.iaload, 1) := by decide +kernel
theorem dX2_argueAgainst_70 : decode cX2_argueAgainst 70 = .ok (.iload 4, 2) := by decide +kernel
theorem dX2_argueAgainst_72 : decode cX2_argueAgainst 72 = .ok (.isub, 1) := by decide +kernel
theorem dX2_argueAgainst_73 : decode cX2_argueAgainst 73 = .ok (.iastore, 1) := by decide +kernel
theorem dX2_argueAgainst_74 : decode cX2_argueAgainst 74 = .ok (.aload_n 0, 1) := by decide +kernel
theorem dX2_argueAgainst_75 : decode cX2_argueAgainst 75 = .ok (.getfield 36, 3) := by decide +kernel
theorem dX2_argueAgainst_78 : decode cX2_argueAgainst 78 = .ok (.iload_n 1, 1) := by decide +kernel
theorem dX2_argueAgainst_79 : decode cX2_argueAgainst 79 = .ok (.dup2, 1) := by decide +kernel
theorem dX2_argueAgainst_80 : decode cX2_argueAgainst 80 = .ok (.iaload, 1) := by decide +kernel
theorem dX2_argueAgainst_81 : decode cX2_argueAgainst 81 = .ok (.iconst 1, 1) := by decide +kernel
theorem dX2_argueAgainst_82 : decode cX2_argueAgainst 82 = .ok (.iadd, 1) := by decide +kernel
theorem dX2_argueAgainst_83 : decode cX2_argueAgainst 83 = .ok (.iastore, 1) := by decide +kernel
theorem dX2_argueAgainst_84 : decode cX2_argueAgainst 84 = .ok (.aload_n 0, 1) := by decide +kernel
theorem dX2_argueAgainst_85 : decode cX2_argueAgainst 85 = .ok (.getfield 33, 3) := by decide +kernel
theorem dX2_argueAgainst_88 : decode cX2_argueAgainst 88 = .ok (.iload_n 2, 1) := by decide +kernel
theorem dX2_argueAgainst_89 : decode cX2_argueAgainst 89 = .ok (.iaload, 1) := by decide +kernel
theorem dX2_argueAgainst_90 : decode cX2_argueAgainst 90 = .ok (.iload 4, 2) := by decide +kernel
theorem dX2_argueAgainst_92 : decode cX2_argueAgainst 92 = .ok (.if_icmp .lt 16, 3) := by decide +kernel
theorem dX2_argueAgainst_95 : decode cX2_argueAgainst 95 = .ok (.aload_n 0, 1) := by decide +kernel
theorem dX2_argueAgainst_96 : decode cX2_argueAgainst 96 = .ok (.getfield 33, 3) := by decide +kernel
theorem dX2_argueAgainst_99 : decode cX2_argueAgainst 99 = .ok (.iload_n 2, 1) := by decide +kernel
theorem dX2_argueAgainst_100 : decode cX2_argueAgainst 100 = .ok (.dup2, 1) := by decide +kernel
theorem dX2_argueAgainst_101 : decode cX2_argueAgainst 101 = .ok (.iaload, 1) := by decide +kernel
theorem dX2_argueAgainst_102 : decode cX2_argueAgainst 102 = .ok (.iload 4, 2) := by decide +kernel
theorem dX2_argueAgainst_104 : decode cX2_argueAgainst 104 = .ok (.isub, 1) := by decide +kernel
theorem dX2_argueAgainst_105 : decode cX2_argueAgainst 105 = .ok (.iastore, 1) := by decide +kernel
theorem dX2_argueAgainst_106 : decode cX2_argueAgainst 106 = .ok (.iconst 0, 1) := by decide +kernel
theorem dX2_argueAgainst_107 : decode cX2_argueAgainst 107 = .ok (.ireturn, 1) := by decide +kernel
theorem dX2_argueAgainst_108 : decode cX2_argueAgainst 108 = .ok (.aload_n 0, 1) := by decide +kernel
theorem dX2_argueAgainst_109 : decode cX2_argueAgainst 109 = .ok (.getfield 21, 3) := by decide +kernel
theorem dX2_argueAgainst_112 : decode cX2_argueAgainst 112 = .ok (.iload_n 3, 1) := by decide +kernel
theorem dX2_argueAgainst_113 : decode cX2_argueAgainst 113 = .ok (.aload_n 0, 1) := by decide +kernel
theorem dX2_argueAgainst_114 : decode cX2_argueAgainst 114 = .ok (.getfield 21, 3) := by decide +kernel
theorem dX2_argueAgainst_117 : decode cX2_argueAgainst 117 = .ok (.iload_n 3, 1) := by decide +kernel
theorem dX2_argueAgainst_118 : decode cX2_argueAgainst 118 = .ok (.iaload, 1) := by decide +kernel
theorem dX2_argueAgainst_119 : decode cX2_argueAgainst 119 = .ok (.iload_n 2, 1) := by decide +kernel
theorem dX2_argueAgainst_120 : decode cX2_argueAgainst 120 = .ok (.iconst 0, 1) := by decide +kernel
theorem dX2_argueAgainst_121 : decode cX2_argueAgainst 121 = .ok (.invokestatic 85, 3) := by decide +kernel
theorem dX2_argueAgainst_124 : decode cX2_argueAgainst 124 = .ok (.iastore, 1) := by decide +kernel
theorem dX2_argueAgainst_125 : decode cX2_argueAgainst 125 = .ok (.aload_n 0, 1) := by decide +kernel
theorem dX2_argueAgainst_126 : decode cX2_argueAgainst 126 = .ok (.getfield 39, 3) := by decide +kernel
theorem dX2_argueAgainst_129 : decode cX2_argueAgainst 129 = .ok (.iload_n 2, 1) := by decide +kernel
theorem dX2_argueAgainst_130 : decode cX2_argueAgainst 130 = .ok (.dup2, 1) := by decide +kernel
theorem dX2_argueAgainst_131 : decode cX2_argueAgainst 131 = .ok (.iaload, 1) := by decide +kernel
theorem dX2_argueAgainst_132 : decode cX2_argueAgainst 132 = .ok (.iconst 1, 1) := by decide +kernel
theorem dX2_argueAgainst_133 : decode cX2_argueAgainst 133 = .ok (.iadd, 1) := by decide +kernel
theorem dX2_argueAgainst_134 : decode cX2_argueAgainst 134 = .ok (.iastore, 1) := by decide +kernel
theorem dX2_argueAgainst_135 : decode cX2_argueAgainst 135 = .ok (.iconst 1, 1) := by decide +kernel
theorem dX2_argueAgainst_136 : decode cX2_argueAgainst 136 = .ok (.ireturn, 1) := by decide +kernel
theorem dX2_endRound_0 : decode cX2_endRound 0 = .ok (.aload_n 0, 1) := by decide +kernel
theorem dX2_endRound_1 : decode cX2_endRound 1 = .ok (.getfield 48, 3) := by decide +kernel
theorem dX2_endRound_4 : decode cX2_endRound 4 = .ok (.bipush 99, 2) := by decide +kernel
theorem dX2_endRound_6 : decode cX2_endRound 6 = .ok (.if_icmp .lt 6, 3) := by decide +kernel
theorem dX2_endRound_9 : decode cX2_endRound 9 = .ok (.bipush (-5), 2) := by decide +kernel
theorem dX2_endRound_11 : decode cX2_endRound 11 = .ok (.ireturn, 1) := by decide +kernel
theorem dX2_endRound_12 : decode cX2_endRound 12 = .ok (.iconst 0, 1) := by decide +kernel
theorem dX2_endRound_13 : decode cX2_endRound 13 = .ok (.istore_n 1, 1) := by decide +kernel
theorem dX2_endRound_14 : decode cX2_endRound 14 = .ok (.iconst 0, 1) := by decide +kernel
theorem dX2_endRound_15 : decode cX2_endRound 15 = .ok (.istore_n 2, 1) := by decide +kernel
theorem dX2_endRound_16 : decode cX2_endRound 16 = .ok (.iload_n 2, 1) := by decide +kernel
theorem dX2_endRound_17 : decode cX2_endRound 17 = .ok (.bipush 30, 2) := by decide +kernel
theorem dX2_endRound_19 : decode cX2_endRound 19 = .ok (.if_icmp .ge 30, 3) := by decide +kernel
theorem dX2_endRound_22 : decode cX2_endRound 22 = .ok (.aload_n 0, 1) := by decide +kernel
theorem dX2_endRound_23 : decode cX2_endRound 23 = .ok (.getfield 15, 3) := by decide +kernel
theorem dX2_endRound_26 : decode cX2_endRound 26 = .ok (.iload_n 2, 1) := by decide +kernel
theorem dX2_endRound_27 : decode cX2_endRound 27 = .ok (.iaload, 1) := by decide +kernel
theorem dX2_endRound_28 : decode cX2_endRound 28 = .ok (.ifCond .ne 15, 3) := by decide +kernel
theorem dX2_endRound_31 : decode cX2_endRound 31 = .ok (.aload_n 0, 1) := by decide +kernel
theorem dX2_endRound_32 : decode cX2_endRound 32 = .ok (.iload_n 2, 1) := by decide +kernel
theorem dX2_endRound_33 : decode cX2_endRound 33 = .ok (.invokevirtual 89, 3) := by decide +kernel
theorem dX2_endRound_36 : decode cX2_endRound 36 = .ok (.iconst 1, 1) := by decide +kernel
theorem dX2_endRound_37 : decode cX2_endRound 37 = .ok (.if_icmp .ne 6, 3) := by decide +kernel
theorem dX2_endRound_40 : decode cX2_endRound 40 = .ok (.iinc 1 1, 3) := by decide +kernel
theorem dX2_endRound_43 : decode cX2_endRound 43 = .ok (.iinc 2 1, 3) := by decide +kernel
theorem dX2_endRound_46 : decode cX2_endRound 46 = .ok (.goto (-30), 3) := by decide +kernel
theorem dX2_endRound_49 : decode cX2_endRound 49 = .ok (.iconst 0, 1) := by decide +kernel
theorem dX2_endRound_50 : decode cX2_endRound 50 = .ok (.istore_n 2, 1) := by decide +kernel
theorem dX2_endRound_51 : decode cX2_endRound 51 = .ok (.iload_n 2, 1) := by decide +kernel
theorem dX2_endRound_52 : decode cX2_endRound 52 = .ok (.iconst 3, 1) := by decide +kernel
theorem dX2_endRound_53 : decode cX2_endRound 53 = .ok (.if_icmp .ge 28, 3) := by decide +kernel
theorem dX2_endRound_56 : decode cX2_endRound 56 = .ok (.aload_n 0, 1) := by decide +kernel
theorem dX2_endRound_57 : decode cX2_endRound 57 = .ok (.getfield 33, 3) := by decide +kernel
theorem dX2_endRound_60 : decode cX2_endRound 60 = .ok (.iload_n 2, 1) := by decide +kernel
theorem dX2_endRound_61 : decode cX2_endRound 61 = .ok (.aload_n 0, 1) := by decide +kernel
theorem dX2_endRound_62 : decode cX2_endRound 62 = .ok (.getfield 33, 3) := by decide +kernel
theorem dX2_endRound_65 : decode cX2_endRound 65 = .ok (.iload_n 2, 1) := by decide +kernel
theorem dX2_endRound_66 : decode cX2_endRound 66 = .ok (.iaload, 1) := by decide +kernel
theorem dX2_endRound_67 : decode cX2_endRound 67 = .ok (.iconst 2, 1) := by decide +kernel
theorem dX2_endRound_68 : decode cX2_endRound 68 = .ok (.iadd, 1) := by decide +kernel
theorem dX2_endRound_69 : decode cX2_endRound 69 = .ok (.bipush 20, 2) := by decide +kernel
theorem dX2_endRound_71 : decode cX2_endRound 71 = .ok (.invokestatic 92, 3) := by decide +kernel
theorem dX2_endRound_74 : decode cX2_endRound 74 = .ok (.iastore, 1) := by decide +kernel
theorem dX2_endRound_75 : decode cX2_endRound 75 = .ok (.iinc 2 1, 3) := by decide +kernel
theorem dX2_endRound_78 : decode cX2_endRound 78 = .ok (.goto (-27), 3) := by decide +kernel
theorem dX2_endRound_81 : decode cX2_endRound 81 = .ok (.aload_n 0, 1) := by decide +kernel
theorem dX2_endRound_82 : decode cX2_endRound 82 = .ok (.dup, 1) := by decide +kernel
theorem dX2_endRound_83 : decode cX2_endRound 83 = .ok (.getfield 48, 3) := by decide +kernel
theorem dX2_endRound_86 : decode cX2_endRound 86 = .ok (.iconst 1, 1) := by decide +kernel
theorem dX2_endRound_87 : decode cX2_endRound 87 = .ok (.iadd, 1) := by decide +kernel
theorem dX2_endRound_88 : decode cX2_endRound 88 = .ok (.putfield 48, 3) := by decide +kernel
theorem dX2_endRound_91 : decode cX2_endRound 91 = .ok (.iload_n 1, 1) := by decide +kernel
theorem dX2_endRound_92 : decode cX2_endRound 92 = .ok (.ireturn, 1) := by decide +kernel
theorem dX2_printFrame_0 : decode cX2_printFrame 0 = .ok (.iload_n 1, 1) := by decide +kernel
theorem dX2_printFrame_1 : decode cX2_printFrame 1 = .ok (.invokestatic 74, 3) := by decide +kernel
theorem dX2_printFrame_4 : decode cX2_printFrame 4 = .ok (.ifCond .ne 5, 3) := by decide +kernel
theorem dX2_printFrame_7 : decode cX2_printFrame 7 = .ok (.iconst (-1), 1) := by decide +kernel
theorem dX2_printFrame_8 : decode cX2_printFrame 8 = .ok (.ireturn, 1) := by decide +kernel
theorem dX2_printFrame_9 : decode cX2_printFrame 9 = .ok (.iload_n 2, 1) := by decide +kernel
theorem dX2_printFrame_10 : decode cX2_printFrame 10 = .ok (.iconst 1, 1) := by decide +kernel
theorem dX2_printFrame_11 : decode cX2_printFrame 11 = .ok (.if_icmp .lt 8, 3) := by decide +kernel
theorem dX2_printFrame_14 : decode cX2_printFrame 14 = .ok (.iload_n 2, 1) := by decide +kernel
theorem dX2_printFrame_15 : decode cX2_printFrame 15 = .ok (.iconst 3, 1) := by decide +kernel
theorem dX2_printFrame_16 : decode cX2_printFrame 16 = .ok (.if_icmp .le 6, 3) := by decide +kernel
theorem dX2_printFrame_19 : decode cX2_printFrame 19 = .ok (.bipush (-2), 2) := by decide +kernel
theorem dX2_printFrame_21 : decode cX2_printFrame 21 = .ok (.ireturn, 1) := by decide +kernel
theorem dX2_printFrame_22 : decode cX2_printFrame 22 = .ok (.iload_n 2, 1) := by decide +kernel
theorem dX2_printFrame_23 : decode cX2_printFrame 23 = .ok (.invokestatic 97, 3) := by decide +kernel
theorem dX2_printFrame_26 : decode cX2_printFrame 26 = .ok (.istore_n 3, 1) := by decide +kernel
theorem dX2_printFrame_27 : decode cX2_printFrame 27 = .ok (.aload_n 0, 1) := by decide +kernel
theorem dX2_printFrame_28 : decode cX2_printFrame 28 = .ok (.getfield 15, 3) := by decide +kernel
theorem dX2_printFrame_31 : decode cX2_printFrame 31 = .ok (.iload_n 1, 1) := by decide +kernel
theorem dX2_printFrame_32 : decode cX2_printFrame 32 = .ok (.iaload, 1) := by decide +kernel
theorem dX2_printFrame_33 : decode cX2_printFrame 33 = .ok (.iconst 1, 1) := by decide +kernel
theorem dX2_printFrame_34 : decode cX2_printFrame 34 = .ok (.if_icmp .ne 21, 3) := by decide +kernel
theorem dX2_printFrame_37 : decode cX2_printFrame 37 = .ok (.iload_n 2, 1) := by decide +kernel
theorem dX2_printFrame_38 : decode cX2_printFrame 38 = .ok (.aload_n 0, 1) := by decide +kernel
theorem dX2_printFrame_39 : decode cX2_printFrame 39 = .ok (.getfield 27, 3) := by decide +kernel
theorem dX2_printFrame_42 : decode cX2_printFrame 42 = .ok (.iload_n 1, 1) := by decide +kernel
theorem dX2_printFrame_43 : decode cX2_printFrame 43 = .ok (.iaload, 1) := by decide +kernel
theorem dX2_printFrame_44 : decode cX2_printFrame 44 = .ok (.if_icmp .gt 11, 3) := by decide +kernel
theorem dX2_printFrame_47 : decode cX2_printFrame 47 = .ok (.iload_n 3, 1) := by decide +kernel
theorem dX2_printFrame_48 : decode cX2_printFrame 48 = .ok (.aload_n 0, 1) := by decide +kernel
theorem dX2_printFrame_49 : decode cX2_printFrame 49 = .ok (.getfield 52, 3) := by decide +kernel
theorem dX2_printFrame_52 : decode cX2_printFrame 52 = .ok (.if_icmp .le 6, 3) := by decide +kernel
theorem dX2_printFrame_55 : decode cX2_printFrame 55 = .ok (.bipush (-5), 2) := by decide +kernel
theorem dX2_printFrame_57 : decode cX2_printFrame 57 = .ok (.ireturn, 1) := by decide +kernel
theorem dX2_printFrame_58 : decode cX2_printFrame 58 = .ok (.aload_n 0, 1) := by decide +kernel
theorem dX2_printFrame_59 : decode cX2_printFrame 59 = .ok (.getfield 15, 3) := by decide +kernel
theorem dX2_printFrame_62 : decode cX2_printFrame 62 = .ok (.iload_n 1, 1) := by decide +kernel
theorem dX2_printFrame_63 : decode cX2_printFrame 63 = .ok (.iconst 3, 1) := by decide +kernel
theorem dX2_printFrame_64 : decode cX2_printFrame 64 = .ok (.iastore, 1) := by decide +kernel
theorem dX2_printFrame_65 : decode cX2_printFrame 65 = .ok (.aload_n 0, 1) := by decide +kernel
theorem dX2_printFrame_66 : decode cX2_printFrame 66 = .ok (.getfield 27, 3) := by decide +kernel
theorem dX2_printFrame_69 : decode cX2_printFrame 69 = .ok (.iload_n 1, 1) := by decide +kernel
theorem dX2_printFrame_70 : decode cX2_printFrame 70 = .ok (.iload_n 2, 1) := by decide +kernel
theorem dX2_printFrame_71 : decode cX2_printFrame 71 = .ok (.iastore, 1) := by decide +kernel
theorem dX2_printFrame_72 : decode cX2_printFrame 72 = .ok (.aload_n 0, 1) := by decide +kernel
theorem dX2_printFrame_73 : decode cX2_printFrame 73 = .ok (.getfield 45, 3) := by decide +kernel
theorem dX2_printFrame_76 : decode cX2_printFrame 76 = .ok (.iload_n 2, 1) := by decide +kernel
theorem dX2_printFrame_77 : decode cX2_printFrame 77 = .ok (.dup2, 1) := by decide +kernel
theorem dX2_printFrame_78 : decode cX2_printFrame 78 = .ok (.iaload, 1) := by decide +kernel
theorem dX2_printFrame_79 : decode cX2_printFrame 79 = .ok (.iconst 1, 1) := by decide +kernel
theorem dX2_printFrame_80 : decode cX2_printFrame 80 = .ok (.iadd, 1) := by decide +kernel
theorem dX2_printFrame_81 : decode cX2_printFrame 81 = .ok (.iastore, 1) := by decide +kernel
theorem dX2_printFrame_82 : decode cX2_printFrame 82 = .ok (.aload_n 0, 1) := by decide +kernel
theorem dX2_printFrame_83 : decode cX2_printFrame 83 = .ok (.dup, 1) := by decide +kernel
theorem dX2_printFrame_84 : decode cX2_printFrame 84 = .ok (.getfield 52, 3) := by decide +kernel
theorem dX2_printFrame_87 : decode cX2_printFrame 87 = .ok (.iload_n 3, 1) := by decide +kernel
theorem dX2_printFrame_88 : decode cX2_printFrame 88 = .ok (.isub, 1) := by decide +kernel
theorem dX2_printFrame_89 : decode cX2_printFrame 89 = .ok (.putfield 52, 3) := by decide +kernel
theorem dX2_printFrame_92 : decode cX2_printFrame 92 = .ok (.aload_n 0, 1) := by decide +kernel
theorem dX2_printFrame_93 : decode cX2_printFrame 93 = .ok (.dup, 1) := by decide +kernel
theorem dX2_printFrame_94 : decode cX2_printFrame 94 = .ok (.getfield 55, 3) := by decide +kernel
theorem dX2_printFrame_97 : decode cX2_printFrame 97 = .ok (.iload_n 3, 1) := by decide +kernel
theorem dX2_printFrame_98 : decode cX2_printFrame 98 = .ok (.iadd, 1) := by decide +kernel
theorem dX2_printFrame_99 : decode cX2_printFrame 99 = .ok (.putfield 55, 3) := by decide +kernel
theorem dX2_printFrame_102 : decode cX2_printFrame 102 = .ok (.aload_n 0, 1) := by decide +kernel
theorem dX2_printFrame_103 : decode cX2_printFrame 103 = .ok (.getfield 52, 3) := by decide +kernel
theorem dX2_printFrame_106 : decode cX2_printFrame 106 = .ok (.ireturn, 1) := by decide +kernel
theorem dX2_addPaper_0 : decode cX2_addPaper 0 = .ok (.iload_n 1, 1) := by decide +kernel
theorem dX2_addPaper_1 : decode cX2_addPaper 1 = .ok (.iconst 1, 1) := by decide +kernel
theorem dX2_addPaper_2 : decode cX2_addPaper 2 = .ok (.if_icmp .lt 9, 3) := by decide +kernel
theorem dX2_addPaper_5 : decode cX2_addPaper 5 = .ok (.iload_n 1, 1) := by decide +kernel
theorem dX2_addPaper_6 : decode cX2_addPaper 6 = .ok (.bipush 99, 2) := by decide +kernel
theorem dX2_addPaper_8 : decode cX2_addPaper 8 = .ok (.if_icmp .le 6, 3) := by decide +kernel
theorem dX2_addPaper_11 : decode cX2_addPaper 11 = .ok (.bipush (-2), 2) := by decide +kernel
theorem dX2_addPaper_13 : decode cX2_addPaper 13 = .ok (.ireturn, 1) := by decide +kernel
theorem dX2_addPaper_14 : decode cX2_addPaper 14 = .ok (.aload_n 0, 1) := by decide +kernel
theorem dX2_addPaper_15 : decode cX2_addPaper 15 = .ok (.aload_n 0, 1) := by decide +kernel
theorem dX2_addPaper_16 : decode cX2_addPaper 16 = .ok (.getfield 52, 3) := by decide +kernel
theorem dX2_addPaper_19 : decode cX2_addPaper 19 = .ok (.iload_n 1, 1) := by decide +kernel
theorem dX2_addPaper_20 : decode cX2_addPaper 20 = .ok (.iadd, 1) := by decide +kernel
theorem dX2_addPaper_21 : decode cX2_addPaper 21 = .ok (.sipush 999, 3) := by decide +kernel
theorem dX2_addPaper_24 : decode cX2_addPaper 24 = .ok (.invokestatic 92, 3) := by decide +kernel
theorem dX2_addPaper_27 : decode cX2_addPaper 27 = .ok (.putfield 52, 3) := by decide +kernel
theorem dX2_addPaper_30 : decode cX2_addPaper 30 = .ok (.aload_n 0, 1) := by decide +kernel
theorem dX2_addPaper_31 : decode cX2_addPaper 31 = .ok (.getfield 52, 3) := by decide +kernel
theorem dX2_addPaper_34 : decode cX2_addPaper 34 = .ok (.ireturn, 1) := by decide +kernel
theorem dX2_openAgain_0 : decode cX2_openAgain 0 = .ok (.iload_n 1, 1) := by decide +kernel
theorem dX2_openAgain_1 : decode cX2_openAgain 1 = .ok (.invokestatic 74, 3) := by decide +kernel
theorem dX2_openAgain_4 : decode cX2_openAgain 4 = .ok (.ifCond .ne 5, 3) := by decide +kernel
theorem dX2_openAgain_7 : decode cX2_openAgain 7 = .ok (.iconst (-1), 1) := by decide +kernel
theorem dX2_openAgain_8 : decode cX2_openAgain 8 = .ok (.ireturn, 1) := by decide +kernel
theorem dX2_openAgain_9 : decode cX2_openAgain 9 = .ok (.aload_n 0, 1) := by decide +kernel
theorem dX2_openAgain_10 : decode cX2_openAgain 10 = .ok (.getfield 15, 3) := by decide +kernel
theorem dX2_openAgain_13 : decode cX2_openAgain 13 = .ok (.iload_n 1, 1) := by decide +kernel
theorem dX2_openAgain_14 : decode cX2_openAgain 14 = .ok (.iaload, 1) := by decide +kernel
theorem dX2_openAgain_15 : decode cX2_openAgain 15 = .ok (.istore_n 2, 1) := by decide +kernel
theorem dX2_openAgain_16 : decode cX2_openAgain 16 = .ok (.iload_n 2, 1) := by decide +kernel
theorem dX2_openAgain_17 : decode cX2_openAgain 17 = .ok (.ifCond .eq 8, 3) := by decide +kernel
theorem dX2_openAgain_20 : decode cX2_openAgain 20 = .ok (.iload_n 2, 1) := by decide +kernel
theorem dX2_openAgain_21 : decode cX2_openAgain 21 = .ok (.iconst 3, 1) := by decide +kernel
theorem dX2_openAgain_22 : decode cX2_openAgain 22 = .ok (.if_icmp .ne 6, 3) := by decide +kernel
theorem dX2_openAgain_25 : decode cX2_openAgain 25 = .ok (.bipush (-5), 2) := by decide +kernel
theorem dX2_openAgain_27 : decode cX2_openAgain 27 = .ok (.ireturn, 1) := by decide +kernel
theorem dX2_openAgain_28 : decode cX2_openAgain 28 = .ok (.aload_n 0, 1) := by decide +kernel
theorem dX2_openAgain_29 : decode cX2_openAgain 29 = .ok (.getfield 15, 3) := by decide +kernel
theorem dX2_openAgain_32 : decode cX2_openAgain 32 = .ok (.iload_n 1, 1) := by decide +kernel
theorem dX2_openAgain_33 : decode cX2_openAgain 33 = .ok (.iconst 0, 1) := by decide +kernel
theorem dX2_openAgain_34 : decode cX2_openAgain 34 = .ok (.iastore, 1) := by decide +kernel
theorem dX2_openAgain_35 : decode cX2_openAgain 35 = .ok (.aload_n 0, 1) := by decide +kernel
theorem dX2_openAgain_36 : decode cX2_openAgain 36 = .ok (.getfield 24, 3) := by decide +kernel
theorem dX2_openAgain_39 : decode cX2_openAgain 39 = .ok (.iload_n 1, 1) := by decide +kernel
theorem dX2_openAgain_40 : decode cX2_openAgain 40 = .ok (.iconst 0, 1) := by decide +kernel
theorem dX2_openAgain_41 : decode cX2_openAgain 41 = .ok (.iastore, 1) := by decide +kernel
theorem dX2_openAgain_42 : decode cX2_openAgain 42 = .ok (.aload_n 0, 1) := by decide +kernel
theorem dX2_openAgain_43 : decode cX2_openAgain 43 = .ok (.getfield 27, 3) := by decide +kernel
theorem dX2_openAgain_46 : decode cX2_openAgain 46 = .ok (.iload_n 1, 1) := by decide +kernel
theorem dX2_openAgain_47 : decode cX2_openAgain 47 = .ok (.iconst 0, 1) := by decide +kernel
theorem dX2_openAgain_48 : decode cX2_openAgain 48 = .ok (.iastore, 1) := by decide +kernel
theorem dX2_openAgain_49 : decode cX2_openAgain 49 = .ok (.iload_n 2, 1) := by decide +kernel
theorem dX2_openAgain_50 : decode cX2_openAgain 50 = .ok (.ireturn, 1) := by decide +kernel
theorem dX2_aboutFrame_0 : decode cX2_aboutFrame 0 = .ok (.iload_n 1, 1) := by decide +kernel
theorem dX2_aboutFrame_1 : decode cX2_aboutFrame 1 = .ok (.invokestatic 74, 3) := by decide +kernel
theorem dX2_aboutFrame_4 : decode cX2_aboutFrame 4 = .ok (.ifCond .ne 5, 3) := by decide +kernel
theorem dX2_aboutFrame_7 : decode cX2_aboutFrame 7 = .ok (.iconst (-1), 1) := by decide +kernel
theorem dX2_aboutFrame_8 : decode cX2_aboutFrame 8 = .ok (.ireturn, 1) := by decide +kernel
theorem dX2_aboutFrame_9 : decode cX2_aboutFrame 9 = .ok (.iload_n 2, 1) := by decide +kernel
theorem dX2_aboutFrame_10 : decode cX2_aboutFrame 10 = .ok (.tableswitch 80 0 5 #[38, 45, 52, 59, 66, 73], 38) := by decide +kernel
theorem dX2_aboutFrame_48 : decode cX2_aboutFrame 48 = .ok (.aload_n 0, 1) := by decide +kernel
theorem dX2_aboutFrame_49 : decode cX2_aboutFrame 49 = .ok (.getfield 15, 3) := by decide +kernel
theorem dX2_aboutFrame_52 : decode cX2_aboutFrame 52 = .ok (.iload_n 1, 1) := by decide +kernel
theorem dX2_aboutFrame_53 : decode cX2_aboutFrame 53 = .ok (.iaload, 1) := by decide +kernel
theorem dX2_aboutFrame_54 : decode cX2_aboutFrame 54 = .ok (.ireturn, 1) := by decide +kernel
theorem dX2_aboutFrame_55 : decode cX2_aboutFrame 55 = .ok (.aload_n 0, 1) := by decide +kernel
theorem dX2_aboutFrame_56 : decode cX2_aboutFrame 56 = .ok (.getfield 18, 3) := by decide +kernel
theorem dX2_aboutFrame_59 : decode cX2_aboutFrame 59 = .ok (.iload_n 1, 1) := by decide +kernel
theorem dX2_aboutFrame_60 : decode cX2_aboutFrame 60 = .ok (.iaload, 1) := by decide +kernel
theorem dX2_aboutFrame_61 : decode cX2_aboutFrame 61 = .ok (.ireturn, 1) := by decide +kernel
theorem dX2_aboutFrame_62 : decode cX2_aboutFrame 62 = .ok (.aload_n 0, 1) := by decide +kernel
theorem dX2_aboutFrame_63 : decode cX2_aboutFrame 63 = .ok (.getfield 21, 3) := by decide +kernel
theorem dX2_aboutFrame_66 : decode cX2_aboutFrame 66 = .ok (.iload_n 1, 1) := by decide +kernel
theorem dX2_aboutFrame_67 : decode cX2_aboutFrame 67 = .ok (.iaload, 1) := by decide +kernel
theorem dX2_aboutFrame_68 : decode cX2_aboutFrame 68 = .ok (.ireturn, 1) := by decide +kernel
theorem dX2_aboutFrame_69 : decode cX2_aboutFrame 69 = .ok (.aload_n 0, 1) := by decide +kernel
theorem dX2_aboutFrame_70 : decode cX2_aboutFrame 70 = .ok (.getfield 24, 3) := by decide +kernel
theorem dX2_aboutFrame_73 : decode cX2_aboutFrame 73 = .ok (.iload_n 1, 1) := by decide +kernel
theorem dX2_aboutFrame_74 : decode cX2_aboutFrame 74 = .ok (.iaload, 1) := by decide +kernel
theorem dX2_aboutFrame_75 : decode cX2_aboutFrame 75 = .ok (.ireturn, 1) := by decide +kernel
theorem dX2_aboutFrame_76 : decode cX2_aboutFrame 76 = .ok (.aload_n 0, 1) := by decide +kernel
theorem dX2_aboutFrame_77 : decode cX2_aboutFrame 77 = .ok (.getfield 27, 3) := by decide +kernel
theorem dX2_aboutFrame_80 : decode cX2_aboutFrame 80 = .ok (.iload_n 1, 1) := by decide +kernel
theorem dX2_aboutFrame_81 : decode cX2_aboutFrame 81 = .ok (.iaload, 1) := by decide +kernel
theorem dX2_aboutFrame_82 : decode cX2_aboutFrame 82 = .ok (.ireturn, 1) := by decide +kernel
theorem dX2_aboutFrame_83 : decode cX2_aboutFrame 83 = .ok (.aload_n 0, 1) := by decide +kernel
theorem dX2_aboutFrame_84 : decode cX2_aboutFrame 84 = .ok (.getfield 30, 3) := by decide +kernel
theorem dX2_aboutFrame_87 : decode cX2_aboutFrame 87 = .ok (.iload_n 1, 1) := by decide +kernel
theorem dX2_aboutFrame_88 : decode cX2_aboutFrame 88 = .ok (.iaload, 1) := by decide +kernel
theorem dX2_aboutFrame_89 : decode cX2_aboutFrame 89 = .ok (.ireturn, 1) := by decide +kernel
theorem dX2_aboutFrame_90 : decode cX2_aboutFrame 90 = .ok (.bipush (-2), 2) := by decide +kernel
theorem dX2_aboutFrame_92 : decode cX2_aboutFrame 92 = .ok (.ireturn, 1) := by decide +kernel
theorem dX2_aboutEditor_0 : decode cX2_aboutEditor 0 = .ok (.iload_n 1, 1) := by decide +kernel
theorem dX2_aboutEditor_1 : decode cX2_aboutEditor 1 = .ok (.invokestatic 70, 3) := by decide +kernel
theorem dX2_aboutEditor_4 : decode cX2_aboutEditor 4 = .ok (.ifCond .ne 5, 3) := by decide +kernel
theorem dX2_aboutEditor_7 : decode cX2_aboutEditor 7 = .ok (.iconst (-1), 1) := by decide +kernel
theorem dX2_aboutEditor_8 : decode cX2_aboutEditor 8 = .ok (.ireturn, 1) := by decide +kernel
theorem dX2_aboutEditor_9 : decode cX2_aboutEditor 9 = .ok (.iload_n 2, 1) := by decide +kernel
theorem dX2_aboutEditor_10 : decode cX2_aboutEditor 10 = .ok (.tableswitch 90 0 6 #[42, 49, 56, 63, 69, 76, 83], 42) := by decide +kernel
theorem dX2_aboutEditor_52 : decode cX2_aboutEditor 52 = .ok (.aload_n 0, 1) := by decide +kernel
theorem dX2_aboutEditor_53 : decode cX2_aboutEditor 53 = .ok (.getfield 33, 3) := by decide +kernel
theorem dX2_aboutEditor_56 : decode cX2_aboutEditor 56 = .ok (.iload_n 1, 1) := by decide +kernel
theorem dX2_aboutEditor_57 : decode cX2_aboutEditor 57 = .ok (.iaload, 1) := by decide +kernel
theorem dX2_aboutEditor_58 : decode cX2_aboutEditor 58 = .ok (.ireturn, 1) := by decide +kernel
theorem dX2_aboutEditor_59 : decode cX2_aboutEditor 59 = .ok (.aload_n 0, 1) := by decide +kernel
theorem dX2_aboutEditor_60 : decode cX2_aboutEditor 60 = .ok (.iload_n 1, 1) := by decide +kernel
theorem dX2_aboutEditor_61 : decode cX2_aboutEditor 61 = .ok (.iconst 1, 1) := by decide +kernel
theorem dX2_aboutEditor_62 : decode cX2_aboutEditor 62 = .ok (.invokevirtual 100, 3) := by decide +kernel
theorem dX2_aboutEditor_65 : decode cX2_aboutEditor 65 = .ok (.ireturn, 1) := by decide +kernel
theorem dX2_aboutEditor_66 : decode cX2_aboutEditor 66 = .ok (.aload_n 0, 1) := by decide +kernel
theorem dX2_aboutEditor_67 : decode cX2_aboutEditor 67 = .ok (.iload_n 1, 1) := by decide +kernel
theorem dX2_aboutEditor_68 : decode cX2_aboutEditor 68 = .ok (.iconst 2, 1) := by decide +kernel
theorem dX2_aboutEditor_69 : decode cX2_aboutEditor 69 = .ok (.invokevirtual 100, 3) := by decide +kernel
theorem dX2_aboutEditor_72 : decode cX2_aboutEditor 72 = .ok (.ireturn, 1) := by decide +kernel
theorem dX2_aboutEditor_73 : decode cX2_aboutEditor 73 = .ok (.aload_n 0, 1) := by decide +kernel
theorem dX2_aboutEditor_74 : decode cX2_aboutEditor 74 = .ok (.iload_n 1, 1) := by decide +kernel
theorem dX2_aboutEditor_75 : decode cX2_aboutEditor 75 = .ok (.invokevirtual 81, 3) := by decide +kernel
theorem dX2_aboutEditor_78 : decode cX2_aboutEditor 78 = .ok (.ireturn, 1) := by decide +kernel
theorem dX2_aboutEditor_79 : decode cX2_aboutEditor 79 = .ok (.aload_n 0, 1) := by decide +kernel
theorem dX2_aboutEditor_80 : decode cX2_aboutEditor 80 = .ok (.getfield 36, 3) := by decide +kernel
theorem dX2_aboutEditor_83 : decode cX2_aboutEditor 83 = .ok (.iload_n 1, 1) := by decide +kernel
theorem dX2_aboutEditor_84 : decode cX2_aboutEditor 84 = .ok (.iaload, 1) := by decide +kernel
theorem dX2_aboutEditor_85 : decode cX2_aboutEditor 85 = .ok (.ireturn, 1) := by decide +kernel
theorem dX2_aboutEditor_86 : decode cX2_aboutEditor 86 = .ok (.aload_n 0, 1) := by decide +kernel
theorem dX2_aboutEditor_87 : decode cX2_aboutEditor 87 = .ok (.getfield 39, 3) := by decide +kernel
theorem dX2_aboutEditor_90 : decode cX2_aboutEditor 90 = .ok (.iload_n 1, 1) := by decide +kernel
theorem dX2_aboutEditor_91 : decode cX2_aboutEditor 91 = .ok (.iaload, 1) := by decide +kernel
theorem dX2_aboutEditor_92 : decode cX2_aboutEditor 92 = .ok (.ireturn, 1) := by decide +kernel
theorem dX2_aboutEditor_93 : decode cX2_aboutEditor 93 = .ok (.aload_n 0, 1) := by decide +kernel
theorem dX2_aboutEditor_94 : decode cX2_aboutEditor 94 = .ok (.getfield 42, 3) := by decide +kernel
theorem dX2_aboutEditor_97 : decode cX2_aboutEditor 97 = .ok (.iload_n 1, 1) := by decide +kernel
theorem dX2_aboutEditor_98 : decode cX2_aboutEditor 98 = .ok (.iaload, 1) := by decide +kernel
theorem dX2_aboutEditor_99 : decode cX2_aboutEditor 99 = .ok (.ireturn, 1) := by decide +kernel
theorem dX2_aboutEditor_100 : decode cX2_aboutEditor 100 = .ok (.bipush (-2), 2) := by decide +kernel
theorem dX2_aboutEditor_102 : decode cX2_aboutEditor 102 = .ok (.ireturn, 1) := by decide +kernel
theorem dX2_chosenAt_0 : decode cX2_chosenAt 0 = .ok (.iload_n 1, 1) := by decide +kernel
theorem dX2_chosenAt_1 : decode cX2_chosenAt 1 = .ok (.ifCond .ge 5, 3) := by decide +kernel
theorem dX2_chosenAt_4 : decode cX2_chosenAt 4 = .ok (.iconst (-1), 1) := by decide +kernel
theorem dX2_chosenAt_5 : decode cX2_chosenAt 5 = .ok (.ireturn, 1) := by decide +kernel
theorem dX2_chosenAt_6 : decode cX2_chosenAt 6 = .ok (.iconst 0, 1) := by decide +kernel
theorem dX2_chosenAt_7 : decode cX2_chosenAt 7 = .ok (.istore_n 2, 1) := by decide +kernel
theorem dX2_chosenAt_8 : decode cX2_chosenAt 8 = .ok (.iconst 0, 1) := by decide +kernel
theorem dX2_chosenAt_9 : decode cX2_chosenAt 9 = .ok (.istore_n 3, 1) := by decide +kernel
theorem dX2_chosenAt_10 : decode cX2_chosenAt 10 = .ok (.iload_n 3, 1) := by decide +kernel
theorem dX2_chosenAt_11 : decode cX2_chosenAt 11 = .ok (.aload_n 0, 1) := by decide +kernel
theorem dX2_chosenAt_12 : decode cX2_chosenAt 12 = .ok (.getfield 48, 3) := by decide +kernel
theorem dX2_chosenAt_15 : decode cX2_chosenAt 15 = .ok (.if_icmp .ge 56, 3) := by decide +kernel
theorem dX2_chosenAt_18 : decode cX2_chosenAt 18 = .ok (.iconst 0, 1) := by decide +kernel
theorem dX2_chosenAt_19 : decode cX2_chosenAt 19 = .ok (.istore 4, 2) := by decide +kernel
theorem dX2_chosenAt_21 : decode cX2_chosenAt 21 = .ok (.iload 4, 2) := by decide +kernel
theorem dX2_chosenAt_23 : decode cX2_chosenAt 23 = .ok (.bipush 30, 2) := by decide +kernel
theorem dX2_chosenAt_25 : decode cX2_chosenAt 25 = .ok (.if_icmp .ge 40, 3) := by decide +kernel
theorem dX2_chosenAt_28 : decode cX2_chosenAt 28 = .ok (.aload_n 0, 1) := by decide +kernel
theorem dX2_chosenAt_29 : decode cX2_chosenAt 29 = .ok (.iload 4, 2) := by decide +kernel
theorem dX2_chosenAt_31 : decode cX2_chosenAt 31 = .ok (.invokevirtual 103, 3) := by decide +kernel
theorem dX2_chosenAt_34 : decode cX2_chosenAt 34 = .ok (.ifCond .eq 25, 3) := by decide +kernel
theorem dX2_chosenAt_37 : decode cX2_chosenAt 37 = .ok (.aload_n 0, 1) := by decide +kernel
theorem dX2_chosenAt_38 : decode cX2_chosenAt 38 = .ok (.getfield 30, 3) := by decide +kernel
theorem dX2_chosenAt_41 : decode cX2_chosenAt 41 = .ok (.iload 4, 2) := by decide +kernel
theorem dX2_chosenAt_43 : decode cX2_chosenAt 43 = .ok (.iaload, 1) := by decide +kernel
theorem dX2_chosenAt_44 : decode cX2_chosenAt 44 = .ok (.iload_n 3, 1) := by decide +kernel
theorem dX2_chosenAt_45 : decode cX2_chosenAt 45 = .ok (.if_icmp .ne 14, 3) := by decide +kernel
theorem dX2_chosenAt_48 : decode cX2_chosenAt 48 = .ok (.iload_n 2, 1) := by decide +kernel
theorem dX2_chosenAt_49 : decode cX2_chosenAt 49 = .ok (.iload_n 1, 1) := by decide +kernel
theorem dX2_chosenAt_50 : decode cX2_chosenAt 50 = .ok (.if_icmp .ne 6, 3) := by decide +kernel
theorem dX2_chosenAt_53 : decode cX2_chosenAt 53 = .ok (.iload 4, 2) := by decide +kernel
theorem dX2_chosenAt_55 : decode cX2_chosenAt 55 = .ok (.ireturn, 1) := by decide +kernel
theorem dX2_chosenAt_56 : decode cX2_chosenAt 56 = .ok (.iinc 2 1, 3) := by decide +kernel
theorem dX2_chosenAt_59 : decode cX2_chosenAt 59 = .ok (.iinc 4 1, 3) := by decide +kernel
theorem dX2_chosenAt_62 : decode cX2_chosenAt 62 = .ok (.goto (-41), 3) := by decide +kernel
theorem dX2_chosenAt_65 : decode cX2_chosenAt 65 = .ok (.iinc 3 1, 3) := by decide +kernel
theorem dX2_chosenAt_68 : decode cX2_chosenAt 68 = .ok (.goto (-58), 3) := by decide +kernel
theorem dX2_chosenAt_71 : decode cX2_chosenAt 71 = .ok (.iconst (-1), 1) := by decide +kernel
theorem dX2_chosenAt_72 : decode cX2_chosenAt 72 = .ok (.ireturn, 1) := by decide +kernel
theorem dX2_numberOf_0 : decode cX2_numberOf 0 = .ok (.iload_n 1, 1) := by decide +kernel
theorem dX2_numberOf_1 : decode cX2_numberOf 1 = .ok (.tableswitch 139 0 14 #[75, 80, 86, 92, 98, 104, 109, 114, 114, 114, 124, 129, 129, 129, 129], 75) := by decide +kernel
theorem dX2_numberOf_76 : decode cX2_numberOf 76 = .ok (.aload_n 0, 1) := by decide +kernel
theorem dX2_numberOf_77 : decode cX2_numberOf 77 = .ok (.getfield 48, 3) := by decide +kernel
theorem dX2_numberOf_80 : decode cX2_numberOf 80 = .ok (.ireturn, 1) := by decide +kernel
theorem dX2_numberOf_81 : decode cX2_numberOf 81 = .ok (.aload_n 0, 1) := by decide +kernel
theorem dX2_numberOf_82 : decode cX2_numberOf 82 = .ok (.iconst 0, 1) := by decide +kernel
theorem dX2_numberOf_83 : decode cX2_numberOf 83 = .ok (.invokevirtual 106, 3) := by decide +kernel
theorem dX2_numberOf_86 : decode cX2_numberOf 86 = .ok (.ireturn, 1) := by decide +kernel
theorem dX2_numberOf_87 : decode cX2_numberOf 87 = .ok (.aload_n 0, 1) := by decide +kernel
theorem dX2_numberOf_88 : decode cX2_numberOf 88 = .ok (.iconst 1, 1) := by decide +kernel
theorem dX2_numberOf_89 : decode cX2_numberOf 89 = .ok (.invokevirtual 106, 3) := by decide +kernel
theorem dX2_numberOf_92 : decode cX2_numberOf 92 = .ok (.ireturn, 1) := by decide +kernel
theorem dX2_numberOf_93 : decode cX2_numberOf 93 = .ok (.aload_n 0, 1) := by decide +kernel
theorem dX2_numberOf_94 : decode cX2_numberOf 94 = .ok (.iconst 2, 1) := by decide +kernel
theorem dX2_numberOf_95 : decode cX2_numberOf 95 = .ok (.invokevirtual 106, 3) := by decide +kernel
theorem dX2_numberOf_98 : decode cX2_numberOf 98 = .ok (.ireturn, 1) := by decide +kernel
theorem dX2_numberOf_99 : decode cX2_numberOf 99 = .ok (.aload_n 0, 1) := by decide +kernel
theorem dX2_numberOf_100 : decode cX2_numberOf 100 = .ok (.iconst 3, 1) := by decide +kernel
theorem dX2_numberOf_101 : decode cX2_numberOf 101 = .ok (.invokevirtual 106, 3) := by decide +kernel
theorem dX2_numberOf_104 : decode cX2_numberOf 104 = .ok (.ireturn, 1) := by decide +kernel
theorem dX2_numberOf_105 : decode cX2_numberOf 105 = .ok (.aload_n 0, 1) := by decide +kernel
theorem dX2_numberOf_106 : decode cX2_numberOf 106 = .ok (.getfield 52, 3) := by decide +kernel
theorem dX2_numberOf_109 : decode cX2_numberOf 109 = .ok (.ireturn, 1) := by decide +kernel
theorem dX2_numberOf_110 : decode cX2_numberOf 110 = .ok (.aload_n 0, 1) := by decide +kernel
theorem dX2_numberOf_111 : decode cX2_numberOf 111 = .ok (.getfield 55, 3) := by decide +kernel
theorem dX2_numberOf_114 : decode cX2_numberOf 114 = .ok (.ireturn, 1) := by decide +kernel
theorem dX2_numberOf_115 : decode cX2_numberOf 115 = .ok (.aload_n 0, 1) := by decide +kernel
theorem dX2_numberOf_116 : decode cX2_numberOf 116 = .ok (.getfield 45, 3) := by decide +kernel
theorem dX2_numberOf_119 : decode cX2_numberOf 119 = .ok (.iload_n 1, 1) := by decide +kernel
theorem dX2_numberOf_120 : decode cX2_numberOf 120 = .ok (.bipush 6, 2) := by decide +kernel
theorem dX2_numberOf_122 : decode cX2_numberOf 122 = .ok (.isub, 1) := by decide +kernel
theorem dX2_numberOf_123 : decode cX2_numberOf 123 = .ok (.iaload, 1) := by decide +kernel
theorem dX2_numberOf_124 : decode cX2_numberOf 124 = .ok (.ireturn, 1) := by decide +kernel
theorem dX2_numberOf_125 : decode cX2_numberOf 125 = .ok (.aload_n 0, 1) := by decide +kernel
theorem dX2_numberOf_126 : decode cX2_numberOf 126 = .ok (.invokevirtual 109, 3) := by decide +kernel
theorem dX2_numberOf_129 : decode cX2_numberOf 129 = .ok (.ireturn, 1) := by decide +kernel
theorem dX2_numberOf_130 : decode cX2_numberOf 130 = .ok (.aload_n 0, 1) := by decide +kernel
theorem dX2_numberOf_131 : decode cX2_numberOf 131 = .ok (.getfield 11, 3) := by decide +kernel
theorem dX2_numberOf_134 : decode cX2_numberOf 134 = .ok (.iload_n 1, 1) := by decide +kernel
theorem dX2_numberOf_135 : decode cX2_numberOf 135 = .ok (.bipush 11, 2) := by decide +kernel
theorem dX2_numberOf_137 : decode cX2_numberOf 137 = .ok (.isub, 1) := by decide +kernel
theorem dX2_numberOf_138 : decode cX2_numberOf 138 = .ok (.iaload, 1) := by decide +kernel
theorem dX2_numberOf_139 : decode cX2_numberOf 139 = .ok (.ireturn, 1) := by decide +kernel
theorem dX2_numberOf_140 : decode cX2_numberOf 140 = .ok (.bipush (-2), 2) := by decide +kernel
theorem dX2_numberOf_142 : decode cX2_numberOf 142 = .ok (.ireturn, 1) := by decide +kernel
theorem dX2_whyNotChosen_0 : decode cX2_whyNotChosen 0 = .ok (.iload_n 1, 1) := by decide +kernel
theorem dX2_whyNotChosen_1 : decode cX2_whyNotChosen 1 = .ok (.invokestatic 74, 3) := by decide +kernel
theorem dX2_whyNotChosen_4 : decode cX2_whyNotChosen 4 = .ok (.ifCond .ne 5, 3) := by decide +kernel
theorem dX2_whyNotChosen_7 : decode cX2_whyNotChosen 7 = .ok (.iconst (-1), 1) := by decide +kernel
theorem dX2_whyNotChosen_8 : decode cX2_whyNotChosen 8 = .ok (.ireturn, 1) := by decide +kernel
theorem dX2_whyNotChosen_9 : decode cX2_whyNotChosen 9 = .ok (.aload_n 0, 1) := by decide +kernel
theorem dX2_whyNotChosen_10 : decode cX2_whyNotChosen 10 = .ok (.getfield 15, 3) := by decide +kernel
theorem dX2_whyNotChosen_13 : decode cX2_whyNotChosen 13 = .ok (.iload_n 1, 1) := by decide +kernel
theorem dX2_whyNotChosen_14 : decode cX2_whyNotChosen 14 = .ok (.iaload, 1) := by decide +kernel
theorem dX2_whyNotChosen_15 : decode cX2_whyNotChosen 15 = .ok (.ifCond .eq 5, 3) := by decide +kernel
theorem dX2_whyNotChosen_18 : decode cX2_whyNotChosen 18 = .ok (.iconst 1, 1) := by decide +kernel
theorem dX2_whyNotChosen_19 : decode cX2_whyNotChosen 19 = .ok (.ireturn, 1) := by decide +kernel
theorem dX2_whyNotChosen_20 : decode cX2_whyNotChosen 20 = .ok (.aload_n 0, 1) := by decide +kernel
theorem dX2_whyNotChosen_21 : decode cX2_whyNotChosen 21 = .ok (.getfield 21, 3) := by decide +kernel
theorem dX2_whyNotChosen_24 : decode cX2_whyNotChosen 24 = .ok (.iload_n 1, 1) := by decide +kernel
theorem dX2_whyNotChosen_25 : decode cX2_whyNotChosen 25 = .ok (.iaload, 1) := by decide +kernel
theorem dX2_whyNotChosen_26 : decode cX2_whyNotChosen 26 = .ok (.ifCond .eq 5, 3) := by decide +kernel
theorem dX2_whyNotChosen_29 : decode cX2_whyNotChosen 29 = .ok (.iconst 2, 1) := by decide +kernel
theorem dX2_whyNotChosen_30 : decode cX2_whyNotChosen 30 = .ok (.ireturn, 1) := by decide +kernel
theorem dX2_whyNotChosen_31 : decode cX2_whyNotChosen 31 = .ok (.aload_n 0, 1) := by decide +kernel
theorem dX2_whyNotChosen_32 : decode cX2_whyNotChosen 32 = .ok (.aload_n 0, 1) := by decide +kernel
theorem dX2_whyNotChosen_33 : decode cX2_whyNotChosen 33 = .ok (.getfield 18, 3) := by decide +kernel
theorem dX2_whyNotChosen_36 : decode cX2_whyNotChosen 36 = .ok (.iload_n 1, 1) := by decide +kernel
theorem dX2_whyNotChosen_37 : decode cX2_whyNotChosen 37 = .ok (.iaload, 1) := by decide +kernel
theorem dX2_whyNotChosen_38 : decode cX2_whyNotChosen 38 = .ok (.aload_n 0, 1) := by decide +kernel
theorem dX2_whyNotChosen_39 : decode cX2_whyNotChosen 39 = .ok (.getfield 21, 3) := by decide +kernel
theorem dX2_whyNotChosen_42 : decode cX2_whyNotChosen 42 = .ok (.iload_n 1, 1) := by decide +kernel
theorem dX2_whyNotChosen_43 : decode cX2_whyNotChosen 43 = .ok (.iaload, 1) := by decide +kernel
theorem dX2_whyNotChosen_44 : decode cX2_whyNotChosen 44 = .ok (.invokevirtual 113, 3) := by decide +kernel
theorem dX2_whyNotChosen_47 : decode cX2_whyNotChosen 47 = .ok (.ifCond .eq 7, 3) := by decide +kernel
theorem dX2_whyNotChosen_50 : decode cX2_whyNotChosen 50 = .ok (.iconst 0, 1) := by decide +kernel
theorem dX2_whyNotChosen_51 : decode cX2_whyNotChosen 51 = .ok (.goto 4, 3) := by decide +kernel
theorem dX2_whyNotChosen_54 : decode cX2_whyNotChosen 54 = .ok (.iconst 3, 1) := by decide +kernel
theorem dX2_whyNotChosen_55 : decode cX2_whyNotChosen 55 = .ok (.ireturn, 1) := by decide +kernel
theorem dX2_roundWouldBring_0 : decode cX2_roundWouldBring 0 = .ok (.iload_n 1, 1) := by decide +kernel
theorem dX2_roundWouldBring_1 : decode cX2_roundWouldBring 1 = .ok (.tableswitch 45 0 2 #[27, 33, 39], 27) := by decide +kernel
theorem dX2_roundWouldBring_28 : decode cX2_roundWouldBring 28 = .ok (.aload_n 0, 1) := by decide +kernel
theorem dX2_roundWouldBring_29 : decode cX2_roundWouldBring 29 = .ok (.iconst 1, 1) := by decide +kernel
theorem dX2_roundWouldBring_30 : decode cX2_roundWouldBring 30 = .ok (.invokevirtual 117, 3) := by decide +kernel
theorem dX2_roundWouldBring_33 : decode cX2_roundWouldBring 33 = .ok (.ireturn, 1) := by decide +kernel
theorem dX2_roundWouldBring_34 : decode cX2_roundWouldBring 34 = .ok (.aload_n 0, 1) := by decide +kernel
theorem dX2_roundWouldBring_35 : decode cX2_roundWouldBring 35 = .ok (.iconst 2, 1) := by decide +kernel
theorem dX2_roundWouldBring_36 : decode cX2_roundWouldBring 36 = .ok (.invokevirtual 117, 3) := by decide +kernel
theorem dX2_roundWouldBring_39 : decode cX2_roundWouldBring 39 = .ok (.ireturn, 1) := by decide +kernel
theorem dX2_roundWouldBring_40 : decode cX2_roundWouldBring 40 = .ok (.aload_n 0, 1) := by decide +kernel
theorem dX2_roundWouldBring_41 : decode cX2_roundWouldBring 41 = .ok (.iconst 0, 1) := by decide +kernel
theorem dX2_roundWouldBring_42 : decode cX2_roundWouldBring 42 = .ok (.invokevirtual 117, 3) := by decide +kernel
theorem dX2_roundWouldBring_45 : decode cX2_roundWouldBring 45 = .ok (.ireturn, 1) := by decide +kernel
theorem dX2_roundWouldBring_46 : decode cX2_roundWouldBring 46 = .ok (.bipush (-2), 2) := by decide +kernel
theorem dX2_roundWouldBring_48 : decode cX2_roundWouldBring 48 = .ok (.ireturn, 1) := by decide +kernel
theorem dX2_deciders_0 : decode cX2_deciders 0 = .ok (.iload_n 1, 1) := by decide +kernel
theorem dX2_deciders_1 : decode cX2_deciders 1 = .ok (.invokestatic 74, 3) := by decide +kernel
theorem dX2_deciders_4 : decode cX2_deciders 4 = .ok (.ifCond .ne 5, 3) := by decide +kernel
theorem dX2_deciders_7 : decode cX2_deciders 7 = .ok (.iconst (-1), 1) := by decide +kernel
theorem dX2_deciders_8 : decode cX2_deciders 8 = .ok (.ireturn, 1) := by decide +kernel
theorem dX2_deciders_9 : decode cX2_deciders 9 = .ok (.iconst 0, 1) := by decide +kernel
theorem dX2_deciders_10 : decode cX2_deciders 10 = .ok (.istore_n 2, 1) := by decide +kernel
theorem dX2_deciders_11 : decode cX2_deciders 11 = .ok (.iconst 0, 1) := by decide +kernel
theorem dX2_deciders_12 : decode cX2_deciders 12 = .ok (.istore_n 3, 1) := by decide +kernel
theorem dX2_deciders_13 : decode cX2_deciders 13 = .ok (.iload_n 3, 1) := by decide +kernel
theorem dX2_deciders_14 : decode cX2_deciders 14 = .ok (.iconst 3, 1) := by decide +kernel
theorem dX2_deciders_15 : decode cX2_deciders 15 = .ok (.if_icmp .ge 38, 3) := by decide +kernel
theorem dX2_deciders_18 : decode cX2_deciders 18 = .ok (.iload_n 2, 1) := by decide +kernel
theorem dX2_deciders_19 : decode cX2_deciders 19 = .ok (.iload_n 3, 1) := by decide +kernel
theorem dX2_deciders_20 : decode cX2_deciders 20 = .ok (.aload_n 0, 1) := by decide +kernel
theorem dX2_deciders_21 : decode cX2_deciders 21 = .ok (.getfield 15, 3) := by decide +kernel
theorem dX2_deciders_24 : decode cX2_deciders 24 = .ok (.iload_n 1, 1) := by decide +kernel
theorem dX2_deciders_25 : decode cX2_deciders 25 = .ok (.iaload, 1) := by decide +kernel
theorem dX2_deciders_26 : decode cX2_deciders 26 = .ok (.ifCond .ne 16, 3) := by decide +kernel
theorem dX2_deciders_29 : decode cX2_deciders 29 = .ok (.aload_n 0, 1) := by decide +kernel
theorem dX2_deciders_30 : decode cX2_deciders 30 = .ok (.iload_n 3, 1) := by decide +kernel
theorem dX2_deciders_31 : decode cX2_deciders 31 = .ok (.iload_n 1, 1) := by decide +kernel
theorem dX2_deciders_32 : decode cX2_deciders 32 = .ok (.invokevirtual 120, 3) := by decide +kernel
theorem dX2_deciders_35 : decode cX2_deciders 35 = .ok (.ifCond .eq 7, 3) := by decide +kernel
theorem dX2_deciders_38 : decode cX2_deciders 38 = .ok (.iconst 1, 1) := by decide +kernel
theorem dX2_deciders_39 : decode cX2_deciders 39 = .ok (.goto 4, 3) := by decide +kernel
theorem dX2_deciders_42 : decode cX2_deciders 42 = .ok (.iconst 0, 1) := by decide +kernel
theorem dX2_deciders_43 : decode cX2_deciders 43 = .ok (.invokestatic 85, 3) := by decide +kernel
theorem dX2_deciders_46 : decode cX2_deciders 46 = .ok (.istore_n 2, 1) := by decide +kernel
theorem dX2_deciders_47 : decode cX2_deciders 47 = .ok (.iinc 3 1, 3) := by decide +kernel
theorem dX2_deciders_50 : decode cX2_deciders 50 = .ok (.goto (-37), 3) := by decide +kernel
theorem dX2_deciders_53 : decode cX2_deciders 53 = .ok (.iload_n 2, 1) := by decide +kernel
theorem dX2_deciders_54 : decode cX2_deciders 54 = .ok (.ireturn, 1) := by decide +kernel
theorem dX2_agreement_0 : decode cX2_agreement 0 = .ok (.iload_n 1, 1) := by decide +kernel
theorem dX2_agreement_1 : decode cX2_agreement 1 = .ok (.invokestatic 70, 3) := by decide +kernel
theorem dX2_agreement_4 : decode cX2_agreement 4 = .ok (.ifCond .eq 10, 3) := by decide +kernel
theorem dX2_agreement_7 : decode cX2_agreement 7 = .ok (.iload_n 2, 1) := by decide +kernel
theorem dX2_agreement_8 : decode cX2_agreement 8 = .ok (.invokestatic 70, 3) := by decide +kernel
theorem dX2_agreement_11 : decode cX2_agreement 11 = .ok (.ifCond .ne 5, 3) := by decide +kernel
theorem dX2_agreement_14 : decode cX2_agreement 14 = .ok (.iconst (-1), 1) := by decide +kernel
theorem dX2_agreement_15 : decode cX2_agreement 15 = .ok (.ireturn, 1) := by decide +kernel
theorem dX2_agreement_16 : decode cX2_agreement 16 = .ok (.iconst 0, 1) := by decide +kernel
theorem dX2_agreement_17 : decode cX2_agreement 17 = .ok (.istore_n 3, 1) := by decide +kernel
theorem dX2_agreement_18 : decode cX2_agreement 18 = .ok (.iconst 0, 1) := by decide +kernel
theorem dX2_agreement_19 : decode cX2_agreement 19 = .ok (.istore 4, 2) := by decide +kernel
theorem dX2_agreement_21 : decode cX2_agreement 21 = .ok (.iconst 0, 1) := by decide +kernel
theorem dX2_agreement_22 : decode cX2_agreement 22 = .ok (.istore 5, 2) := by decide +kernel
theorem dX2_agreement_24 : decode cX2_agreement 24 = .ok (.iload 5, 2) := by decide +kernel
theorem dX2_agreement_26 : decode cX2_agreement 26 = .ok (.bipush 30, 2) := by decide +kernel
theorem dX2_agreement_28 : decode cX2_agreement 28 = .ok (.if_icmp .ge 57, 3) := by decide +kernel
theorem dX2_agreement_31 : decode cX2_agreement 31 = .ok (.aload_n 0, 1) := by decide +kernel
theorem dX2_agreement_32 : decode cX2_agreement 32 = .ok (.iload_n 1, 1) := by decide +kernel
theorem dX2_agreement_33 : decode cX2_agreement 33 = .ok (.iload 5, 2) := by decide +kernel
theorem dX2_agreement_35 : decode cX2_agreement 35 = .ok (.invokevirtual 77, 3) := by decide +kernel
theorem dX2_agreement_38 : decode cX2_agreement 38 = .ok (.istore 6, 2) := by decide +kernel
theorem dX2_agreement_40 : decode cX2_agreement 40 = .ok (.aload_n 0, 1) := by decide +kernel
theorem dX2_agreement_41 : decode cX2_agreement 41 = .ok (.iload_n 2, 1) := by decide +kernel
theorem dX2_agreement_42 : decode cX2_agreement 42 = .ok (.iload 5, 2) := by decide +kernel
theorem dX2_agreement_44 : decode cX2_agreement 44 = .ok (.invokevirtual 77, 3) := by decide +kernel
theorem dX2_agreement_47 : decode cX2_agreement 47 = .ok (.istore 7, 2) := by decide +kernel
theorem dX2_agreement_49 : decode cX2_agreement 49 = .ok (.iload 6, 2) := by decide +kernel
theorem dX2_agreement_51 : decode cX2_agreement 51 = .ok (.ifCond .eq 28, 3) := by decide +kernel
theorem dX2_agreement_54 : decode cX2_agreement 54 = .ok (.iload 7, 2) := by decide +kernel
theorem dX2_agreement_56 : decode cX2_agreement 56 = .ok (.ifCond .eq 23, 3) := by decide +kernel
theorem dX2_agreement_59 : decode cX2_agreement 59 = .ok (.iinc 3 1, 3) := by decide +kernel
theorem dX2_agreement_62 : decode cX2_agreement 62 = .ok (.iload 4, 2) := by decide +kernel
theorem dX2_agreement_64 : decode cX2_agreement 64 = .ok (.iload 6, 2) := by decide +kernel
theorem dX2_agreement_66 : decode cX2_agreement 66 = .ok (.iload 7, 2) := by decide +kernel
theorem dX2_agreement_68 : decode cX2_agreement 68 = .ok (.if_icmp .ne 7, 3) := by decide +kernel
theorem dX2_agreement_71 : decode cX2_agreement 71 = .ok (.iconst 1, 1) := by decide +kernel
theorem dX2_agreement_72 : decode cX2_agreement 72 = .ok (.goto 4, 3) := by decide +kernel
theorem dX2_agreement_75 : decode cX2_agreement 75 = .ok (.iconst 0, 1) := by decide +kernel
theorem dX2_agreement_76 : decode cX2_agreement 76 = .ok (.iadd, 1) := by decide +kernel
theorem dX2_agreement_77 : decode cX2_agreement 77 = .ok (.istore 4, 2) := by decide +kernel
theorem dX2_agreement_79 : decode cX2_agreement 79 = .ok (.iinc 5 1, 3) := by decide +kernel
theorem dX2_agreement_82 : decode cX2_agreement 82 = .ok (.goto (-58), 3) := by decide +kernel
theorem dX2_agreement_85 : decode cX2_agreement 85 = .ok (.iload_n 3, 1) := by decide +kernel
theorem dX2_agreement_86 : decode cX2_agreement 86 = .ok (.ifCond .ne 8, 3) := by decide +kernel
theorem dX2_agreement_89 : decode cX2_agreement 89 = .ok (.bipush 100, 2) := by decide +kernel
theorem dX2_agreement_91 : decode cX2_agreement 91 = .ok (.goto 10, 3) := by decide +kernel
theorem dX2_agreement_94 : decode cX2_agreement 94 = .ok (.bipush 100, 2) := by decide +kernel
theorem dX2_agreement_96 : decode cX2_agreement 96 = .ok (.iload 4, 2) := by decide +kernel
theorem dX2_agreement_98 : decode cX2_agreement 98 = .ok (.imul, 1) := by decide +kernel
theorem dX2_agreement_99 : decode cX2_agreement 99 = .ok (.iload_n 3, 1) := by decide +kernel
theorem dX2_agreement_100 : decode cX2_agreement 100 = .ok (.idiv, 1) := by decide +kernel
theorem dX2_agreement_101 : decode cX2_agreement 101 = .ok (.ireturn, 1) := by decide +kernel
theorem dX2_paperForChosen_0 : decode cX2_paperForChosen 0 = .ok (.iconst 0, 1) := by decide +kernel
theorem dX2_paperForChosen_1 : decode cX2_paperForChosen 1 = .ok (.istore_n 1, 1) := by decide +kernel
theorem dX2_paperForChosen_2 : decode cX2_paperForChosen 2 = .ok (.iconst 0, 1) := by decide +kernel
theorem dX2_paperForChosen_3 : decode cX2_paperForChosen 3 = .ok (.istore_n 2, 1) := by decide +kernel
theorem dX2_paperForChosen_4 : decode cX2_paperForChosen 4 = .ok (.iload_n 2, 1) := by decide +kernel
theorem dX2_paperForChosen_5 : decode cX2_paperForChosen 5 = .ok (.bipush 30, 2) := by decide +kernel
theorem dX2_paperForChosen_7 : decode cX2_paperForChosen 7 = .ok (.if_icmp .ge 31, 3) := by decide +kernel
theorem dX2_paperForChosen_10 : decode cX2_paperForChosen 10 = .ok (.aload_n 0, 1) := by decide +kernel
theorem dX2_paperForChosen_11 : decode cX2_paperForChosen 11 = .ok (.getfield 15, 3) := by decide +kernel
theorem dX2_paperForChosen_14 : decode cX2_paperForChosen 14 = .ok (.iload_n 2, 1) := by decide +kernel
theorem dX2_paperForChosen_15 : decode cX2_paperForChosen 15 = .ok (.iaload, 1) := by decide +kernel
theorem dX2_paperForChosen_16 : decode cX2_paperForChosen 16 = .ok (.iconst 1, 1) := by decide +kernel
theorem dX2_paperForChosen_17 : decode cX2_paperForChosen 17 = .ok (.if_icmp .ne 15, 3) := by decide +kernel
theorem dX2_paperForChosen_20 : decode cX2_paperForChosen 20 = .ok (.iload_n 1, 1) := by decide +kernel
theorem dX2_paperForChosen_21 : decode cX2_paperForChosen 21 = .ok (.aload_n 0, 1) := by decide +kernel
theorem dX2_paperForChosen_22 : decode cX2_paperForChosen 22 = .ok (.getfield 27, 3) := by decide +kernel
theorem dX2_paperForChosen_25 : decode cX2_paperForChosen 25 = .ok (.iload_n 2, 1) := by decide +kernel
theorem dX2_paperForChosen_26 : decode cX2_paperForChosen 26 = .ok (.iaload, 1) := by decide +kernel
theorem dX2_paperForChosen_27 : decode cX2_paperForChosen 27 = .ok (.invokestatic 97, 3) := by decide +kernel
theorem dX2_paperForChosen_30 : decode cX2_paperForChosen 30 = .ok (.iadd, 1) := by decide +kernel
theorem dX2_paperForChosen_31 : decode cX2_paperForChosen 31 = .ok (.istore_n 1, 1) := by decide +kernel
theorem dX2_paperForChosen_32 : decode cX2_paperForChosen 32 = .ok (.iinc 2 1, 3) := by decide +kernel
theorem dX2_paperForChosen_35 : decode cX2_paperForChosen 35 = .ok (.goto (-31), 3) := by decide +kernel
theorem dX2_paperForChosen_38 : decode cX2_paperForChosen 38 = .ok (.iload_n 1, 1) := by decide +kernel
theorem dX2_paperForChosen_39 : decode cX2_paperForChosen 39 = .ok (.ireturn, 1) := by decide +kernel
theorem dX2_settle_0 : decode cX2_settle 0 = .ok (.aload_n 0, 1) := by decide +kernel
theorem dX2_settle_1 : decode cX2_settle 1 = .ok (.iload_n 1, 1) := by decide +kernel
theorem dX2_settle_2 : decode cX2_settle 2 = .ok (.invokevirtual 123, 3) := by decide +kernel
theorem dX2_settle_5 : decode cX2_settle 5 = .ok (.istore_n 2, 1) := by decide +kernel
theorem dX2_settle_6 : decode cX2_settle 6 = .ok (.iload_n 2, 1) := by decide +kernel
theorem dX2_settle_7 : decode cX2_settle 7 = .ok (.iconst 1, 1) := by decide +kernel
theorem dX2_settle_8 : decode cX2_settle 8 = .ok (.if_icmp .ne 8, 3) := by decide +kernel
theorem dX2_settle_11 : decode cX2_settle 11 = .ok (.aload_n 0, 1) := by decide +kernel
theorem dX2_settle_12 : decode cX2_settle 12 = .ok (.iload_n 1, 1) := by decide +kernel
theorem dX2_settle_13 : decode cX2_settle 13 = .ok (.invokevirtual 126, 3) := by decide +kernel
theorem dX2_settle_16 : decode cX2_settle 16 = .ok (.aload_n 0, 1) := by decide +kernel
theorem dX2_settle_17 : decode cX2_settle 17 = .ok (.getfield 24, 3) := by decide +kernel
theorem dX2_settle_20 : decode cX2_settle 20 = .ok (.iload_n 1, 1) := by decide +kernel
theorem dX2_settle_21 : decode cX2_settle 21 = .ok (.aload_n 0, 1) := by decide +kernel
theorem dX2_settle_22 : decode cX2_settle 22 = .ok (.iload_n 1, 1) := by decide +kernel
theorem dX2_settle_23 : decode cX2_settle 23 = .ok (.invokevirtual 130, 3) := by decide +kernel
theorem dX2_settle_26 : decode cX2_settle 26 = .ok (.iastore, 1) := by decide +kernel
theorem dX2_settle_27 : decode cX2_settle 27 = .ok (.aload_n 0, 1) := by decide +kernel
theorem dX2_settle_28 : decode cX2_settle 28 = .ok (.getfield 15, 3) := by decide +kernel
theorem dX2_settle_31 : decode cX2_settle 31 = .ok (.iload_n 1, 1) := by decide +kernel
theorem dX2_settle_32 : decode cX2_settle 32 = .ok (.iload_n 2, 1) := by decide +kernel
theorem dX2_settle_33 : decode cX2_settle 33 = .ok (.iastore, 1) := by decide +kernel
theorem dX2_settle_34 : decode cX2_settle 34 = .ok (.aload_n 0, 1) := by decide +kernel
theorem dX2_settle_35 : decode cX2_settle 35 = .ok (.getfield 18, 3) := by decide +kernel
theorem dX2_settle_38 : decode cX2_settle 38 = .ok (.iload_n 1, 1) := by decide +kernel
theorem dX2_settle_39 : decode cX2_settle 39 = .ok (.iconst 0, 1) := by decide +kernel
theorem dX2_settle_40 : decode cX2_settle 40 = .ok (.iastore, 1) := by decide +kernel
theorem dX2_settle_41 : decode cX2_settle 41 = .ok (.aload_n 0, 1) := by decide +kernel
theorem dX2_settle_42 : decode cX2_settle 42 = .ok (.getfield 21, 3) := by decide +kernel
theorem dX2_settle_45 : decode cX2_settle 45 = .ok (.iload_n 1, 1) := by decide +kernel
theorem dX2_settle_46 : decode cX2_settle 46 = .ok (.iconst 0, 1) := by decide +kernel
theorem dX2_settle_47 : decode cX2_settle 47 = .ok (.iastore, 1) := by decide +kernel
theorem dX2_settle_48 : decode cX2_settle 48 = .ok (.iload_n 2, 1) := by decide +kernel
theorem dX2_settle_49 : decode cX2_settle 49 = .ok (.ireturn, 1) := by decide +kernel
theorem dX2_noteChoice_0 : decode cX2_noteChoice 0 = .ok (.aload_n 0, 1) := by decide +kernel
theorem dX2_noteChoice_1 : decode cX2_noteChoice 1 = .ok (.getfield 27, 3) := by decide +kernel
theorem dX2_noteChoice_4 : decode cX2_noteChoice 4 = .ok (.iload_n 1, 1) := by decide +kernel
theorem dX2_noteChoice_5 : decode cX2_noteChoice 5 = .ok (.aload_n 0, 1) := by decide +kernel
theorem dX2_noteChoice_6 : decode cX2_noteChoice 6 = .ok (.getfield 18, 3) := by decide +kernel
theorem dX2_noteChoice_9 : decode cX2_noteChoice 9 = .ok (.iload_n 1, 1) := by decide +kernel
theorem dX2_noteChoice_10 : decode cX2_noteChoice 10 = .ok (.iaload, 1) := by decide +kernel
theorem dX2_noteChoice_11 : decode cX2_noteChoice 11 = .ok (.invokestatic 133, 3) := by decide +kernel
theorem dX2_noteChoice_14 : decode cX2_noteChoice 14 = .ok (.iastore, 1) := by decide +kernel
theorem dX2_noteChoice_15 : decode cX2_noteChoice 15 = .ok (.aload_n 0, 1) := by decide +kernel
theorem dX2_noteChoice_16 : decode cX2_noteChoice 16 = .ok (.getfield 30, 3) := by decide +kernel
theorem dX2_noteChoice_19 : decode cX2_noteChoice 19 = .ok (.iload_n 1, 1) := by decide +kernel
theorem dX2_noteChoice_20 : decode cX2_noteChoice 20 = .ok (.aload_n 0, 1) := by decide +kernel
theorem dX2_noteChoice_21 : decode cX2_noteChoice 21 = .ok (.getfield 48, 3) := by decide +kernel
theorem dX2_noteChoice_24 : decode cX2_noteChoice 24 = .ok (.iastore, 1) := by decide +kernel
theorem dX2_noteChoice_25 : decode cX2_noteChoice 25 = .ok (.iconst 0, 1) := by decide +kernel
theorem dX2_noteChoice_26 : decode cX2_noteChoice 26 = .ok (.istore_n 2, 1) := by decide +kernel
theorem dX2_noteChoice_27 : decode cX2_noteChoice 27 = .ok (.iload_n 2, 1) := by decide +kernel
theorem dX2_noteChoice_28 : decode cX2_noteChoice 28 = .ok (.iconst 3, 1) := by decide +kernel
theorem dX2_noteChoice_29 : decode cX2_noteChoice 29 = .ok (.if_icmp .ge 29, 3) := by decide +kernel
theorem dX2_noteChoice_32 : decode cX2_noteChoice 32 = .ok (.aload_n 0, 1) := by decide +kernel
theorem dX2_noteChoice_33 : decode cX2_noteChoice 33 = .ok (.iload_n 2, 1) := by decide +kernel
theorem dX2_noteChoice_34 : decode cX2_noteChoice 34 = .ok (.iload_n 1, 1) := by decide +kernel
theorem dX2_noteChoice_35 : decode cX2_noteChoice 35 = .ok (.invokevirtual 77, 3) := by decide +kernel
theorem dX2_noteChoice_38 : decode cX2_noteChoice 38 = .ok (.iconst 1, 1) := by decide +kernel
theorem dX2_noteChoice_39 : decode cX2_noteChoice 39 = .ok (.if_icmp .ne 13, 3) := by decide +kernel
theorem dX2_noteChoice_42 : decode cX2_noteChoice 42 = .ok (.aload_n 0, 1) := by decide +kernel
theorem dX2_noteChoice_43 : decode cX2_noteChoice 43 = .ok (.getfield 42, 3) := by decide +kernel
theorem dX2_noteChoice_46 : decode cX2_noteChoice 46 = .ok (.iload_n 2, 1) := by decide +kernel
theorem dX2_noteChoice_47 : decode cX2_noteChoice 47 = .ok (.dup2, 1) := by decide +kernel
theorem dX2_noteChoice_48 : decode cX2_noteChoice 48 = .ok (.iaload, 1) := by decide +kernel
theorem dX2_noteChoice_49 : decode cX2_noteChoice 49 = .ok (.iconst 1, 1) := by decide +kernel
theorem dX2_noteChoice_50 : decode cX2_noteChoice 50 = .ok (.iadd, 1) := by decide +kernel
theorem dX2_noteChoice_51 : decode cX2_noteChoice 51 = .ok (.iastore, 1) := by decide +kernel
theorem dX2_noteChoice_52 : decode cX2_noteChoice 52 = .ok (.iinc 2 1, 3) := by decide +kernel
theorem dX2_noteChoice_55 : decode cX2_noteChoice 55 = .ok (.goto (-28), 3) := by decide +kernel
theorem dX2_noteChoice_58 : decode cX2_noteChoice 58 = .ok (.return_, 1) := by decide +kernel
theorem dX2_afterRound_0 : decode cX2_afterRound 0 = .ok (.aload_n 0, 1) := by decide +kernel
theorem dX2_afterRound_1 : decode cX2_afterRound 1 = .ok (.getfield 21, 3) := by decide +kernel
theorem dX2_afterRound_4 : decode cX2_afterRound 4 = .ok (.iload_n 1, 1) := by decide +kernel
theorem dX2_afterRound_5 : decode cX2_afterRound 5 = .ok (.iaload, 1) := by decide +kernel
theorem dX2_afterRound_6 : decode cX2_afterRound 6 = .ok (.invokestatic 133, 3) := by decide +kernel
theorem dX2_afterRound_9 : decode cX2_afterRound 9 = .ok (.istore_n 2, 1) := by decide +kernel
theorem dX2_afterRound_10 : decode cX2_afterRound 10 = .ok (.iload_n 2, 1) := by decide +kernel
theorem dX2_afterRound_11 : decode cX2_afterRound 11 = .ok (.iconst 2, 1) := by decide +kernel
theorem dX2_afterRound_12 : decode cX2_afterRound 12 = .ok (.if_icmp .lt 5, 3) := by decide +kernel
theorem dX2_afterRound_15 : decode cX2_afterRound 15 = .ok (.iconst 2, 1) := by decide +kernel
theorem dX2_afterRound_16 : decode cX2_afterRound 16 = .ok (.ireturn, 1) := by decide +kernel
theorem dX2_afterRound_17 : decode cX2_afterRound 17 = .ok (.iload_n 2, 1) := by decide +kernel
theorem dX2_afterRound_18 : decode cX2_afterRound 18 = .ok (.iconst 1, 1) := by decide +kernel
theorem dX2_afterRound_19 : decode cX2_afterRound 19 = .ok (.if_icmp .ne 5, 3) := by decide +kernel
theorem dX2_afterRound_22 : decode cX2_afterRound 22 = .ok (.iconst 0, 1) := by decide +kernel
theorem dX2_afterRound_23 : decode cX2_afterRound 23 = .ok (.ireturn, 1) := by decide +kernel
theorem dX2_afterRound_24 : decode cX2_afterRound 24 = .ok (.aload_n 0, 1) := by decide +kernel
theorem dX2_afterRound_25 : decode cX2_afterRound 25 = .ok (.aload_n 0, 1) := by decide +kernel
theorem dX2_afterRound_26 : decode cX2_afterRound 26 = .ok (.getfield 18, 3) := by decide +kernel
theorem dX2_afterRound_29 : decode cX2_afterRound 29 = .ok (.iload_n 1, 1) := by decide +kernel
theorem dX2_afterRound_30 : decode cX2_afterRound 30 = .ok (.iaload, 1) := by decide +kernel
theorem dX2_afterRound_31 : decode cX2_afterRound 31 = .ok (.aload_n 0, 1) := by decide +kernel
theorem dX2_afterRound_32 : decode cX2_afterRound 32 = .ok (.getfield 21, 3) := by decide +kernel
theorem dX2_afterRound_35 : decode cX2_afterRound 35 = .ok (.iload_n 1, 1) := by decide +kernel
theorem dX2_afterRound_36 : decode cX2_afterRound 36 = .ok (.iaload, 1) := by decide +kernel
theorem dX2_afterRound_37 : decode cX2_afterRound 37 = .ok (.invokevirtual 113, 3) := by decide +kernel
theorem dX2_afterRound_40 : decode cX2_afterRound 40 = .ok (.ifCond .eq 5, 3) := by decide +kernel
theorem dX2_afterRound_43 : decode cX2_afterRound 43 = .ok (.iconst 1, 1) := by decide +kernel
theorem dX2_afterRound_44 : decode cX2_afterRound 44 = .ok (.ireturn, 1) := by decide +kernel
theorem dX2_afterRound_45 : decode cX2_afterRound 45 = .ok (.aload_n 0, 1) := by decide +kernel
theorem dX2_afterRound_46 : decode cX2_afterRound 46 = .ok (.iload_n 1, 1) := by decide +kernel
theorem dX2_afterRound_47 : decode cX2_afterRound 47 = .ok (.invokevirtual 130, 3) := by decide +kernel
theorem dX2_afterRound_50 : decode cX2_afterRound 50 = .ok (.aload_n 0, 1) := by decide +kernel
theorem dX2_afterRound_51 : decode cX2_afterRound 51 = .ok (.getfield 11, 3) := by decide +kernel
theorem dX2_afterRound_54 : decode cX2_afterRound 54 = .ok (.iconst 3, 1) := by decide +kernel
theorem dX2_afterRound_55 : decode cX2_afterRound 55 = .ok (.iaload, 1) := by decide +kernel
theorem dX2_afterRound_56 : decode cX2_afterRound 56 = .ok (.if_icmp .lt 7, 3) := by decide +kernel
theorem dX2_afterRound_59 : decode cX2_afterRound 59 = .ok (.iconst 2, 1) := by decide +kernel
theorem dX2_afterRound_60 : decode cX2_afterRound 60 = .ok (.goto 4, 3) := by decide +kernel
theorem dX2_afterRound_63 : decode cX2_afterRound 63 = .ok (.iconst 0, 1) := by decide +kernel
theorem dX2_afterRound_64 : decode cX2_afterRound 64 = .ok (.ireturn, 1) := by decide +kernel
theorem dX2_dullAfterRound_0 : decode cX2_dullAfterRound 0 = .ok (.aload_n 0, 1) := by decide +kernel
theorem dX2_dullAfterRound_1 : decode cX2_dullAfterRound 1 = .ok (.getfield 18, 3) := by decide +kernel
theorem dX2_dullAfterRound_4 : decode cX2_dullAfterRound 4 = .ok (.iload_n 1, 1) := by decide +kernel
theorem dX2_dullAfterRound_5 : decode cX2_dullAfterRound 5 = .ok (.iaload, 1) := by decide +kernel
theorem dX2_dullAfterRound_6 : decode cX2_dullAfterRound 6 = .ok (.ifCond .ne 16, 3) := by decide +kernel
theorem dX2_dullAfterRound_9 : decode cX2_dullAfterRound 9 = .ok (.aload_n 0, 1) := by decide +kernel
theorem dX2_dullAfterRound_10 : decode cX2_dullAfterRound 10 = .ok (.getfield 21, 3) := by decide +kernel
theorem dX2_dullAfterRound_13 : decode cX2_dullAfterRound 13 = .ok (.iload_n 1, 1) := by decide +kernel
theorem dX2_dullAfterRound_14 : decode cX2_dullAfterRound 14 = .ok (.iaload, 1) := by decide +kernel
theorem dX2_dullAfterRound_15 : decode cX2_dullAfterRound 15 = .ok (.ifCond .ne 7, 3) := by decide +kernel
theorem dX2_dullAfterRound_18 : decode cX2_dullAfterRound 18 = .ok (.iconst 1, 1) := by decide +kernel
theorem dX2_dullAfterRound_19 : decode cX2_dullAfterRound 19 = .ok (.goto 4, 3) := by decide +kernel
theorem dX2_dullAfterRound_22 : decode cX2_dullAfterRound 22 = .ok (.iconst 0, 1) := by decide +kernel
theorem dX2_dullAfterRound_23 : decode cX2_dullAfterRound 23 = .ok (.istore_n 2, 1) := by decide +kernel
theorem dX2_dullAfterRound_24 : decode cX2_dullAfterRound 24 = .ok (.iload_n 2, 1) := by decide +kernel
theorem dX2_dullAfterRound_25 : decode cX2_dullAfterRound 25 = .ok (.ifCond .eq 14, 3) := by decide +kernel
theorem dX2_dullAfterRound_28 : decode cX2_dullAfterRound 28 = .ok (.aload_n 0, 1) := by decide +kernel
theorem dX2_dullAfterRound_29 : decode cX2_dullAfterRound 29 = .ok (.getfield 24, 3) := by decide +kernel
theorem dX2_dullAfterRound_32 : decode cX2_dullAfterRound 32 = .ok (.iload_n 1, 1) := by decide +kernel
theorem dX2_dullAfterRound_33 : decode cX2_dullAfterRound 33 = .ok (.iaload, 1) := by decide +kernel
theorem dX2_dullAfterRound_34 : decode cX2_dullAfterRound 34 = .ok (.iconst 1, 1) := by decide +kernel
theorem dX2_dullAfterRound_35 : decode cX2_dullAfterRound 35 = .ok (.iadd, 1) := by decide +kernel
theorem dX2_dullAfterRound_36 : decode cX2_dullAfterRound 36 = .ok (.goto 4, 3) := by decide +kernel
theorem dX2_dullAfterRound_39 : decode cX2_dullAfterRound 39 = .ok (.iconst 0, 1) := by decide +kernel
theorem dX2_dullAfterRound_40 : decode cX2_dullAfterRound 40 = .ok (.ireturn, 1) := by decide +kernel
theorem dX2_isWanted_0 : decode cX2_isWanted 0 = .ok (.iload_n 2, 1) := by decide +kernel
theorem dX2_isWanted_1 : decode cX2_isWanted 1 = .ok (.ifCond .ne 20, 3) := by decide +kernel
theorem dX2_isWanted_4 : decode cX2_isWanted 4 = .ok (.iload_n 1, 1) := by decide +kernel
theorem dX2_isWanted_5 : decode cX2_isWanted 5 = .ok (.invokestatic 133, 3) := by decide +kernel
theorem dX2_isWanted_8 : decode cX2_isWanted 8 = .ok (.aload_n 0, 1) := by decide +kernel
theorem dX2_isWanted_9 : decode cX2_isWanted 9 = .ok (.getfield 11, 3) := by decide +kernel
theorem dX2_isWanted_12 : decode cX2_isWanted 12 = .ok (.iconst 0, 1) := by decide +kernel
theorem dX2_isWanted_13 : decode cX2_isWanted 13 = .ok (.iaload, 1) := by decide +kernel
theorem dX2_isWanted_14 : decode cX2_isWanted 14 = .ok (.if_icmp .lt 7, 3) := by decide +kernel
theorem dX2_isWanted_17 : decode cX2_isWanted 17 = .ok (.iconst 1, 1) := by decide +kernel
theorem dX2_isWanted_18 : decode cX2_isWanted 18 = .ok (.goto 4, 3) := by decide +kernel
theorem dX2_isWanted_21 : decode cX2_isWanted 21 = .ok (.iconst 0, 1) := by decide +kernel
theorem dX2_isWanted_22 : decode cX2_isWanted 22 = .ok (.ireturn, 1) := by decide +kernel
theorem dX2_markDecides_0 : decode cX2_markDecides 0 = .ok (.aload_n 0, 1) := by decide +kernel
theorem dX2_markDecides_1 : decode cX2_markDecides 1 = .ok (.aload_n 0, 1) := by decide +kernel
theorem dX2_markDecides_2 : decode cX2_markDecides 2 = .ok (.getfield 18, 3) := by decide +kernel
theorem dX2_markDecides_5 : decode cX2_markDecides 5 = .ok (.iload_n 2, 1) := by decide +kernel
theorem dX2_markDecides_6 : decode cX2_markDecides 6 = .ok (.iaload, 1) := by decide +kernel
theorem dX2_markDecides_7 : decode cX2_markDecides 7 = .ok (.aload_n 0, 1) := by decide +kernel
theorem dX2_markDecides_8 : decode cX2_markDecides 8 = .ok (.getfield 21, 3) := by decide +kernel
theorem dX2_markDecides_11 : decode cX2_markDecides 11 = .ok (.iload_n 2, 1) := by decide +kernel
theorem dX2_markDecides_12 : decode cX2_markDecides 12 = .ok (.iaload, 1) := by decide +kernel
theorem dX2_markDecides_13 : decode cX2_markDecides 13 = .ok (.invokevirtual 113, 3) := by decide +kernel
theorem dX2_markDecides_16 : decode cX2_markDecides 16 = .ok (.istore_n 3, 1) := by decide +kernel
theorem dX2_markDecides_17 : decode cX2_markDecides 17 = .ok (.iconst 0, 1) := by decide +kernel
theorem dX2_markDecides_18 : decode cX2_markDecides 18 = .ok (.istore 4, 2) := by decide +kernel
theorem dX2_markDecides_20 : decode cX2_markDecides 20 = .ok (.iload 4, 2) := by decide +kernel
theorem dX2_markDecides_22 : decode cX2_markDecides 22 = .ok (.iconst 2, 1) := by decide +kernel
theorem dX2_markDecides_23 : decode cX2_markDecides 23 = .ok (.if_icmp .gt 69, 3) := by decide +kernel
theorem dX2_markDecides_26 : decode cX2_markDecides 26 = .ok (.aload_n 0, 1) := by decide +kernel
theorem dX2_markDecides_27 : decode cX2_markDecides 27 = .ok (.getfield 18, 3) := by decide +kernel
theorem dX2_markDecides_30 : decode cX2_markDecides 30 = .ok (.iload_n 2, 1) := by decide +kernel
theorem dX2_markDecides_31 : decode cX2_markDecides 31 = .ok (.iaload, 1) := by decide +kernel
theorem dX2_markDecides_32 : decode cX2_markDecides 32 = .ok (.iload_n 1, 1) := by decide +kernel
theorem dX2_markDecides_33 : decode cX2_markDecides 33 = .ok (.iload 4, 2) := by decide +kernel
theorem dX2_markDecides_35 : decode cX2_markDecides 35 = .ok (.iconst 1, 1) := by decide +kernel
theorem dX2_markDecides_36 : decode cX2_markDecides 36 = .ok (.if_icmp .ne 7, 3) := by decide +kernel
theorem dX2_markDecides_39 : decode cX2_markDecides 39 = .ok (.iconst 1, 1) := by decide +kernel
theorem dX2_markDecides_40 : decode cX2_markDecides 40 = .ok (.goto 4, 3) := by decide +kernel
theorem dX2_markDecides_43 : decode cX2_markDecides 43 = .ok (.iconst 0, 1) := by decide +kernel
theorem dX2_markDecides_44 : decode cX2_markDecides 44 = .ok (.invokestatic 85, 3) := by decide +kernel
theorem dX2_markDecides_47 : decode cX2_markDecides 47 = .ok (.istore 5, 2) := by decide +kernel
theorem dX2_markDecides_49 : decode cX2_markDecides 49 = .ok (.aload_n 0, 1) := by decide +kernel
theorem dX2_markDecides_50 : decode cX2_markDecides 50 = .ok (.getfield 21, 3) := by decide +kernel
theorem dX2_markDecides_53 : decode cX2_markDecides 53 = .ok (.iload_n 2, 1) := by decide +kernel
theorem dX2_markDecides_54 : decode cX2_markDecides 54 = .ok (.iaload, 1) := by decide +kernel
theorem dX2_markDecides_55 : decode cX2_markDecides 55 = .ok (.iload_n 1, 1) := by decide +kernel
theorem dX2_markDecides_56 : decode cX2_markDecides 56 = .ok (.iload 4, 2) := by decide +kernel
theorem dX2_markDecides_58 : decode cX2_markDecides 58 = .ok (.iconst 2, 1) := by decide +kernel
theorem dX2_markDecides_59 : decode cX2_markDecides 59 = .ok (.if_icmp .ne 7, 3) := by decide +kernel
theorem dX2_markDecides_62 : decode cX2_markDecides 62 = .ok (.iconst 1, 1) := by decide +kernel
theorem dX2_markDecides_63 : decode cX2_markDecides 63 = .ok (.goto 4, 3) := by decide +kernel
theorem dX2_markDecides_66 : decode cX2_markDecides 66 = .ok (.iconst 0, 1) := by decide +kernel
theorem dX2_markDecides_67 : decode cX2_markDecides 67 = .ok (.invokestatic 85, 3) := by decide +kernel
theorem dX2_markDecides_70 : decode cX2_markDecides 70 = .ok (.istore 6, 2) := by decide +kernel
