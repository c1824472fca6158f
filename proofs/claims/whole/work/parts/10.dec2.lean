theorem dX10_has_3 : decode cX10_has 3 = .ok (.iconst 1, 1) := by decide +kernel
theorem dX10_has_4 : decode cX10_has 4 = .ok (.iand, 1) := by decide +kernel
theorem dX10_has_5 : decode cX10_has 5 = .ok (.ifCond .eq 7, 3) := by decide +kernel
theorem dX10_has_8 : decode cX10_has 8 = .ok (.iconst 1, 1) := by decide +kernel
theorem dX10_has_9 : decode cX10_has 9 = .ok (.goto 4, 3) := by decide +kernel
theorem dX10_has_12 : decode cX10_has 12 = .ok (.iconst 0, 1) := by decide +kernel
theorem dX10_has_13 : decode cX10_has 13 = .ok (.ireturn, 1) := by decide +kernel
theorem dX10_lowest_0 : decode cX10_lowest 0 = .ok (.lload_n 0, 1) := by decide +kernel
theorem dX10_lowest_1 : decode cX10_lowest 1 = .ok (.lstore 5, 2) := by decide +kernel
theorem dX10_lowest_3 : decode cX10_lowest 3 = .ok (.lload_n 2, 1) := by decide +kernel
theorem dX10_lowest_4 : decode cX10_lowest 4 = .ok (.lstore 7, 2) := by decide +kernel
theorem dX10_lowest_6 : decode cX10_lowest 6 = .ok (.iconst 0, 1) := by decide +kernel
theorem dX10_lowest_7 : decode cX10_lowest 7 = .ok (.istore 9, 2) := by decide +kernel
theorem dX10_lowest_9 : decode cX10_lowest 9 = .ok (.iload 9, 2) := by decide +kernel
theorem dX10_lowest_11 : decode cX10_lowest 11 = .ok (.sipush 200, 3) := by decide +kernel
theorem dX10_lowest_14 : decode cX10_lowest 14 = .ok (.if_icmp .ge 31, 3) := by decide +kernel
theorem dX10_lowest_17 : decode cX10_lowest 17 = .ok (.lload 7, 2) := by decide +kernel
theorem dX10_lowest_19 : decode cX10_lowest 19 = .ok (.lconst 0, 1) := by decide +kernel
theorem dX10_lowest_20 : decode cX10_lowest 20 = .ok (.lcmp, 1) := by decide +kernel
theorem dX10_lowest_21 : decode cX10_lowest 21 = .ok (.ifCond .eq 24, 3) := by decide +kernel
theorem dX10_lowest_24 : decode cX10_lowest 24 = .ok (.lload 5, 2) := by decide +kernel
theorem dX10_lowest_26 : decode cX10_lowest 26 = .ok (.lload 7, 2) := by decide +kernel
theorem dX10_lowest_28 : decode cX10_lowest 28 = .ok (.lrem, 1) := by decide +kernel
theorem dX10_lowest_29 : decode cX10_lowest 29 = .ok (.lstore 10, 2) := by decide +kernel
theorem dX10_lowest_31 : decode cX10_lowest 31 = .ok (.lload 7, 2) := by decide +kernel
theorem dX10_lowest_33 : decode cX10_lowest 33 = .ok (.lstore 5, 2) := by decide +kernel
theorem dX10_lowest_35 : decode cX10_lowest 35 = .ok (.lload 10, 2) := by decide +kernel
theorem dX10_lowest_37 : decode cX10_lowest 37 = .ok (.lstore 7, 2) := by decide +kernel
theorem dX10_lowest_39 : decode cX10_lowest 39 = .ok (.iinc 9 1, 3) := by decide +kernel
theorem dX10_lowest_42 : decode cX10_lowest 42 = .ok (.goto (-33), 3) := by decide +kernel
theorem dX10_lowest_45 : decode cX10_lowest 45 = .ok (.lload 5, 2) := by decide +kernel
theorem dX10_lowest_47 : decode cX10_lowest 47 = .ok (.lconst 0, 1) := by decide +kernel
theorem dX10_lowest_48 : decode cX10_lowest 48 = .ok (.lcmp, 1) := by decide +kernel
theorem dX10_lowest_49 : decode cX10_lowest 49 = .ok (.ifCond .ne 5, 3) := by decide +kernel
theorem dX10_lowest_52 : decode cX10_lowest 52 = .ok (.lconst 0, 1) := by decide +kernel
theorem dX10_lowest_53 : decode cX10_lowest 53 = .ok (.lreturn, 1) := by decide +kernel
theorem dX10_lowest_54 : decode cX10_lowest 54 = .ok (.iload 4, 2) := by decide +kernel
theorem dX10_lowest_56 : decode cX10_lowest 56 = .ok (.ifCond .ne 7, 3) := by decide +kernel
theorem dX10_lowest_59 : decode cX10_lowest 59 = .ok (.lload_n 0, 1) := by decide +kernel
theorem dX10_lowest_60 : decode cX10_lowest 60 = .ok (.goto 4, 3) := by decide +kernel
theorem dX10_lowest_63 : decode cX10_lowest 63 = .ok (.lload_n 2, 1) := by decide +kernel
theorem dX10_lowest_64 : decode cX10_lowest 64 = .ok (.lload 5, 2) := by decide +kernel
theorem dX10_lowest_66 : decode cX10_lowest 66 = .ok (.ldiv, 1) := by decide +kernel
theorem dX10_lowest_67 : decode cX10_lowest 67 = .ok (.lreturn, 1) := by decide +kernel
theorem dX11_init_0 : decode cX11_init 0 = .ok (.aload_n 0, 1) := by decide +kernel
theorem dX11_init_1 : decode cX11_init 1 = .ok (.invokespecial 1, 3) := by decide +kernel
theorem dX11_init_4 : decode cX11_init 4 = .ok (.aload_n 0, 1) := by decide +kernel
theorem dX11_init_5 : decode cX11_init 5 = .ok (.sipush 200, 3) := by decide +kernel
theorem dX11_init_8 : decode cX11_init 8 = .ok (.newarray .int, 2) := by decide +kernel
theorem dX11_init_10 : decode cX11_init 10 = .ok (.putfield 7, 3) := by decide +kernel
theorem dX11_init_13 : decode cX11_init 13 = .ok (.aload_n 0, 1) := by decide +kernel
theorem dX11_init_14 : decode cX11_init 14 = .ok (.bipush 54, 2) := by decide +kernel
theorem dX11_init_16 : decode cX11_init 16 = .ok (.newarray .int, 2) := by decide +kernel
theorem dX11_init_18 : decode cX11_init 18 = .ok (.putfield 13, 3) := by decide +kernel
theorem dX11_init_21 : decode cX11_init 21 = .ok (.aload_n 0, 1) := by decide +kernel
theorem dX11_init_22 : decode cX11_init 22 = .ok (.iconst 1, 1) := by decide +kernel
theorem dX11_init_23 : decode cX11_init 23 = .ok (.putfield 16, 3) := by decide +kernel
theorem dX11_init_26 : decode cX11_init 26 = .ok (.aload_n 0, 1) := by decide +kernel
theorem dX11_init_27 : decode cX11_init 27 = .ok (.bipush 12, 2) := by decide +kernel
theorem dX11_init_29 : decode cX11_init 29 = .ok (.newarray .int, 2) := by decide +kernel
theorem dX11_init_31 : decode cX11_init 31 = .ok (.dup, 1) := by decide +kernel
theorem dX11_init_32 : decode cX11_init 32 = .ok (.iconst 0, 1) := by decide +kernel
theorem dX11_init_33 : decode cX11_init 33 = .ok (.iconst (-1), 1) := by decide +kernel
theorem dX11_init_34 : decode cX11_init 34 = .ok (.iastore, 1) := by decide +kernel
theorem dX11_init_35 : decode cX11_init 35 = .ok (.dup, 1) := by decide +kernel
theorem dX11_init_36 : decode cX11_init 36 = .ok (.iconst 1, 1) := by decide +kernel
theorem dX11_init_37 : decode cX11_init 37 = .ok (.iconst 0, 1) := by decide +kernel
theorem dX11_init_38 : decode cX11_init 38 = .ok (.iastore, 1) := by decide +kernel
theorem dX11_init_39 : decode cX11_init 39 = .ok (.dup, 1) := by decide +kernel
theorem dX11_init_40 : decode cX11_init 40 = .ok (.iconst 2, 1) := by decide +kernel
theorem dX11_init_41 : decode cX11_init 41 = .ok (.iconst 0, 1) := by decide +kernel
theorem dX11_init_42 : decode cX11_init 42 = .ok (.iastore, 1) := by decide +kernel
theorem dX11_init_43 : decode cX11_init 43 = .ok (.dup, 1) := by decide +kernel
theorem dX11_init_44 : decode cX11_init 44 = .ok (.iconst 3, 1) := by decide +kernel
theorem dX11_init_45 : decode cX11_init 45 = .ok (.iconst 0, 1) := by decide +kernel
theorem dX11_init_46 : decode cX11_init 46 = .ok (.iastore, 1) := by decide +kernel
theorem dX11_init_47 : decode cX11_init 47 = .ok (.dup, 1) := by decide +kernel
theorem dX11_init_48 : decode cX11_init 48 = .ok (.iconst 4, 1) := by decide +kernel
theorem dX11_init_49 : decode cX11_init 49 = .ok (.iconst 0, 1) := by decide +kernel
theorem dX11_init_50 : decode cX11_init 50 = .ok (.iastore, 1) := by decide +kernel
theorem dX11_init_51 : decode cX11_init 51 = .ok (.dup, 1) := by decide +kernel
theorem dX11_init_52 : decode cX11_init 52 = .ok (.iconst 5, 1) := by decide +kernel
theorem dX11_init_53 : decode cX11_init 53 = .ok (.iconst 0, 1) := by decide +kernel
theorem dX11_init_54 : decode cX11_init 54 = .ok (.iastore, 1) := by decide +kernel
theorem dX11_init_55 : decode cX11_init 55 = .ok (.dup, 1) := by decide +kernel
theorem dX11_init_56 : decode cX11_init 56 = .ok (.bipush 6, 2) := by decide +kernel
theorem dX11_init_58 : decode cX11_init 58 = .ok (.iconst 0, 1) := by decide +kernel
theorem dX11_init_59 : decode cX11_init 59 = .ok (.iastore, 1) := by decide +kernel
theorem dX11_init_60 : decode cX11_init 60 = .ok (.dup, 1) := by decide +kernel
theorem dX11_init_61 : decode cX11_init 61 = .ok (.bipush 7, 2) := by decide +kernel
theorem dX11_init_63 : decode cX11_init 63 = .ok (.iconst 0, 1) := by decide +kernel
theorem dX11_init_64 : decode cX11_init 64 = .ok (.iastore, 1) := by decide +kernel
theorem dX11_init_65 : decode cX11_init 65 = .ok (.dup, 1) := by decide +kernel
theorem dX11_init_66 : decode cX11_init 66 = .ok (.bipush 8, 2) := by decide +kernel
theorem dX11_init_68 : decode cX11_init 68 = .ok (.iconst 0, 1) := by decide +kernel
theorem dX11_init_69 : decode cX11_init 69 = .ok (.iastore, 1) := by decide +kernel
theorem dX11_init_70 : decode cX11_init 70 = .ok (.dup, 1) := by decide +kernel
theorem dX11_init_71 : decode cX11_init 71 = .ok (.bipush 9, 2) := by decide +kernel
theorem dX11_init_73 : decode cX11_init 73 = .ok (.iconst 0, 1) := by decide +kernel
theorem dX11_init_74 : decode cX11_init 74 = .ok (.iastore, 1) := by decide +kernel
theorem dX11_init_75 : decode cX11_init 75 = .ok (.dup, 1) := by decide +kernel
theorem dX11_init_76 : decode cX11_init 76 = .ok (.bipush 10, 2) := by decide +kernel
theorem dX11_init_78 : decode cX11_init 78 = .ok (.iconst 0, 1) := by decide +kernel
theorem dX11_init_79 : decode cX11_init 79 = .ok (.iastore, 1) := by decide +kernel
theorem dX11_init_80 : decode cX11_init 80 = .ok (.dup, 1) := by decide +kernel
theorem dX11_init_81 : decode cX11_init 81 = .ok (.bipush 11, 2) := by decide +kernel
theorem dX11_init_83 : decode cX11_init 83 = .ok (.iconst 0, 1) := by decide +kernel
theorem dX11_init_84 : decode cX11_init 84 = .ok (.iastore, 1) := by decide +kernel
theorem dX11_init_85 : decode cX11_init 85 = .ok (.putfield 20, 3) := by decide +kernel
theorem dX11_init_88 : decode cX11_init 88 = .ok (.aload_n 0, 1) := by decide +kernel
theorem dX11_init_89 : decode cX11_init 89 = .ok (.bipush 12, 2) := by decide +kernel
theorem dX11_init_91 : decode cX11_init 91 = .ok (.newarray .int, 2) := by decide +kernel
theorem dX11_init_93 : decode cX11_init 93 = .ok (.putfield 23, 3) := by decide +kernel
theorem dX11_init_96 : decode cX11_init 96 = .ok (.aload_n 0, 1) := by decide +kernel
theorem dX11_init_97 : decode cX11_init 97 = .ok (.bipush 12, 2) := by decide +kernel
theorem dX11_init_99 : decode cX11_init 99 = .ok (.newarray .int, 2) := by decide +kernel
theorem dX11_init_101 : decode cX11_init 101 = .ok (.putfield 26, 3) := by decide +kernel
theorem dX11_init_104 : decode cX11_init 104 = .ok (.aload_n 0, 1) := by decide +kernel
theorem dX11_init_105 : decode cX11_init 105 = .ok (.bipush 12, 2) := by decide +kernel
theorem dX11_init_107 : decode cX11_init 107 = .ok (.newarray .int, 2) := by decide +kernel
theorem dX11_init_109 : decode cX11_init 109 = .ok (.putfield 29, 3) := by decide +kernel
theorem dX11_init_112 : decode cX11_init 112 = .ok (.aload_n 0, 1) := by decide +kernel
theorem dX11_init_113 : decode cX11_init 113 = .ok (.bipush 12, 2) := by decide +kernel
theorem dX11_init_115 : decode cX11_init 115 = .ok (.newarray .int, 2) := by decide +kernel
theorem dX11_init_117 : decode cX11_init 117 = .ok (.putfield 32, 3) := by decide +kernel
theorem dX11_init_120 : decode cX11_init 120 = .ok (.aload_n 0, 1) := by decide +kernel
theorem dX11_init_121 : decode cX11_init 121 = .ok (.bipush 12, 2) := by decide +kernel
theorem dX11_init_123 : decode cX11_init 123 = .ok (.newarray .int, 2) := by decide +kernel
theorem dX11_init_125 : decode cX11_init 125 = .ok (.putfield 35, 3) := by decide +kernel
theorem dX11_init_128 : decode cX11_init 128 = .ok (.aload_n 0, 1) := by decide +kernel
theorem dX11_init_129 : decode cX11_init 129 = .ok (.bipush 12, 2) := by decide +kernel
theorem dX11_init_131 : decode cX11_init 131 = .ok (.newarray .int, 2) := by decide +kernel
theorem dX11_init_133 : decode cX11_init 133 = .ok (.putfield 38, 3) := by decide +kernel
theorem dX11_init_136 : decode cX11_init 136 = .ok (.aload_n 0, 1) := by decide +kernel
theorem dX11_init_137 : decode cX11_init 137 = .ok (.bipush 12, 2) := by decide +kernel
theorem dX11_init_139 : decode cX11_init 139 = .ok (.newarray .int, 2) := by decide +kernel
theorem dX11_init_141 : decode cX11_init 141 = .ok (.putfield 41, 3) := by decide +kernel
theorem dX11_init_144 : decode cX11_init 144 = .ok (.aload_n 0, 1) := by decide +kernel
theorem dX11_init_145 : decode cX11_init 145 = .ok (.bipush 12, 2) := by decide +kernel
theorem dX11_init_147 : decode cX11_init 147 = .ok (.newarray .int, 2) := by decide +kernel
theorem dX11_init_149 : decode cX11_init 149 = .ok (.dup, 1) := by decide +kernel
theorem dX11_init_150 : decode cX11_init 150 = .ok (.iconst 0, 1) := by decide +kernel
theorem dX11_init_151 : decode cX11_init 151 = .ok (.bipush 23, 2) := by decide +kernel
theorem dX11_init_153 : decode cX11_init 153 = .ok (.iastore, 1) := by decide +kernel
theorem dX11_init_154 : decode cX11_init 154 = .ok (.dup, 1) := by decide +kernel
theorem dX11_init_155 : decode cX11_init 155 = .ok (.iconst 1, 1) := by decide +kernel
theorem dX11_init_156 : decode cX11_init 156 = .ok (.bipush 23, 2) := by decide +kernel
theorem dX11_init_158 : decode cX11_init 158 = .ok (.iastore, 1) := by decide +kernel
theorem dX11_init_159 : decode cX11_init 159 = .ok (.dup, 1) := by decide +kernel
theorem dX11_init_160 : decode cX11_init 160 = .ok (.iconst 2, 1) := by decide +kernel
theorem dX11_init_161 : decode cX11_init 161 = .ok (.bipush 23, 2) := by decide +kernel
theorem dX11_init_163 : decode cX11_init 163 = .ok (.iastore, 1) := by decide +kernel
theorem dX11_init_164 : decode cX11_init 164 = .ok (.dup, 1) := by decide +kernel
theorem dX11_init_165 : decode cX11_init 165 = .ok (.iconst 3, 1) := by decide +kernel
theorem dX11_init_166 : decode cX11_init 166 = .ok (.bipush 23, 2) := by decide +kernel
theorem dX11_init_168 : decode cX11_init 168 = .ok (.iastore, 1) := by decide +kernel
theorem dX11_init_169 : decode cX11_init 169 = .ok (.dup, 1) := by decide +kernel
theorem dX11_init_170 : decode cX11_init 170 = .ok (.iconst 4, 1) := by decide +kernel
theorem dX11_init_171 : decode cX11_init 171 = .ok (.bipush 23, 2) := by decide +kernel
theorem dX11_init_173 : decode cX11_init 173 = .ok (.iastore, 1) := by decide +kernel
theorem dX11_init_174 : decode cX11_init 174 = .ok (.dup, 1) := by decide +kernel
theorem dX11_init_175 : decode cX11_init 175 = .ok (.iconst 5, 1) := by decide +kernel
theorem dX11_init_176 : decode cX11_init 176 = .ok (.bipush 23, 2) := by decide +kernel
theorem dX11_init_178 : decode cX11_init 178 = .ok (.iastore, 1) := by decide +kernel
theorem dX11_init_179 : decode cX11_init 179 = .ok (.dup, 1) := by decide +kernel
theorem dX11_init_180 : decode cX11_init 180 = .ok (.bipush 6, 2) := by decide +kernel
theorem dX11_init_182 : decode cX11_init 182 = .ok (.bipush 23, 2) := by decide +kernel
theorem dX11_init_184 : decode cX11_init 184 = .ok (.iastore, 1) := by decide +kernel
theorem dX11_init_185 : decode cX11_init 185 = .ok (.dup, 1) := by decide +kernel
theorem dX11_init_186 : decode cX11_init 186 = .ok (.bipush 7, 2) := by decide +kernel
theorem dX11_init_188 : decode cX11_init 188 = .ok (.bipush 23, 2) := by decide +kernel
theorem dX11_init_190 : decode cX11_init 190 = .ok (.iastore, 1) := by decide +kernel
theorem dX11_init_191 : decode cX11_init 191 = .ok (.dup, 1) := by decide +kernel
theorem dX11_init_192 : decode cX11_init 192 = .ok (.bipush 8, 2) := by decide +kernel
theorem dX11_init_194 : decode cX11_init 194 = .ok (.bipush 23, 2) := by decide +kernel
theorem dX11_init_196 : decode cX11_init 196 = .ok (.iastore, 1) := by decide +kernel
theorem dX11_init_197 : decode cX11_init 197 = .ok (.dup, 1) := by decide +kernel
theorem dX11_init_198 : decode cX11_init 198 = .ok (.bipush 9, 2) := by decide +kernel
theorem dX11_init_200 : decode cX11_init 200 = .ok (.bipush 23, 2) := by decide +kernel
theorem dX11_init_202 : decode cX11_init 202 = .ok (.iastore, 1) := by decide +kernel
theorem dX11_init_203 : decode cX11_init 203 = .ok (.dup, 1) := by decide +kernel
theorem dX11_init_204 : decode cX11_init 204 = .ok (.bipush 10, 2) := by decide +kernel
theorem dX11_init_206 : decode cX11_init 206 = .ok (.bipush 23, 2) := by decide +kernel
theorem dX11_init_208 : decode cX11_init 208 = .ok (.iastore, 1) := by decide +kernel
theorem dX11_init_209 : decode cX11_init 209 = .ok (.dup, 1) := by decide +kernel
theorem dX11_init_210 : decode cX11_init 210 = .ok (.bipush 11, 2) := by decide +kernel
theorem dX11_init_212 : decode cX11_init 212 = .ok (.bipush 23, 2) := by decide +kernel
theorem dX11_init_214 : decode cX11_init 214 = .ok (.iastore, 1) := by decide +kernel
theorem dX11_init_215 : decode cX11_init 215 = .ok (.putfield 44, 3) := by decide +kernel
theorem dX11_init_218 : decode cX11_init 218 = .ok (.aload_n 0, 1) := by decide +kernel
theorem dX11_init_219 : decode cX11_init 219 = .ok (.bipush 24, 2) := by decide +kernel
theorem dX11_init_221 : decode cX11_init 221 = .ok (.newarray .int, 2) := by decide +kernel
theorem dX11_init_223 : decode cX11_init 223 = .ok (.putfield 47, 3) := by decide +kernel
theorem dX11_init_226 : decode cX11_init 226 = .ok (.aload_n 0, 1) := by decide +kernel
theorem dX11_init_227 : decode cX11_init 227 = .ok (.iconst 4, 1) := by decide +kernel
theorem dX11_init_228 : decode cX11_init 228 = .ok (.newarray .int, 2) := by decide +kernel
theorem dX11_init_230 : decode cX11_init 230 = .ok (.dup, 1) := by decide +kernel
theorem dX11_init_231 : decode cX11_init 231 = .ok (.iconst 0, 1) := by decide +kernel
theorem dX11_init_232 : decode cX11_init 232 = .ok (.iconst 1, 1) := by decide +kernel
theorem dX11_init_233 : decode cX11_init 233 = .ok (.iastore, 1) := by decide +kernel
theorem dX11_init_234 : decode cX11_init 234 = .ok (.dup, 1) := by decide +kernel
theorem dX11_init_235 : decode cX11_init 235 = .ok (.iconst 1, 1) := by decide +kernel
theorem dX11_init_236 : decode cX11_init 236 = .ok (.iconst 1, 1) := by decide +kernel
theorem dX11_init_237 : decode cX11_init 237 = .ok (.iastore, 1) := by decide +kernel
theorem dX11_init_238 : decode cX11_init 238 = .ok (.dup, 1) := by decide +kernel
theorem dX11_init_239 : decode cX11_init 239 = .ok (.iconst 2, 1) := by decide +kernel
theorem dX11_init_240 : decode cX11_init 240 = .ok (.iconst 1, 1) := by decide +kernel
theorem dX11_init_241 : decode cX11_init 241 = .ok (.iastore, 1) := by decide +kernel
theorem dX11_init_242 : decode cX11_init 242 = .ok (.dup, 1) := by decide +kernel
theorem dX11_init_243 : decode cX11_init 243 = .ok (.iconst 3, 1) := by decide +kernel
theorem dX11_init_244 : decode cX11_init 244 = .ok (.iconst 1, 1) := by decide +kernel
theorem dX11_init_245 : decode cX11_init 245 = .ok (.iastore, 1) := by decide +kernel
theorem dX11_init_246 : decode cX11_init 246 = .ok (.putfield 50, 3) := by decide +kernel
theorem dX11_init_249 : decode cX11_init 249 = .ok (.aload_n 0, 1) := by decide +kernel
theorem dX11_init_250 : decode cX11_init 250 = .ok (.iconst 4, 1) := by decide +kernel
theorem dX11_init_251 : decode cX11_init 251 = .ok (.newarray .int, 2) := by decide +kernel
theorem dX11_init_253 : decode cX11_init 253 = .ok (.putfield 53, 3) := by decide +kernel
theorem dX11_init_256 : decode cX11_init 256 = .ok (.aload_n 0, 1) := by decide +kernel
theorem dX11_init_257 : decode cX11_init 257 = .ok (.iconst 4, 1) := by decide +kernel
theorem dX11_init_258 : decode cX11_init 258 = .ok (.newarray .int, 2) := by decide +kernel
theorem dX11_init_260 : decode cX11_init 260 = .ok (.putfield 56, 3) := by decide +kernel
theorem dX11_init_263 : decode cX11_init 263 = .ok (.aload_n 0, 1) := by decide +kernel
theorem dX11_init_264 : decode cX11_init 264 = .ok (.bipush 50, 2) := by decide +kernel
theorem dX11_init_266 : decode cX11_init 266 = .ok (.newarray .int, 2) := by decide +kernel
theorem dX11_init_268 : decode cX11_init 268 = .ok (.putfield 59, 3) := by decide +kernel
theorem dX11_init_271 : decode cX11_init 271 = .ok (.aload_n 0, 1) := by decide +kernel
theorem dX11_init_272 : decode cX11_init 272 = .ok (.bipush 12, 2) := by decide +kernel
theorem dX11_init_274 : decode cX11_init 274 = .ok (.newarray .int, 2) := by decide +kernel
theorem dX11_init_276 : decode cX11_init 276 = .ok (.putfield 62, 3) := by decide +kernel
theorem dX11_init_279 : decode cX11_init 279 = .ok (.aload_n 0, 1) := by decide +kernel
theorem dX11_init_280 : decode cX11_init 280 = .ok (.sipush 144, 3) := by decide +kernel
theorem dX11_init_283 : decode cX11_init 283 = .ok (.newarray .int, 2) := by decide +kernel
theorem dX11_init_285 : decode cX11_init 285 = .ok (.putfield 65, 3) := by decide +kernel
theorem dX11_init_288 : decode cX11_init 288 = .ok (.aload_n 0, 1) := by decide +kernel
theorem dX11_init_289 : decode cX11_init 289 = .ok (.sipush 4096, 3) := by decide +kernel
theorem dX11_init_292 : decode cX11_init 292 = .ok (.newarray .int, 2) := by decide +kernel
theorem dX11_init_294 : decode cX11_init 294 = .ok (.putfield 68, 3) := by decide +kernel
theorem dX11_init_297 : decode cX11_init 297 = .ok (.aload_n 0, 1) := by decide +kernel
theorem dX11_init_298 : decode cX11_init 298 = .ok (.sipush 4096, 3) := by decide +kernel
theorem dX11_init_301 : decode cX11_init 301 = .ok (.newarray .int, 2) := by decide +kernel
theorem dX11_init_303 : decode cX11_init 303 = .ok (.putfield 71, 3) := by decide +kernel
theorem dX11_init_306 : decode cX11_init 306 = .ok (.aload_n 0, 1) := by decide +kernel
theorem dX11_init_307 : decode cX11_init 307 = .ok (.ldc 74, 2) := by decide +kernel
theorem dX11_init_309 : decode cX11_init 309 = .ok (.newarray .int, 2) := by decide +kernel
theorem dX11_init_311 : decode cX11_init 311 = .ok (.putfield 75, 3) := by decide +kernel
theorem dX11_init_314 : decode cX11_init 314 = .ok (.aload_n 0, 1) := by decide +kernel
theorem dX11_init_315 : decode cX11_init 315 = .ok (.sipush 256, 3) := by decide +kernel
theorem dX11_init_318 : decode cX11_init 318 = .ok (.newarray .int, 2) := by decide +kernel
theorem dX11_init_320 : decode cX11_init 320 = .ok (.putfield 78, 3) := by decide +kernel
theorem dX11_init_323 : decode cX11_init 323 = .ok (.return_, 1) := by decide +kernel
theorem dX11_in_0 : decode cX11_in 0 = .ok (.lload_n 0, 1) := by decide +kernel
theorem dX11_in_1 : decode cX11_in 1 = .ok (.lload_n 2, 1) := by decide +kernel
theorem dX11_in_2 : decode cX11_in 2 = .ok (.lcmp, 1) := by decide +kernel
theorem dX11_in_3 : decode cX11_in 3 = .ok (.ifCond .lt 14, 3) := by decide +kernel
theorem dX11_in_6 : decode cX11_in 6 = .ok (.lload_n 0, 1) := by decide +kernel
theorem dX11_in_7 : decode cX11_in 7 = .ok (.lload 4, 2) := by decide +kernel
theorem dX11_in_9 : decode cX11_in 9 = .ok (.lcmp, 1) := by decide +kernel
theorem dX11_in_10 : decode cX11_in 10 = .ok (.ifCond .gt 7, 3) := by decide +kernel
theorem dX11_in_13 : decode cX11_in 13 = .ok (.iconst 1, 1) := by decide +kernel
theorem dX11_in_14 : decode cX11_in 14 = .ok (.goto 4, 3) := by decide +kernel
theorem dX11_in_17 : decode cX11_in 17 = .ok (.iconst 0, 1) := by decide +kernel
theorem dX11_in_18 : decode cX11_in 18 = .ok (.ireturn, 1) := by decide +kernel
theorem dX11_has_0 : decode cX11_has 0 = .ok (.iload_n 0, 1) := by decide +kernel
theorem dX11_has_1 : decode cX11_has 1 = .ok (.iload_n 1, 1) := by decide +kernel
theorem dX11_has_2 : decode cX11_has 2 = .ok (.ishr, 1) := by decide +kernel
theorem dX11_has_3 : decode cX11_has 3 = .ok (.iconst 1, 1) := by decide +kernel
theorem dX11_has_4 : decode cX11_has 4 = .ok (.iand, 1) := by decide +kernel
theorem dX11_has_5 : decode cX11_has 5 = .ok (.iconst 1, 1) := by decide +kernel
theorem dX11_has_6 : decode cX11_has 6 = .ok (.if_icmp .ne 7, 3) := by decide +kernel
theorem dX11_has_9 : decode cX11_has 9 = .ok (.iconst 1, 1) := by decide +kernel
theorem dX11_has_10 : decode cX11_has 10 = .ok (.goto 4, 3) := by decide +kernel
theorem dX11_has_13 : decode cX11_has 13 = .ok (.iconst 0, 1) := by decide +kernel
theorem dX11_has_14 : decode cX11_has 14 = .ok (.ireturn, 1) := by decide +kernel
theorem dX11_many_0 : decode cX11_many 0 = .ok (.iconst 0, 1) := by decide +kernel
theorem dX11_many_1 : decode cX11_many 1 = .ok (.istore_n 1, 1) := by decide +kernel
theorem dX11_many_2 : decode cX11_many 2 = .ok (.iconst 0, 1) := by decide +kernel
theorem dX11_many_3 : decode cX11_many 3 = .ok (.istore_n 2, 1) := by decide +kernel
theorem dX11_many_4 : decode cX11_many 4 = .ok (.iload_n 2, 1) := by decide +kernel
theorem dX11_many_5 : decode cX11_many 5 = .ok (.bipush 12, 2) := by decide +kernel
theorem dX11_many_7 : decode cX11_many 7 = .ok (.if_icmp .ge 17, 3) := by decide +kernel
theorem dX11_many_10 : decode cX11_many 10 = .ok (.iload_n 1, 1) := by decide +kernel
theorem dX11_many_11 : decode cX11_many 11 = .ok (.iload_n 0, 1) := by decide +kernel
theorem dX11_many_12 : decode cX11_many 12 = .ok (.iload_n 2, 1) := by decide +kernel
theorem dX11_many_13 : decode cX11_many 13 = .ok (.ishr, 1) := by decide +kernel
theorem dX11_many_14 : decode cX11_many 14 = .ok (.iconst 1, 1) := by decide +kernel
theorem dX11_many_15 : decode cX11_many 15 = .ok (.iand, 1) := by decide +kernel
theorem dX11_many_16 : decode cX11_many 16 = .ok (.iadd, 1) := by decide +kernel
theorem dX11_many_17 : decode cX11_many 17 = .ok (.istore_n 1, 1) := by decide +kernel
theorem dX11_many_18 : decode cX11_many 18 = .ok (.iinc 2 1, 3) := by decide +kernel
theorem dX11_many_21 : decode cX11_many 21 = .ok (.goto (-17), 3) := by decide +kernel
theorem dX11_many_24 : decode cX11_many 24 = .ok (.iload_n 1, 1) := by decide +kernel
theorem dX11_many_25 : decode cX11_many 25 = .ok (.ireturn, 1) := by decide +kernel
theorem dX11_isNode_0 : decode cX11_isNode 0 = .ok (.iload_n 1, 1) := by decide +kernel
theorem dX11_isNode_1 : decode cX11_isNode 1 = .ok (.i2l, 1) := by decide +kernel
theorem dX11_isNode_2 : decode cX11_isNode 2 = .ok (.lconst 0, 1) := by decide +kernel
theorem dX11_isNode_3 : decode cX11_isNode 3 = .ok (.ldc2_w 81, 3) := by decide +kernel
theorem dX11_isNode_6 : decode cX11_isNode 6 = .ok (.invokestatic 83, 3) := by decide +kernel
theorem dX11_isNode_9 : decode cX11_isNode 9 = .ok (.ifCond .eq 18, 3) := by decide +kernel
theorem dX11_isNode_12 : decode cX11_isNode 12 = .ok (.aload_n 0, 1) := by decide +kernel
theorem dX11_isNode_13 : decode cX11_isNode 13 = .ok (.getfield 16, 3) := by decide +kernel
theorem dX11_isNode_16 : decode cX11_isNode 16 = .ok (.iload_n 1, 1) := by decide +kernel
theorem dX11_isNode_17 : decode cX11_isNode 17 = .ok (.invokestatic 87, 3) := by decide +kernel
theorem dX11_isNode_20 : decode cX11_isNode 20 = .ok (.ifCond .eq 7, 3) := by decide +kernel
theorem dX11_isNode_23 : decode cX11_isNode 23 = .ok (.iconst 1, 1) := by decide +kernel
theorem dX11_isNode_24 : decode cX11_isNode 24 = .ok (.goto 4, 3) := by decide +kernel
theorem dX11_isNode_27 : decode cX11_isNode 27 = .ok (.iconst 0, 1) := by decide +kernel
theorem dX11_isNode_28 : decode cX11_isNode 28 = .ok (.ireturn, 1) := by decide +kernel
theorem dX11_write_0 : decode cX11_write 0 = .ok (.iload_n 3, 1) := by decide +kernel
theorem dX11_write_1 : decode cX11_write 1 = .ok (.i2l, 1) := by decide +kernel
theorem dX11_write_2 : decode cX11_write 2 = .ok (.lconst 1, 1) := by decide +kernel
theorem dX11_write_3 : decode cX11_write 3 = .ok (.ldc2_w 91, 3) := by decide +kernel
theorem dX11_write_6 : decode cX11_write 6 = .ok (.invokestatic 83, 3) := by decide +kernel
theorem dX11_write_9 : decode cX11_write 9 = .ok (.ifCond .ne 6, 3) := by decide +kernel
theorem dX11_write_12 : decode cX11_write 12 = .ok (.bipush (-3), 2) := by decide +kernel
theorem dX11_write_14 : decode cX11_write 14 = .ok (.ireturn, 1) := by decide +kernel
theorem dX11_write_15 : decode cX11_write 15 = .ok (.aload_n 0, 1) := by decide +kernel
theorem dX11_write_16 : decode cX11_write 16 = .ok (.getfield 93, 3) := by decide +kernel
theorem dX11_write_19 : decode cX11_write 19 = .ok (.iload_n 3, 1) := by decide +kernel
theorem dX11_write_20 : decode cX11_write 20 = .ok (.iadd, 1) := by decide +kernel
theorem dX11_write_21 : decode cX11_write 21 = .ok (.sipush 200, 3) := by decide +kernel
theorem dX11_write_24 : decode cX11_write 24 = .ok (.if_icmp .le 6, 3) := by decide +kernel
theorem dX11_write_27 : decode cX11_write 27 = .ok (.bipush (-5), 2) := by decide +kernel
theorem dX11_write_29 : decode cX11_write 29 = .ok (.ireturn, 1) := by decide +kernel
theorem dX11_write_30 : decode cX11_write 30 = .ok (.iconst 0, 1) := by decide +kernel
theorem dX11_write_31 : decode cX11_write 31 = .ok (.istore 4, 2) := by decide +kernel
theorem dX11_write_33 : decode cX11_write 33 = .ok (.iload 4, 2) := by decide +kernel
theorem dX11_write_35 : decode cX11_write 35 = .ok (.iload_n 3, 1) := by decide +kernel
theorem dX11_write_36 : decode cX11_write 36 = .ok (.if_icmp .ge 40, 3) := by decide +kernel
theorem dX11_write_39 : decode cX11_write 39 = .ok (.aload_n 0, 1) := by decide +kernel
theorem dX11_write_40 : decode cX11_write 40 = .ok (.getfield 7, 3) := by decide +kernel
theorem dX11_write_43 : decode cX11_write 43 = .ok (.aload_n 0, 1) := by decide +kernel
theorem dX11_write_44 : decode cX11_write 44 = .ok (.getfield 93, 3) := by decide +kernel
theorem dX11_write_47 : decode cX11_write 47 = .ok (.lload_n 1, 1) := by decide +kernel
theorem dX11_write_48 : decode cX11_write 48 = .ok (.bipush 8, 2) := by decide +kernel
theorem dX11_write_50 : decode cX11_write 50 = .ok (.iload 4, 2) := by decide +kernel
theorem dX11_write_52 : decode cX11_write 52 = .ok (.imul, 1) := by decide +kernel
theorem dX11_write_53 : decode cX11_write 53 = .ok (.lshr, 1) := by decide +kernel
theorem dX11_write_54 : decode cX11_write 54 = .ok (.ldc2_w 96, 3) := by decide +kernel
theorem dX11_write_57 : decode cX11_write 57 = .ok (.land, 1) := by decide +kernel
theorem dX11_write_58 : decode cX11_write 58 = .ok (.l2i, 1) := by decide +kernel
theorem dX11_write_59 : decode cX11_write 59 = .ok (.iastore, 1) := by decide +kernel
theorem dX11_write_60 : decode cX11_write 60 = .ok (.aload_n 0, 1) := by decide +kernel
theorem dX11_write_61 : decode cX11_write 61 = .ok (.dup, 1) := by decide +kernel
theorem dX11_write_62 : decode cX11_write 62 = .ok (.getfield 93, 3) := by decide +kernel
theorem dX11_write_65 : decode cX11_write 65 = .ok (.iconst 1, 1) := by decide +kernel
theorem dX11_write_66 : decode cX11_write 66 = .ok (.iadd, 1) := by decide +kernel
theorem dX11_write_67 : decode cX11_write 67 = .ok (.putfield 93, 3) := by decide +kernel
theorem dX11_write_70 : decode cX11_write 70 = .ok (.iinc 4 1, 3) := by decide +kernel
theorem dX11_write_73 : decode cX11_write 73 = .ok (.goto (-40), 3) := by decide +kernel
theorem dX11_write_76 : decode cX11_write 76 = .ok (.aload_n 0, 1) := by decide +kernel
theorem dX11_write_77 : decode cX11_write 77 = .ok (.getfield 93, 3) := by decide +kernel
theorem dX11_write_80 : decode cX11_write 80 = .ok (.ireturn, 1) := by decide +kernel
theorem dX11_erase_0 : decode cX11_erase 0 = .ok (.aload_n 0, 1) := by decide +kernel
theorem dX11_erase_1 : decode cX11_erase 1 = .ok (.getfield 93, 3) := by decide +kernel
theorem dX11_erase_4 : decode cX11_erase 4 = .ok (.istore_n 1, 1) := by decide +kernel
theorem dX11_erase_5 : decode cX11_erase 5 = .ok (.aload_n 0, 1) := by decide +kernel
theorem dX11_erase_6 : decode cX11_erase 6 = .ok (.iconst 0, 1) := by decide +kernel
theorem dX11_erase_7 : decode cX11_erase 7 = .ok (.putfield 93, 3) := by decide +kernel
theorem dX11_erase_10 : decode cX11_erase 10 = .ok (.iload_n 1, 1) := by decide +kernel
theorem dX11_erase_11 : decode cX11_erase 11 = .ok (.ireturn, 1) := by decide +kernel
theorem dX11_sort_0 : decode cX11_sort 0 = .ok (.iload_n 0, 1) := by decide +kernel
theorem dX11_sort_1 : decode cX11_sort 1 = .ok (.bipush 97, 2) := by decide +kernel
theorem dX11_sort_3 : decode cX11_sort 3 = .ok (.if_icmp .lt 13, 3) := by decide +kernel
theorem dX11_sort_6 : decode cX11_sort 6 = .ok (.iload_n 0, 1) := by decide +kernel
theorem dX11_sort_7 : decode cX11_sort 7 = .ok (.bipush 122, 2) := by decide +kernel
theorem dX11_sort_9 : decode cX11_sort 9 = .ok (.if_icmp .gt 7, 3) := by decide +kernel
theorem dX11_sort_12 : decode cX11_sort 12 = .ok (.iconst 1, 1) := by decide +kernel
theorem dX11_sort_13 : decode cX11_sort 13 = .ok (.goto 20, 3) := by decide +kernel
theorem dX11_sort_16 : decode cX11_sort 16 = .ok (.iload_n 0, 1) := by decide +kernel
theorem dX11_sort_17 : decode cX11_sort 17 = .ok (.bipush 48, 2) := by decide +kernel
theorem dX11_sort_19 : decode cX11_sort 19 = .ok (.if_icmp .lt 13, 3) := by decide +kernel
theorem dX11_sort_22 : decode cX11_sort 22 = .ok (.iload_n 0, 1) := by decide +kernel
theorem dX11_sort_23 : decode cX11_sort 23 = .ok (.bipush 57, 2) := by decide +kernel
theorem dX11_sort_25 : decode cX11_sort 25 = .ok (.if_icmp .gt 7, 3) := by decide +kernel
theorem dX11_sort_28 : decode cX11_sort 28 = .ok (.iconst 2, 1) := by decide +kernel
theorem dX11_sort_29 : decode cX11_sort 29 = .ok (.goto 4, 3) := by decide +kernel
theorem dX11_sort_32 : decode cX11_sort 32 = .ok (.iconst 0, 1) := by decide +kernel
theorem dX11_sort_33 : decode cX11_sort 33 = .ok (.ireturn, 1) := by decide +kernel
theorem dX11_token_0 : decode cX11_token 0 = .ok (.aload_n 0, 1) := by decide +kernel
theorem dX11_token_1 : decode cX11_token 1 = .ok (.getfield 98, 3) := by decide +kernel
theorem dX11_token_4 : decode cX11_token 4 = .ok (.aload_n 0, 1) := by decide +kernel
theorem dX11_token_5 : decode cX11_token 5 = .ok (.getfield 93, 3) := by decide +kernel
theorem dX11_token_8 : decode cX11_token 8 = .ok (.if_icmp .ge 30, 3) := by decide +kernel
theorem dX11_token_11 : decode cX11_token 11 = .ok (.aload_n 0, 1) := by decide +kernel
theorem dX11_token_12 : decode cX11_token 12 = .ok (.getfield 7, 3) := by decide +kernel
theorem dX11_token_15 : decode cX11_token 15 = .ok (.aload_n 0, 1) := by decide +kernel
theorem dX11_token_16 : decode cX11_token 16 = .ok (.getfield 98, 3) := by decide +kernel
theorem dX11_token_19 : decode cX11_token 19 = .ok (.iaload, 1) := by decide +kernel
theorem dX11_token_20 : decode cX11_token 20 = .ok (.bipush 32, 2) := by decide +kernel
theorem dX11_token_22 : decode cX11_token 22 = .ok (.if_icmp .ne 16, 3) := by decide +kernel
theorem dX11_token_25 : decode cX11_token 25 = .ok (.aload_n 0, 1) := by decide +kernel
theorem dX11_token_26 : decode cX11_token 26 = .ok (.dup, 1) := by decide +kernel
theorem dX11_token_27 : decode cX11_token 27 = .ok (.getfield 98, 3) := by decide +kernel
theorem dX11_token_30 : decode cX11_token 30 = .ok (.iconst 1, 1) := by decide +kernel
theorem dX11_token_31 : decode cX11_token 31 = .ok (.iadd, 1) := by decide +kernel
theorem dX11_token_32 : decode cX11_token 32 = .ok (.putfield 98, 3) := by decide +kernel
theorem dX11_token_35 : decode cX11_token 35 = .ok (.goto (-35), 3) := by decide +kernel
theorem dX11_token_38 : decode cX11_token 38 = .ok (.aload_n 0, 1) := by decide +kernel
theorem dX11_token_39 : decode cX11_token 39 = .ok (.aload_n 0, 1) := by decide +kernel
theorem dX11_token_40 : decode cX11_token 40 = .ok (.getfield 98, 3) := by decide +kernel
theorem dX11_token_43 : decode cX11_token 43 = .ok (.putfield 101, 3) := by decide +kernel
theorem dX11_token_46 : decode cX11_token 46 = .ok (.aload_n 0, 1) := by decide +kernel
theorem dX11_token_47 : decode cX11_token 47 = .ok (.dup, 1) := by decide +kernel
theorem dX11_token_48 : decode cX11_token 48 = .ok (.getfield 98, 3) := by decide +kernel
theorem dX11_token_51 : decode cX11_token 51 = .ok (.aload_n 0, 1) := by decide +kernel
theorem dX11_token_52 : decode cX11_token 52 = .ok (.getfield 98, 3) := by decide +kernel
theorem dX11_token_55 : decode cX11_token 55 = .ok (.aload_n 0, 1) := by decide +kernel
theorem dX11_token_56 : decode cX11_token 56 = .ok (.getfield 93, 3) := by decide +kernel
theorem dX11_token_59 : decode cX11_token 59 = .ok (.if_icmp .ge 7, 3) := by decide +kernel
theorem dX11_token_62 : decode cX11_token 62 = .ok (.iconst 1, 1) := by decide +kernel
theorem dX11_token_63 : decode cX11_token 63 = .ok (.goto 4, 3) := by decide +kernel
theorem dX11_token_66 : decode cX11_token 66 = .ok (.iconst 0, 1) := by decide +kernel
theorem dX11_token_67 : decode cX11_token 67 = .ok (.iadd, 1) := by decide +kernel
theorem dX11_token_68 : decode cX11_token 68 = .ok (.putfield 98, 3) := by decide +kernel
theorem dX11_token_71 : decode cX11_token 71 = .ok (.aload_n 0, 1) := by decide +kernel
theorem dX11_token_72 : decode cX11_token 72 = .ok (.getfield 98, 3) := by decide +kernel
theorem dX11_token_75 : decode cX11_token 75 = .ok (.aload_n 0, 1) := by decide +kernel
theorem dX11_token_76 : decode cX11_token 76 = .ok (.getfield 93, 3) := by decide +kernel
theorem dX11_token_79 : decode cX11_token 79 = .ok (.if_icmp .ge 58, 3) := by decide +kernel
theorem dX11_token_82 : decode cX11_token 82 = .ok (.aload_n 0, 1) := by decide +kernel
theorem dX11_token_83 : decode cX11_token 83 = .ok (.getfield 7, 3) := by decide +kernel
theorem dX11_token_86 : decode cX11_token 86 = .ok (.aload_n 0, 1) := by decide +kernel
theorem dX11_token_87 : decode cX11_token 87 = .ok (.getfield 101, 3) := by decide +kernel
theorem dX11_token_90 : decode cX11_token 90 = .ok (.iaload, 1) := by decide +kernel
theorem dX11_token_91 : decode cX11_token 91 = .ok (.invokestatic 104, 3) := by decide +kernel
theorem dX11_token_94 : decode cX11_token 94 = .ok (.ifCond .le 43, 3) := by decide +kernel
theorem dX11_token_97 : decode cX11_token 97 = .ok (.aload_n 0, 1) := by decide +kernel
theorem dX11_token_98 : decode cX11_token 98 = .ok (.getfield 7, 3) := by decide +kernel
theorem dX11_token_101 : decode cX11_token 101 = .ok (.aload_n 0, 1) := by decide +kernel
theorem dX11_token_102 : decode cX11_token 102 = .ok (.getfield 98, 3) := by decide +kernel
theorem dX11_token_105 : decode cX11_token 105 = .ok (.iaload, 1) := by decide +kernel
theorem dX11_token_106 : decode cX11_token 106 = .ok (.invokestatic 104, 3) := by decide +kernel
theorem dX11_token_109 : decode cX11_token 109 = .ok (.aload_n 0, 1) := by decide +kernel
theorem dX11_token_110 : decode cX11_token 110 = .ok (.getfield 7, 3) := by decide +kernel
theorem dX11_token_113 : decode cX11_token 113 = .ok (.aload_n 0, 1) := by decide +kernel
theorem dX11_token_114 : decode cX11_token 114 = .ok (.getfield 101, 3) := by decide +kernel
theorem dX11_token_117 : decode cX11_token 117 = .ok (.iaload, 1) := by decide +kernel
theorem dX11_token_118 : decode cX11_token 118 = .ok (.invokestatic 104, 3) := by decide +kernel
theorem dX11_token_121 : decode cX11_token 121 = .ok (.if_icmp .ne 16, 3) := by decide +kernel
theorem dX11_token_124 : decode cX11_token 124 = .ok (.aload_n 0, 1) := by decide +kernel
theorem dX11_token_125 : decode cX11_token 125 = .ok (.dup, 1) := by decide +kernel
theorem dX11_token_126 : decode cX11_token 126 = .ok (.getfield 98, 3) := by decide +kernel
theorem dX11_token_129 : decode cX11_token 129 = .ok (.iconst 1, 1) := by decide +kernel
theorem dX11_token_130 : decode cX11_token 130 = .ok (.iadd, 1) := by decide +kernel
theorem dX11_token_131 : decode cX11_token 131 = .ok (.putfield 98, 3) := by decide +kernel
theorem dX11_token_134 : decode cX11_token 134 = .ok (.goto (-63), 3) := by decide +kernel
theorem dX11_token_137 : decode cX11_token 137 = .ok (.aload_n 0, 1) := by decide +kernel
theorem dX11_token_138 : decode cX11_token 138 = .ok (.aload_n 0, 1) := by decide +kernel
theorem dX11_token_139 : decode cX11_token 139 = .ok (.getfield 98, 3) := by decide +kernel
theorem dX11_token_142 : decode cX11_token 142 = .ok (.putfield 108, 3) := by decide +kernel
theorem dX11_token_145 : decode cX11_token 145 = .ok (.return_, 1) := by decide +kernel
theorem dX11_isWord_0 : decode cX11_isWord 0 = .ok (.aload_n 0, 1) := by decide +kernel
theorem dX11_isWord_1 : decode cX11_isWord 1 = .ok (.getfield 108, 3) := by decide +kernel
theorem dX11_isWord_4 : decode cX11_isWord 4 = .ok (.aload_n 0, 1) := by decide +kernel
theorem dX11_isWord_5 : decode cX11_isWord 5 = .ok (.getfield 101, 3) := by decide +kernel
theorem dX11_isWord_8 : decode cX11_isWord 8 = .ok (.isub, 1) := by decide +kernel
theorem dX11_isWord_9 : decode cX11_isWord 9 = .ok (.iload_n 2, 1) := by decide +kernel
theorem dX11_isWord_10 : decode cX11_isWord 10 = .ok (.if_icmp .ne 7, 3) := by decide +kernel
theorem dX11_isWord_13 : decode cX11_isWord 13 = .ok (.iconst 1, 1) := by decide +kernel
theorem dX11_isWord_14 : decode cX11_isWord 14 = .ok (.goto 4, 3) := by decide +kernel
theorem dX11_isWord_17 : decode cX11_isWord 17 = .ok (.iconst 0, 1) := by decide +kernel
theorem dX11_isWord_18 : decode cX11_isWord 18 = .ok (.istore_n 3, 1) := by decide +kernel
theorem dX11_isWord_19 : decode cX11_isWord 19 = .ok (.iconst 0, 1) := by decide +kernel
theorem dX11_isWord_20 : decode cX11_isWord 20 = .ok (.istore 4, 2) := by decide +kernel
theorem dX11_isWord_22 : decode cX11_isWord 22 = .ok (.iload_n 3, 1) := by decide +kernel
theorem dX11_isWord_23 : decode cX11_isWord 23 = .ok (.ifCond .eq 48, 3) := by decide +kernel
theorem dX11_isWord_26 : decode cX11_isWord 26 = .ok (.iload 4, 2) := by decide +kernel
theorem dX11_isWord_28 : decode cX11_isWord 28 = .ok (.iload_n 2, 1) := by decide +kernel
theorem dX11_isWord_29 : decode cX11_isWord 29 = .ok (.if_icmp .ge 42, 3) := by decide +kernel
theorem dX11_isWord_32 : decode cX11_isWord 32 = .ok (.aload_n 0, 1) := by decide +kernel
theorem dX11_isWord_33 : decode cX11_isWord 33 = .ok (.getfield 7, 3) := by decide +kernel
theorem dX11_isWord_36 : decode cX11_isWord 36 = .ok (.aload_n 0, 1) := by decide +kernel
theorem dX11_isWord_37 : decode cX11_isWord 37 = .ok (.getfield 101, 3) := by decide +kernel
theorem dX11_isWord_40 : decode cX11_isWord 40 = .ok (.iload 4, 2) := by decide +kernel
theorem dX11_isWord_42 : decode cX11_isWord 42 = .ok (.iadd, 1) := by decide +kernel
theorem dX11_isWord_43 : decode cX11_isWord 43 = .ok (.iaload, 1) := by decide +kernel
theorem dX11_isWord_44 : decode cX11_isWord 44 = .ok (.bipush 96, 2) := by decide +kernel
theorem dX11_isWord_46 : decode cX11_isWord 46 = .ok (.iload_n 1, 1) := by decide +kernel
theorem dX11_isWord_47 : decode cX11_isWord 47 = .ok (.iconst 5, 1) := by decide +kernel
theorem dX11_isWord_48 : decode cX11_isWord 48 = .ok (.iload 4, 2) := by decide +kernel
theorem dX11_isWord_50 : decode cX11_isWord 50 = .ok (.imul, 1) := by decide +kernel
theorem dX11_isWord_51 : decode cX11_isWord 51 = .ok (.ishr, 1) := by decide +kernel
theorem dX11_isWord_52 : decode cX11_isWord 52 = .ok (.bipush 31, 2) := by decide +kernel
theorem dX11_isWord_54 : decode cX11_isWord 54 = .ok (.iand, 1) := by decide +kernel
theorem dX11_isWord_55 : decode cX11_isWord 55 = .ok (.iadd, 1) := by decide +kernel
theorem dX11_isWord_56 : decode cX11_isWord 56 = .ok (.if_icmp .ne 7, 3) := by decide +kernel
theorem dX11_isWord_59 : decode cX11_isWord 59 = .ok (.iconst 1, 1) := by decide +kernel
theorem dX11_isWord_60 : decode cX11_isWord 60 = .ok (.goto 4, 3) := by decide +kernel
theorem dX11_isWord_63 : decode cX11_isWord 63 = .ok (.iconst 0, 1) := by decide +kernel
theorem dX11_isWord_64 : decode cX11_isWord 64 = .ok (.istore_n 3, 1) := by decide +kernel
theorem dX11_isWord_65 : decode cX11_isWord 65 = .ok (.iinc 4 1, 3) := by decide +kernel
theorem dX11_isWord_68 : decode cX11_isWord 68 = .ok (.goto (-46), 3) := by decide +kernel
theorem dX11_isWord_71 : decode cX11_isWord 71 = .ok (.iload_n 3, 1) := by decide +kernel
theorem dX11_isWord_72 : decode cX11_isWord 72 = .ok (.ireturn, 1) := by decide +kernel
theorem dX11_reads_0 : decode cX11_reads 0 = .ok (.aload_n 0, 1) := by decide +kernel
theorem dX11_reads_1 : decode cX11_reads 1 = .ok (.getfield 101, 3) := by decide +kernel
theorem dX11_reads_4 : decode cX11_reads 4 = .ok (.aload_n 0, 1) := by decide +kernel
theorem dX11_reads_5 : decode cX11_reads 5 = .ok (.getfield 93, 3) := by decide +kernel
theorem dX11_reads_8 : decode cX11_reads 8 = .ok (.if_icmp .eq 32, 3) := by decide +kernel
theorem dX11_reads_11 : decode cX11_reads 11 = .ok (.aload_n 0, 1) := by decide +kernel
theorem dX11_reads_12 : decode cX11_reads 12 = .ok (.getfield 7, 3) := by decide +kernel
theorem dX11_reads_15 : decode cX11_reads 15 = .ok (.aload_n 0, 1) := by decide +kernel
theorem dX11_reads_16 : decode cX11_reads 16 = .ok (.getfield 101, 3) := by decide +kernel
theorem dX11_reads_19 : decode cX11_reads 19 = .ok (.iaload, 1) := by decide +kernel
theorem dX11_reads_20 : decode cX11_reads 20 = .ok (.invokestatic 104, 3) := by decide +kernel
theorem dX11_reads_23 : decode cX11_reads 23 = .ok (.iconst 2, 1) := by decide +kernel
theorem dX11_reads_24 : decode cX11_reads 24 = .ok (.if_icmp .ne 16, 3) := by decide +kernel
theorem dX11_reads_27 : decode cX11_reads 27 = .ok (.aload_n 0, 1) := by decide +kernel
theorem dX11_reads_28 : decode cX11_reads 28 = .ok (.getfield 108, 3) := by decide +kernel
theorem dX11_reads_31 : decode cX11_reads 31 = .ok (.aload_n 0, 1) := by decide +kernel
theorem dX11_reads_32 : decode cX11_reads 32 = .ok (.getfield 101, 3) := by decide +kernel
theorem dX11_reads_35 : decode cX11_reads 35 = .ok (.isub, 1) := by decide +kernel
theorem dX11_reads_36 : decode cX11_reads 36 = .ok (.iconst 4, 1) := by decide +kernel
theorem dX11_reads_37 : decode cX11_reads 37 = .ok (.if_icmp .le 5, 3) := by decide +kernel
theorem dX11_reads_40 : decode cX11_reads 40 = .ok (.iconst 0, 1) := by decide +kernel
theorem dX11_reads_41 : decode cX11_reads 41 = .ok (.ireturn, 1) := by decide +kernel
theorem dX11_reads_42 : decode cX11_reads 42 = .ok (.iconst 0, 1) := by decide +kernel
theorem dX11_reads_43 : decode cX11_reads 43 = .ok (.istore 4, 2) := by decide +kernel
theorem dX11_reads_45 : decode cX11_reads 45 = .ok (.aload_n 0, 1) := by decide +kernel
theorem dX11_reads_46 : decode cX11_reads 46 = .ok (.getfield 101, 3) := by decide +kernel
theorem dX11_reads_49 : decode cX11_reads 49 = .ok (.istore 5, 2) := by decide +kernel
theorem dX11_reads_51 : decode cX11_reads 51 = .ok (.iload 5, 2) := by decide +kernel
theorem dX11_reads_53 : decode cX11_reads 53 = .ok (.aload_n 0, 1) := by decide +kernel
theorem dX11_reads_54 : decode cX11_reads 54 = .ok (.getfield 108, 3) := by decide +kernel
theorem dX11_reads_57 : decode cX11_reads 57 = .ok (.if_icmp .ge 27, 3) := by decide +kernel
theorem dX11_reads_60 : decode cX11_reads 60 = .ok (.bipush 10, 2) := by decide +kernel
theorem dX11_reads_62 : decode cX11_reads 62 = .ok (.iload 4, 2) := by decide +kernel
theorem dX11_reads_64 : decode cX11_reads 64 = .ok (.imul, 1) := by decide +kernel
theorem dX11_reads_65 : decode cX11_reads 65 = .ok (.aload_n 0, 1) := by decide +kernel
theorem dX11_reads_66 : decode cX11_reads 66 = .ok (.getfield 7, 3) := by decide +kernel
theorem dX11_reads_69 : decode cX11_reads 69 = .ok (.iload 5, 2) := by decide +kernel
theorem dX11_reads_71 : decode cX11_reads 71 = .ok (.iaload, 1) := by decide +kernel
theorem dX11_reads_72 : decode cX11_reads 72 = .ok (.iadd, 1) := by decide +kernel
theorem dX11_reads_73 : decode cX11_reads 73 = .ok (.bipush 48, 2) := by decide +kernel
theorem dX11_reads_75 : decode cX11_reads 75 = .ok (.isub, 1) := by decide +kernel
theorem dX11_reads_76 : decode cX11_reads 76 = .ok (.istore 4, 2) := by decide +kernel
theorem dX11_reads_78 : decode cX11_reads 78 = .ok (.iinc 5 1, 3) := by decide +kernel
theorem dX11_reads_81 : decode cX11_reads 81 = .ok (.goto (-30), 3) := by decide +kernel
theorem dX11_reads_84 : decode cX11_reads 84 = .ok (.iload 4, 2) := by decide +kernel
theorem dX11_reads_86 : decode cX11_reads 86 = .ok (.i2l, 1) := by decide +kernel
theorem dX11_reads_87 : decode cX11_reads 87 = .ok (.iload_n 2, 1) := by decide +kernel
theorem dX11_reads_88 : decode cX11_reads 88 = .ok (.i2l, 1) := by decide +kernel
theorem dX11_reads_89 : decode cX11_reads 89 = .ok (.iload_n 3, 1) := by decide +kernel
theorem dX11_reads_90 : decode cX11_reads 90 = .ok (.i2l, 1) := by decide +kernel
theorem dX11_reads_91 : decode cX11_reads 91 = .ok (.invokestatic 83, 3) := by decide +kernel
theorem dX11_reads_94 : decode cX11_reads 94 = .ok (.ifCond .ne 5, 3) := by decide +kernel
theorem dX11_reads_97 : decode cX11_reads 97 = .ok (.iconst 0, 1) := by decide +kernel
theorem dX11_reads_98 : decode cX11_reads 98 = .ok (.ireturn, 1) := by decide +kernel
theorem dX11_reads_99 : decode cX11_reads 99 = .ok (.aload_n 0, 1) := by decide +kernel
theorem dX11_reads_100 : decode cX11_reads 100 = .ok (.getfield 13, 3) := by decide +kernel
theorem dX11_reads_103 : decode cX11_reads 103 = .ok (.bipush 6, 2) := by decide +kernel
theorem dX11_reads_105 : decode cX11_reads 105 = .ok (.aload_n 0, 1) := by decide +kernel
theorem dX11_reads_106 : decode cX11_reads 106 = .ok (.getfield 111, 3) := by decide +kernel
theorem dX11_reads_109 : decode cX11_reads 109 = .ok (.imul, 1) := by decide +kernel
theorem dX11_reads_110 : decode cX11_reads 110 = .ok (.iconst 1, 1) := by decide +kernel
theorem dX11_reads_111 : decode cX11_reads 111 = .ok (.iadd, 1) := by decide +kernel
theorem dX11_reads_112 : decode cX11_reads 112 = .ok (.iload_n 1, 1) := by decide +kernel
theorem dX11_reads_113 : decode cX11_reads 113 = .ok (.iadd, 1) := by decide +kernel
theorem dX11_reads_114 : decode cX11_reads 114 = .ok (.iload 4, 2) := by decide +kernel
theorem dX11_reads_116 : decode cX11_reads 116 = .ok (.iastore, 1) := by decide +kernel
theorem dX11_reads_117 : decode cX11_reads 117 = .ok (.aload_n 0, 1) := by decide +kernel
theorem dX11_reads_118 : decode cX11_reads 118 = .ok (.invokevirtual 114, 3) := by decide +kernel
theorem dX11_reads_121 : decode cX11_reads 121 = .ok (.iconst 1, 1) := by decide +kernel
theorem dX11_reads_122 : decode cX11_reads 122 = .ok (.ireturn, 1) := by decide +kernel
theorem dX11_readsRest_0 : decode cX11_readsRest 0 = .ok (.bipush 6, 2) := by decide +kernel
theorem dX11_readsRest_2 : decode cX11_readsRest 2 = .ok (.aload_n 0, 1) := by decide +kernel
theorem dX11_readsRest_3 : decode cX11_readsRest 3 = .ok (.getfield 111, 3) := by decide +kernel
theorem dX11_readsRest_6 : decode cX11_readsRest 6 = .ok (.imul, 1) := by decide +kernel
theorem dX11_readsRest_7 : decode cX11_readsRest 7 = .ok (.istore_n 2, 1) := by decide +kernel
theorem dX11_readsRest_8 : decode cX11_readsRest 8 = .ok (.iload_n 1, 1) := by decide +kernel
theorem dX11_readsRest_9 : decode cX11_readsRest 9 = .ok (.tableswitch 314 0 6 #[43, 112, 141, 181, 227, 255, 305], 43) := by decide +kernel
theorem dX11_readsRest_52 : decode cX11_readsRest 52 = .ok (.aload_n 0, 1) := by decide +kernel
theorem dX11_readsRest_53 : decode cX11_readsRest 53 = .ok (.iconst 0, 1) := by decide +kernel
theorem dX11_readsRest_54 : decode cX11_readsRest 54 = .ok (.iconst 1, 1) := by decide +kernel
theorem dX11_readsRest_55 : decode cX11_readsRest 55 = .ok (.bipush 11, 2) := by decide +kernel
theorem dX11_readsRest_57 : decode cX11_readsRest 57 = .ok (.invokevirtual 117, 3) := by decide +kernel
theorem dX11_readsRest_60 : decode cX11_readsRest 60 = .ok (.ifCond .eq 59, 3) := by decide +kernel
theorem dX11_readsRest_63 : decode cX11_readsRest 63 = .ok (.aload_n 0, 1) := by decide +kernel
theorem dX11_readsRest_64 : decode cX11_readsRest 64 = .ok (.iconst 1, 1) := by decide +kernel
theorem dX11_readsRest_65 : decode cX11_readsRest 65 = .ok (.iconst 0, 1) := by decide +kernel
theorem dX11_readsRest_66 : decode cX11_readsRest 66 = .ok (.aload_n 0, 1) := by decide +kernel
theorem dX11_readsRest_67 : decode cX11_readsRest 67 = .ok (.getfield 13, 3) := by decide +kernel
theorem dX11_readsRest_70 : decode cX11_readsRest 70 = .ok (.iload_n 2, 1) := by decide +kernel
theorem dX11_readsRest_71 : decode cX11_readsRest 71 = .ok (.iconst 1, 1) := by decide +kernel
theorem dX11_readsRest_72 : decode cX11_readsRest 72 = .ok (.iadd, 1) := by decide +kernel
theorem dX11_readsRest_73 : decode cX11_readsRest 73 = .ok (.iaload, 1) := by decide +kernel
theorem dX11_readsRest_74 : decode cX11_readsRest 74 = .ok (.iconst 1, 1) := by decide +kernel
theorem dX11_readsRest_75 : decode cX11_readsRest 75 = .ok (.isub, 1) := by decide +kernel
theorem dX11_readsRest_76 : decode cX11_readsRest 76 = .ok (.invokevirtual 117, 3) := by decide +kernel
theorem dX11_readsRest_79 : decode cX11_readsRest 79 = .ok (.ifCond .eq 40, 3) := by decide +kernel
theorem dX11_readsRest_82 : decode cX11_readsRest 82 = .ok (.aload_n 0, 1) := by decide +kernel
theorem dX11_readsRest_83 : decode cX11_readsRest 83 = .ok (.iconst 2, 1) := by decide +kernel
theorem dX11_readsRest_84 : decode cX11_readsRest 84 = .ok (.iconst 0, 1) := by decide +kernel
theorem dX11_readsRest_85 : decode cX11_readsRest 85 = .ok (.bipush 99, 2) := by decide +kernel
theorem dX11_readsRest_87 : decode cX11_readsRest 87 = .ok (.invokevirtual 117, 3) := by decide +kernel
theorem dX11_readsRest_90 : decode cX11_readsRest 90 = .ok (.ifCond .eq 29, 3) := by decide +kernel
theorem dX11_readsRest_93 : decode cX11_readsRest 93 = .ok (.aload_n 0, 1) := by decide +kernel
theorem dX11_readsRest_94 : decode cX11_readsRest 94 = .ok (.iconst 3, 1) := by decide +kernel
theorem dX11_readsRest_95 : decode cX11_readsRest 95 = .ok (.iconst 1, 1) := by decide +kernel
theorem dX11_readsRest_96 : decode cX11_readsRest 96 = .ok (.bipush 60, 2) := by decide +kernel
theorem dX11_readsRest_98 : decode cX11_readsRest 98 = .ok (.invokevirtual 117, 3) := by decide +kernel
theorem dX11_readsRest_101 : decode cX11_readsRest 101 = .ok (.ifCond .eq 18, 3) := by decide +kernel
theorem dX11_readsRest_104 : decode cX11_readsRest 104 = .ok (.aload_n 0, 1) := by decide +kernel
theorem dX11_readsRest_105 : decode cX11_readsRest 105 = .ok (.iconst 4, 1) := by decide +kernel
theorem dX11_readsRest_106 : decode cX11_readsRest 106 = .ok (.iconst 0, 1) := by decide +kernel
theorem dX11_readsRest_107 : decode cX11_readsRest 107 = .ok (.bipush 99, 2) := by decide +kernel
theorem dX11_readsRest_109 : decode cX11_readsRest 109 = .ok (.invokevirtual 117, 3) := by decide +kernel
theorem dX11_readsRest_112 : decode cX11_readsRest 112 = .ok (.ifCond .eq 7, 3) := by decide +kernel
theorem dX11_readsRest_115 : decode cX11_readsRest 115 = .ok (.iconst 1, 1) := by decide +kernel
theorem dX11_readsRest_116 : decode cX11_readsRest 116 = .ok (.goto 4, 3) := by decide +kernel
theorem dX11_readsRest_119 : decode cX11_readsRest 119 = .ok (.iconst 0, 1) := by decide +kernel
theorem dX11_readsRest_120 : decode cX11_readsRest 120 = .ok (.ireturn, 1) := by decide +kernel
theorem dX11_readsRest_121 : decode cX11_readsRest 121 = .ok (.aload_n 0, 1) := by decide +kernel
theorem dX11_readsRest_122 : decode cX11_readsRest 122 = .ok (.iconst 0, 1) := by decide +kernel
theorem dX11_readsRest_123 : decode cX11_readsRest 123 = .ok (.iconst 0, 1) := by decide +kernel
theorem dX11_readsRest_124 : decode cX11_readsRest 124 = .ok (.bipush 11, 2) := by decide +kernel
theorem dX11_readsRest_126 : decode cX11_readsRest 126 = .ok (.invokevirtual 117, 3) := by decide +kernel
theorem dX11_readsRest_129 : decode cX11_readsRest 129 = .ok (.ifCond .eq 19, 3) := by decide +kernel
theorem dX11_readsRest_132 : decode cX11_readsRest 132 = .ok (.aload_n 0, 1) := by decide +kernel
theorem dX11_readsRest_133 : decode cX11_readsRest 133 = .ok (.iconst 1, 1) := by decide +kernel
theorem dX11_readsRest_134 : decode cX11_readsRest 134 = .ok (.iconst 0, 1) := by decide +kernel
theorem dX11_readsRest_135 : decode cX11_readsRest 135 = .ok (.sipush 999, 3) := by decide +kernel
theorem dX11_readsRest_138 : decode cX11_readsRest 138 = .ok (.invokevirtual 117, 3) := by decide +kernel
theorem dX11_readsRest_141 : decode cX11_readsRest 141 = .ok (.ifCond .eq 7, 3) := by decide +kernel
theorem dX11_readsRest_144 : decode cX11_readsRest 144 = .ok (.iconst 1, 1) := by decide +kernel
theorem dX11_readsRest_145 : decode cX11_readsRest 145 = .ok (.goto 4, 3) := by decide +kernel
theorem dX11_readsRest_148 : decode cX11_readsRest 148 = .ok (.iconst 0, 1) := by decide +kernel
theorem dX11_readsRest_149 : decode cX11_readsRest 149 = .ok (.ireturn, 1) := by decide +kernel
theorem dX11_readsRest_150 : decode cX11_readsRest 150 = .ok (.aload_n 0, 1) := by decide +kernel
theorem dX11_readsRest_151 : decode cX11_readsRest 151 = .ok (.iconst 0, 1) := by decide +kernel
theorem dX11_readsRest_152 : decode cX11_readsRest 152 = .ok (.iconst 0, 1) := by decide +kernel
theorem dX11_readsRest_153 : decode cX11_readsRest 153 = .ok (.bipush 11, 2) := by decide +kernel
theorem dX11_readsRest_155 : decode cX11_readsRest 155 = .ok (.invokevirtual 117, 3) := by decide +kernel
theorem dX11_readsRest_158 : decode cX11_readsRest 158 = .ok (.ifCond .eq 30, 3) := by decide +kernel
theorem dX11_readsRest_161 : decode cX11_readsRest 161 = .ok (.aload_n 0, 1) := by decide +kernel
theorem dX11_readsRest_162 : decode cX11_readsRest 162 = .ok (.iconst 1, 1) := by decide +kernel
theorem dX11_readsRest_163 : decode cX11_readsRest 163 = .ok (.iconst 0, 1) := by decide +kernel
theorem dX11_readsRest_164 : decode cX11_readsRest 164 = .ok (.bipush 99, 2) := by decide +kernel
theorem dX11_readsRest_166 : decode cX11_readsRest 166 = .ok (.invokevirtual 117, 3) := by decide +kernel
theorem dX11_readsRest_169 : decode cX11_readsRest 169 = .ok (.ifCond .eq 19, 3) := by decide +kernel
theorem dX11_readsRest_172 : decode cX11_readsRest 172 = .ok (.aload_n 0, 1) := by decide +kernel
theorem dX11_readsRest_173 : decode cX11_readsRest 173 = .ok (.iconst 2, 1) := by decide +kernel
theorem dX11_readsRest_174 : decode cX11_readsRest 174 = .ok (.iconst 0, 1) := by decide +kernel
theorem dX11_readsRest_175 : decode cX11_readsRest 175 = .ok (.sipush 9999, 3) := by decide +kernel
theorem dX11_readsRest_178 : decode cX11_readsRest 178 = .ok (.invokevirtual 117, 3) := by decide +kernel
theorem dX11_readsRest_181 : decode cX11_readsRest 181 = .ok (.ifCond .eq 7, 3) := by decide +kernel
theorem dX11_readsRest_184 : decode cX11_readsRest 184 = .ok (.iconst 1, 1) := by decide +kernel
theorem dX11_readsRest_185 : decode cX11_readsRest 185 = .ok (.goto 4, 3) := by decide +kernel
theorem dX11_readsRest_188 : decode cX11_readsRest 188 = .ok (.iconst 0, 1) := by decide +kernel
theorem dX11_readsRest_189 : decode cX11_readsRest 189 = .ok (.ireturn, 1) := by decide +kernel
theorem dX11_readsRest_190 : decode cX11_readsRest 190 = .ok (.aload_n 0, 1) := by decide +kernel
theorem dX11_readsRest_191 : decode cX11_readsRest 191 = .ok (.iconst 0, 1) := by decide +kernel
theorem dX11_readsRest_192 : decode cX11_readsRest 192 = .ok (.iconst 0, 1) := by decide +kernel
theorem dX11_readsRest_193 : decode cX11_readsRest 193 = .ok (.bipush 11, 2) := by decide +kernel
theorem dX11_readsRest_195 : decode cX11_readsRest 195 = .ok (.invokevirtual 117, 3) := by decide +kernel
theorem dX11_readsRest_198 : decode cX11_readsRest 198 = .ok (.ifCond .eq 36, 3) := by decide +kernel
theorem dX11_readsRest_201 : decode cX11_readsRest 201 = .ok (.aload_n 0, 1) := by decide +kernel
theorem dX11_readsRest_202 : decode cX11_readsRest 202 = .ok (.iconst 1, 1) := by decide +kernel
theorem dX11_readsRest_203 : decode cX11_readsRest 203 = .ok (.iconst 0, 1) := by decide +kernel
theorem dX11_readsRest_204 : decode cX11_readsRest 204 = .ok (.bipush 23, 2) := by decide +kernel
theorem dX11_readsRest_206 : decode cX11_readsRest 206 = .ok (.invokevirtual 117, 3) := by decide +kernel
theorem dX11_readsRest_209 : decode cX11_readsRest 209 = .ok (.ifCond .eq 25, 3) := by decide +kernel
theorem dX11_readsRest_212 : decode cX11_readsRest 212 = .ok (.aload_n 0, 1) := by decide +kernel
theorem dX11_readsRest_213 : decode cX11_readsRest 213 = .ok (.iconst 2, 1) := by decide +kernel
theorem dX11_readsRest_214 : decode cX11_readsRest 214 = .ok (.aload_n 0, 1) := by decide +kernel
theorem dX11_readsRest_215 : decode cX11_readsRest 215 = .ok (.getfield 13, 3) := by decide +kernel
theorem dX11_readsRest_218 : decode cX11_readsRest 218 = .ok (.iload_n 2, 1) := by decide +kernel
theorem dX11_readsRest_219 : decode cX11_readsRest 219 = .ok (.iconst 2, 1) := by decide +kernel
theorem dX11_readsRest_220 : decode cX11_readsRest 220 = .ok (.iadd, 1) := by decide +kernel
theorem dX11_readsRest_221 : decode cX11_readsRest 221 = .ok (.iaload, 1) := by decide +kernel
theorem dX11_readsRest_222 : decode cX11_readsRest 222 = .ok (.bipush 23, 2) := by decide +kernel
theorem dX11_readsRest_224 : decode cX11_readsRest 224 = .ok (.invokevirtual 117, 3) := by decide +kernel
theorem dX11_readsRest_227 : decode cX11_readsRest 227 = .ok (.ifCond .eq 7, 3) := by decide +kernel
theorem dX11_readsRest_230 : decode cX11_readsRest 230 = .ok (.iconst 1, 1) := by decide +kernel
theorem dX11_readsRest_231 : decode cX11_readsRest 231 = .ok (.goto 4, 3) := by decide +kernel
theorem dX11_readsRest_234 : decode cX11_readsRest 234 = .ok (.iconst 0, 1) := by decide +kernel
theorem dX11_readsRest_235 : decode cX11_readsRest 235 = .ok (.ireturn, 1) := by decide +kernel
theorem dX11_readsRest_236 : decode cX11_readsRest 236 = .ok (.aload_n 0, 1) := by decide +kernel
theorem dX11_readsRest_237 : decode cX11_readsRest 237 = .ok (.iconst 0, 1) := by decide +kernel
theorem dX11_readsRest_238 : decode cX11_readsRest 238 = .ok (.iconst 0, 1) := by decide +kernel
theorem dX11_readsRest_239 : decode cX11_readsRest 239 = .ok (.bipush 23, 2) := by decide +kernel
theorem dX11_readsRest_241 : decode cX11_readsRest 241 = .ok (.invokevirtual 117, 3) := by decide +kernel
theorem dX11_readsRest_244 : decode cX11_readsRest 244 = .ok (.ifCond .eq 18, 3) := by decide +kernel
theorem dX11_readsRest_247 : decode cX11_readsRest 247 = .ok (.aload_n 0, 1) := by decide +kernel
theorem dX11_readsRest_248 : decode cX11_readsRest 248 = .ok (.iconst 1, 1) := by decide +kernel
theorem dX11_readsRest_249 : decode cX11_readsRest 249 = .ok (.iconst 0, 1) := by decide +kernel
theorem dX11_readsRest_250 : decode cX11_readsRest 250 = .ok (.bipush 90, 2) := by decide +kernel
theorem dX11_readsRest_252 : decode cX11_readsRest 252 = .ok (.invokevirtual 117, 3) := by decide +kernel
theorem dX11_readsRest_255 : decode cX11_readsRest 255 = .ok (.ifCond .eq 7, 3) := by decide +kernel
theorem dX11_readsRest_258 : decode cX11_readsRest 258 = .ok (.iconst 1, 1) := by decide +kernel
theorem dX11_readsRest_259 : decode cX11_readsRest 259 = .ok (.goto 4, 3) := by decide +kernel
theorem dX11_readsRest_262 : decode cX11_readsRest 262 = .ok (.iconst 0, 1) := by decide +kernel
theorem dX11_readsRest_263 : decode cX11_readsRest 263 = .ok (.ireturn, 1) := by decide +kernel
theorem dX11_readsRest_264 : decode cX11_readsRest 264 = .ok (.aload_n 0, 1) := by decide +kernel
theorem dX11_readsRest_265 : decode cX11_readsRest 265 = .ok (.iconst 0, 1) := by decide +kernel
theorem dX11_readsRest_266 : decode cX11_readsRest 266 = .ok (.iconst 0, 1) := by decide +kernel
theorem dX11_readsRest_267 : decode cX11_readsRest 267 = .ok (.iconst 3, 1) := by decide +kernel
theorem dX11_readsRest_268 : decode cX11_readsRest 268 = .ok (.invokevirtual 117, 3) := by decide +kernel
theorem dX11_readsRest_271 : decode cX11_readsRest 271 = .ok (.ifCond .eq 41, 3) := by decide +kernel
theorem dX11_readsRest_274 : decode cX11_readsRest 274 = .ok (.aload_n 0, 1) := by decide +kernel
theorem dX11_readsRest_275 : decode cX11_readsRest 275 = .ok (.iconst 1, 1) := by decide +kernel
theorem dX11_readsRest_276 : decode cX11_readsRest 276 = .ok (.iconst 1, 1) := by decide +kernel
theorem dX11_readsRest_277 : decode cX11_readsRest 277 = .ok (.sipush 9999, 3) := by decide +kernel
theorem dX11_readsRest_280 : decode cX11_readsRest 280 = .ok (.invokevirtual 117, 3) := by decide +kernel
theorem dX11_readsRest_283 : decode cX11_readsRest 283 = .ok (.ifCond .eq 29, 3) := by decide +kernel
theorem dX11_readsRest_286 : decode cX11_readsRest 286 = .ok (.aload_n 0, 1) := by decide +kernel
theorem dX11_readsRest_287 : decode cX11_readsRest 287 = .ok (.iconst 2, 1) := by decide +kernel
theorem dX11_readsRest_288 : decode cX11_readsRest 288 = .ok (.iconst 0, 1) := by decide +kernel
theorem dX11_readsRest_289 : decode cX11_readsRest 289 = .ok (.bipush 9, 2) := by decide +kernel
theorem dX11_readsRest_291 : decode cX11_readsRest 291 = .ok (.invokevirtual 117, 3) := by decide +kernel
theorem dX11_readsRest_294 : decode cX11_readsRest 294 = .ok (.ifCond .eq 18, 3) := by decide +kernel
theorem dX11_readsRest_297 : decode cX11_readsRest 297 = .ok (.aload_n 0, 1) := by decide +kernel
theorem dX11_readsRest_298 : decode cX11_readsRest 298 = .ok (.iconst 3, 1) := by decide +kernel
theorem dX11_readsRest_299 : decode cX11_readsRest 299 = .ok (.iconst 0, 1) := by decide +kernel
theorem dX11_readsRest_300 : decode cX11_readsRest 300 = .ok (.bipush 9, 2) := by decide +kernel
theorem dX11_readsRest_302 : decode cX11_readsRest 302 = .ok (.invokevirtual 117, 3) := by decide +kernel
theorem dX11_readsRest_305 : decode cX11_readsRest 305 = .ok (.ifCond .eq 7, 3) := by decide +kernel
theorem dX11_readsRest_308 : decode cX11_readsRest 308 = .ok (.iconst 1, 1) := by decide +kernel
theorem dX11_readsRest_309 : decode cX11_readsRest 309 = .ok (.goto 4, 3) := by decide +kernel
theorem dX11_readsRest_312 : decode cX11_readsRest 312 = .ok (.iconst 0, 1) := by decide +kernel
theorem dX11_readsRest_313 : decode cX11_readsRest 313 = .ok (.ireturn, 1) := by decide +kernel
theorem dX11_readsRest_314 : decode cX11_readsRest 314 = .ok (.aload_n 0, 1) := by decide +kernel
theorem dX11_readsRest_315 : decode cX11_readsRest 315 = .ok (.iconst 0, 1) := by decide +kernel
theorem dX11_readsRest_316 : decode cX11_readsRest 316 = .ok (.iconst 0, 1) := by decide +kernel
theorem dX11_readsRest_317 : decode cX11_readsRest 317 = .ok (.bipush 60, 2) := by decide +kernel
theorem dX11_readsRest_319 : decode cX11_readsRest 319 = .ok (.invokevirtual 117, 3) := by decide +kernel
theorem dX11_readsRest_322 : decode cX11_readsRest 322 = .ok (.ireturn, 1) := by decide +kernel
theorem dX11_readsRest_323 : decode cX11_readsRest 323 = .ok (.aload_n 0, 1) := by decide +kernel
theorem dX11_readsRest_324 : decode cX11_readsRest 324 = .ok (.iconst 0, 1) := by decide +kernel
theorem dX11_readsRest_325 : decode cX11_readsRest 325 = .ok (.iconst 0, 1) := by decide +kernel
theorem dX11_readsRest_326 : decode cX11_readsRest 326 = .ok (.bipush 99, 2) := by decide +kernel
theorem dX11_readsRest_328 : decode cX11_readsRest 328 = .ok (.invokevirtual 117, 3) := by decide +kernel
theorem dX11_readsRest_331 : decode cX11_readsRest 331 = .ok (.ireturn, 1) := by decide +kernel
theorem dX11_readsLine_0 : decode cX11_readsLine 0 = .ok (.aload_n 0, 1) := by decide +kernel
theorem dX11_readsLine_1 : decode cX11_readsLine 1 = .ok (.ldc 121, 2) := by decide +kernel
theorem dX11_readsLine_3 : decode cX11_readsLine 3 = .ok (.iconst 4, 1) := by decide +kernel
theorem dX11_readsLine_4 : decode cX11_readsLine 4 = .ok (.invokevirtual 122, 3) := by decide +kernel
theorem dX11_readsLine_7 : decode cX11_readsLine 7 = .ok (.ifCond .eq 7, 3) := by decide +kernel
theorem dX11_readsLine_10 : decode cX11_readsLine 10 = .ok (.iconst 0, 1) := by decide +kernel
theorem dX11_readsLine_11 : decode cX11_readsLine 11 = .ok (.goto 106, 3) := by decide +kernel
theorem dX11_readsLine_14 : decode cX11_readsLine 14 = .ok (.aload_n 0, 1) := by decide +kernel
theorem dX11_readsLine_15 : decode cX11_readsLine 15 = .ok (.ldc 125, 2) := by decide +kernel
theorem dX11_readsLine_17 : decode cX11_readsLine 17 = .ok (.iconst 4, 1) := by decide +kernel
theorem dX11_readsLine_18 : decode cX11_readsLine 18 = .ok (.invokevirtual 122, 3) := by decide +kernel
theorem dX11_readsLine_21 : decode cX11_readsLine 21 = .ok (.ifCond .eq 7, 3) := by decide +kernel
theorem dX11_readsLine_24 : decode cX11_readsLine 24 = .ok (.iconst 1, 1) := by decide +kernel
theorem dX11_readsLine_25 : decode cX11_readsLine 25 = .ok (.goto 92, 3) := by decide +kernel
theorem dX11_readsLine_28 : decode cX11_readsLine 28 = .ok (.aload_n 0, 1) := by decide +kernel
theorem dX11_readsLine_29 : decode cX11_readsLine 29 = .ok (.ldc 126, 2) := by decide +kernel
theorem dX11_readsLine_31 : decode cX11_readsLine 31 = .ok (.bipush 6, 2) := by decide +kernel
theorem dX11_readsLine_33 : decode cX11_readsLine 33 = .ok (.invokevirtual 122, 3) := by decide +kernel
theorem dX11_readsLine_36 : decode cX11_readsLine 36 = .ok (.ifCond .eq 7, 3) := by decide +kernel
theorem dX11_readsLine_39 : decode cX11_readsLine 39 = .ok (.iconst 2, 1) := by decide +kernel
theorem dX11_readsLine_40 : decode cX11_readsLine 40 = .ok (.goto 77, 3) := by decide +kernel
theorem dX11_readsLine_43 : decode cX11_readsLine 43 = .ok (.aload_n 0, 1) := by decide +kernel
theorem dX11_readsLine_44 : decode cX11_readsLine 44 = .ok (.ldc 127, 2) := by decide +kernel
theorem dX11_readsLine_46 : decode cX11_readsLine 46 = .ok (.iconst 4, 1) := by decide +kernel
theorem dX11_readsLine_47 : decode cX11_readsLine 47 = .ok (.invokevirtual 122, 3) := by decide +kernel
theorem dX11_readsLine_50 : decode cX11_readsLine 50 = .ok (.ifCond .eq 7, 3) := by decide +kernel
theorem dX11_readsLine_53 : decode cX11_readsLine 53 = .ok (.iconst 3, 1) := by decide +kernel
theorem dX11_readsLine_54 : decode cX11_readsLine 54 = .ok (.goto 63, 3) := by decide +kernel
theorem dX11_readsLine_57 : decode cX11_readsLine 57 = .ok (.aload_n 0, 1) := by decide +kernel
theorem dX11_readsLine_58 : decode cX11_readsLine 58 = .ok (.ldc 128, 2) := by decide +kernel
theorem dX11_readsLine_60 : decode cX11_readsLine 60 = .ok (.iconst 4, 1) := by decide +kernel
theorem dX11_readsLine_61 : decode cX11_readsLine 61 = .ok (.invokevirtual 122, 3) := by decide +kernel
theorem dX11_readsLine_64 : decode cX11_readsLine 64 = .ok (.ifCond .eq 7, 3) := by decide +kernel
theorem dX11_readsLine_67 : decode cX11_readsLine 67 = .ok (.iconst 4, 1) := by decide +kernel
theorem dX11_readsLine_68 : decode cX11_readsLine 68 = .ok (.goto 49, 3) := by decide +kernel
theorem dX11_readsLine_71 : decode cX11_readsLine 71 = .ok (.aload_n 0, 1) := by decide +kernel
theorem dX11_readsLine_72 : decode cX11_readsLine 72 = .ok (.sipush 17059, 3) := by decide +kernel
theorem dX11_readsLine_75 : decode cX11_readsLine 75 = .ok (.iconst 3, 1) := by decide +kernel
theorem dX11_readsLine_76 : decode cX11_readsLine 76 = .ok (.invokevirtual 122, 3) := by decide +kernel
theorem dX11_readsLine_79 : decode cX11_readsLine 79 = .ok (.ifCond .eq 7, 3) := by decide +kernel
theorem dX11_readsLine_82 : decode cX11_readsLine 82 = .ok (.iconst 5, 1) := by decide +kernel
theorem dX11_readsLine_83 : decode cX11_readsLine 83 = .ok (.goto 34, 3) := by decide +kernel
theorem dX11_readsLine_86 : decode cX11_readsLine 86 = .ok (.aload_n 0, 1) := by decide +kernel
theorem dX11_readsLine_87 : decode cX11_readsLine 87 = .ok (.ldc 129, 2) := by decide +kernel
theorem dX11_readsLine_89 : decode cX11_readsLine 89 = .ok (.iconst 4, 1) := by decide +kernel
theorem dX11_readsLine_90 : decode cX11_readsLine 90 = .ok (.invokevirtual 122, 3) := by decide +kernel
theorem dX11_readsLine_93 : decode cX11_readsLine 93 = .ok (.ifCond .eq 8, 3) := by decide +kernel
theorem dX11_readsLine_96 : decode cX11_readsLine 96 = .ok (.bipush 6, 2) := by decide +kernel
theorem dX11_readsLine_98 : decode cX11_readsLine 98 = .ok (.goto 19, 3) := by decide +kernel
theorem dX11_readsLine_101 : decode cX11_readsLine 101 = .ok (.aload_n 0, 1) := by decide +kernel
theorem dX11_readsLine_102 : decode cX11_readsLine 102 = .ok (.ldc 130, 2) := by decide +kernel
theorem dX11_readsLine_104 : decode cX11_readsLine 104 = .ok (.iconst 4, 1) := by decide +kernel
theorem dX11_readsLine_105 : decode cX11_readsLine 105 = .ok (.invokevirtual 122, 3) := by decide +kernel
theorem dX11_readsLine_108 : decode cX11_readsLine 108 = .ok (.ifCond .eq 8, 3) := by decide +kernel
theorem dX11_readsLine_111 : decode cX11_readsLine 111 = .ok (.bipush 7, 2) := by decide +kernel
theorem dX11_readsLine_113 : decode cX11_readsLine 113 = .ok (.goto 4, 3) := by decide +kernel
theorem dX11_readsLine_116 : decode cX11_readsLine 116 = .ok (.iconst (-1), 1) := by decide +kernel
theorem dX11_readsLine_117 : decode cX11_readsLine 117 = .ok (.istore_n 1, 1) := by decide +kernel
theorem dX11_readsLine_118 : decode cX11_readsLine 118 = .ok (.iload_n 1, 1) := by decide +kernel
theorem dX11_readsLine_119 : decode cX11_readsLine 119 = .ok (.iconst (-1), 1) := by decide +kernel
theorem dX11_readsLine_120 : decode cX11_readsLine 120 = .ok (.if_icmp .ne 5, 3) := by decide +kernel
theorem dX11_readsLine_123 : decode cX11_readsLine 123 = .ok (.iconst 0, 1) := by decide +kernel
theorem dX11_readsLine_124 : decode cX11_readsLine 124 = .ok (.ireturn, 1) := by decide +kernel
theorem dX11_readsLine_125 : decode cX11_readsLine 125 = .ok (.aload_n 0, 1) := by decide +kernel
theorem dX11_readsLine_126 : decode cX11_readsLine 126 = .ok (.invokevirtual 114, 3) := by decide +kernel
theorem dX11_readsLine_129 : decode cX11_readsLine 129 = .ok (.aload_n 0, 1) := by decide +kernel
theorem dX11_readsLine_130 : decode cX11_readsLine 130 = .ok (.getfield 13, 3) := by decide +kernel
theorem dX11_readsLine_133 : decode cX11_readsLine 133 = .ok (.bipush 6, 2) := by decide +kernel
theorem dX11_readsLine_135 : decode cX11_readsLine 135 = .ok (.aload_n 0, 1) := by decide +kernel
theorem dX11_readsLine_136 : decode cX11_readsLine 136 = .ok (.getfield 111, 3) := by decide +kernel
theorem dX11_readsLine_139 : decode cX11_readsLine 139 = .ok (.imul, 1) := by decide +kernel
theorem dX11_readsLine_140 : decode cX11_readsLine 140 = .ok (.iload_n 1, 1) := by decide +kernel
theorem dX11_readsLine_141 : decode cX11_readsLine 141 = .ok (.iastore, 1) := by decide +kernel
theorem dX11_readsLine_142 : decode cX11_readsLine 142 = .ok (.aload_n 0, 1) := by decide +kernel
theorem dX11_readsLine_143 : decode cX11_readsLine 143 = .ok (.iload_n 1, 1) := by decide +kernel
theorem dX11_readsLine_144 : decode cX11_readsLine 144 = .ok (.invokevirtual 131, 3) := by decide +kernel
theorem dX11_readsLine_147 : decode cX11_readsLine 147 = .ok (.ifCond .ne 5, 3) := by decide +kernel
theorem dX11_readsLine_150 : decode cX11_readsLine 150 = .ok (.iconst 0, 1) := by decide +kernel
theorem dX11_readsLine_151 : decode cX11_readsLine 151 = .ok (.ireturn, 1) := by decide +kernel
theorem dX11_readsLine_152 : decode cX11_readsLine 152 = .ok (.aload_n 0, 1) := by decide +kernel
theorem dX11_readsLine_153 : decode cX11_readsLine 153 = .ok (.dup, 1) := by decide +kernel
theorem dX11_readsLine_154 : decode cX11_readsLine 154 = .ok (.getfield 111, 3) := by decide +kernel
theorem dX11_readsLine_157 : decode cX11_readsLine 157 = .ok (.iconst 1, 1) := by decide +kernel
theorem dX11_readsLine_158 : decode cX11_readsLine 158 = .ok (.iadd, 1) := by decide +kernel
theorem dX11_readsLine_159 : decode cX11_readsLine 159 = .ok (.putfield 111, 3) := by decide +kernel
theorem dX11_readsLine_162 : decode cX11_readsLine 162 = .ok (.iconst 1, 1) := by decide +kernel
theorem dX11_readsLine_163 : decode cX11_readsLine 163 = .ok (.ireturn, 1) := by decide +kernel
theorem dX11_fault_0 : decode cX11_fault 0 = .ok (.aload_n 0, 1) := by decide +kernel
theorem dX11_fault_1 : decode cX11_fault 1 = .ok (.iconst 0, 1) := by decide +kernel
theorem dX11_fault_2 : decode cX11_fault 2 = .ok (.putfield 98, 3) := by decide +kernel
theorem dX11_fault_5 : decode cX11_fault 5 = .ok (.aload_n 0, 1) := by decide +kernel
theorem dX11_fault_6 : decode cX11_fault 6 = .ok (.iconst 0, 1) := by decide +kernel
theorem dX11_fault_7 : decode cX11_fault 7 = .ok (.putfield 111, 3) := by decide +kernel
theorem dX11_fault_10 : decode cX11_fault 10 = .ok (.aload_n 0, 1) := by decide +kernel
theorem dX11_fault_11 : decode cX11_fault 11 = .ok (.invokevirtual 114, 3) := by decide +kernel
theorem dX11_fault_14 : decode cX11_fault 14 = .ok (.aload_n 0, 1) := by decide +kernel
theorem dX11_fault_15 : decode cX11_fault 15 = .ok (.invokevirtual 135, 3) := by decide +kernel
theorem dX11_fault_18 : decode cX11_fault 18 = .ok (.ifCond .ne 8, 3) := by decide +kernel
theorem dX11_fault_21 : decode cX11_fault 21 = .ok (.aload_n 0, 1) := by decide +kernel
theorem dX11_fault_22 : decode cX11_fault 22 = .ok (.getfield 101, 3) := by decide +kernel
theorem dX11_fault_25 : decode cX11_fault 25 = .ok (.ireturn, 1) := by decide +kernel
theorem dX11_fault_26 : decode cX11_fault 26 = .ok (.aload_n 0, 1) := by decide +kernel
theorem dX11_fault_27 : decode cX11_fault 27 = .ok (.getfield 101, 3) := by decide +kernel
theorem dX11_fault_30 : decode cX11_fault 30 = .ok (.aload_n 0, 1) := by decide +kernel
theorem dX11_fault_31 : decode cX11_fault 31 = .ok (.getfield 93, 3) := by decide +kernel
theorem dX11_fault_34 : decode cX11_fault 34 = .ok (.if_icmp .ge 70, 3) := by decide +kernel
theorem dX11_fault_37 : decode cX11_fault 37 = .ok (.aload_n 0, 1) := by decide +kernel
theorem dX11_fault_38 : decode cX11_fault 38 = .ok (.getfield 108, 3) := by decide +kernel
theorem dX11_fault_41 : decode cX11_fault 41 = .ok (.aload_n 0, 1) := by decide +kernel
theorem dX11_fault_42 : decode cX11_fault 42 = .ok (.getfield 101, 3) := by decide +kernel
theorem dX11_fault_45 : decode cX11_fault 45 = .ok (.isub, 1) := by decide +kernel
theorem dX11_fault_46 : decode cX11_fault 46 = .ok (.iconst 1, 1) := by decide +kernel
theorem dX11_fault_47 : decode cX11_fault 47 = .ok (.if_icmp .ne 30, 3) := by decide +kernel
theorem dX11_fault_50 : decode cX11_fault 50 = .ok (.aload_n 0, 1) := by decide +kernel
theorem dX11_fault_51 : decode cX11_fault 51 = .ok (.getfield 7, 3) := by decide +kernel
theorem dX11_fault_54 : decode cX11_fault 54 = .ok (.aload_n 0, 1) := by decide +kernel
theorem dX11_fault_55 : decode cX11_fault 55 = .ok (.getfield 101, 3) := by decide +kernel
theorem dX11_fault_58 : decode cX11_fault 58 = .ok (.iaload, 1) := by decide +kernel
theorem dX11_fault_59 : decode cX11_fault 59 = .ok (.bipush 59, 2) := by decide +kernel
theorem dX11_fault_61 : decode cX11_fault 61 = .ok (.if_icmp .ne 16, 3) := by decide +kernel
theorem dX11_fault_64 : decode cX11_fault 64 = .ok (.aload_n 0, 1) := by decide +kernel
theorem dX11_fault_65 : decode cX11_fault 65 = .ok (.getfield 111, 3) := by decide +kernel
theorem dX11_fault_68 : decode cX11_fault 68 = .ok (.bipush 9, 2) := by decide +kernel
theorem dX11_fault_70 : decode cX11_fault 70 = .ok (.if_icmp .ge 7, 3) := by decide +kernel
theorem dX11_fault_73 : decode cX11_fault 73 = .ok (.iconst 1, 1) := by decide +kernel
theorem dX11_fault_74 : decode cX11_fault 74 = .ok (.goto 4, 3) := by decide +kernel
theorem dX11_fault_77 : decode cX11_fault 77 = .ok (.iconst 0, 1) := by decide +kernel
theorem dX11_fault_78 : decode cX11_fault 78 = .ok (.istore_n 1, 1) := by decide +kernel
theorem dX11_fault_79 : decode cX11_fault 79 = .ok (.iload_n 1, 1) := by decide +kernel
theorem dX11_fault_80 : decode cX11_fault 80 = .ok (.ifCond .eq 12, 3) := by decide +kernel
theorem dX11_fault_83 : decode cX11_fault 83 = .ok (.aload_n 0, 1) := by decide +kernel
theorem dX11_fault_84 : decode cX11_fault 84 = .ok (.invokevirtual 114, 3) := by decide +kernel
theorem dX11_fault_87 : decode cX11_fault 87 = .ok (.aload_n 0, 1) := by decide +kernel
theorem dX11_fault_88 : decode cX11_fault 88 = .ok (.invokevirtual 135, 3) := by decide +kernel
theorem dX11_fault_91 : decode cX11_fault 91 = .ok (.istore_n 1, 1) := by decide +kernel
theorem dX11_fault_92 : decode cX11_fault 92 = .ok (.iload_n 1, 1) := by decide +kernel
theorem dX11_fault_93 : decode cX11_fault 93 = .ok (.ifCond .ne 8, 3) := by decide +kernel
theorem dX11_fault_96 : decode cX11_fault 96 = .ok (.aload_n 0, 1) := by decide +kernel
theorem dX11_fault_97 : decode cX11_fault 97 = .ok (.getfield 101, 3) := by decide +kernel
theorem dX11_fault_100 : decode cX11_fault 100 = .ok (.ireturn, 1) := by decide +kernel
theorem dX11_fault_101 : decode cX11_fault 101 = .ok (.goto (-75), 3) := by decide +kernel
theorem dX11_fault_104 : decode cX11_fault 104 = .ok (.iconst (-1), 1) := by decide +kernel
theorem dX11_fault_105 : decode cX11_fault 105 = .ok (.ireturn, 1) := by decide +kernel
theorem dX11_lay_0 : decode cX11_lay 0 = .ok (.aload_n 0, 1) := by decide +kernel
theorem dX11_lay_1 : decode cX11_lay 1 = .ok (.getfield 20, 3) := by decide +kernel
theorem dX11_lay_4 : decode cX11_lay 4 = .ok (.iload_n 1, 1) := by decide +kernel
theorem dX11_lay_5 : decode cX11_lay 5 = .ok (.iload_n 2, 1) := by decide +kernel
theorem dX11_lay_6 : decode cX11_lay 6 = .ok (.iastore, 1) := by decide +kernel
theorem dX11_lay_7 : decode cX11_lay 7 = .ok (.aload_n 0, 1) := by decide +kernel
theorem dX11_lay_8 : decode cX11_lay 8 = .ok (.getfield 23, 3) := by decide +kernel
theorem dX11_lay_11 : decode cX11_lay 11 = .ok (.iload_n 1, 1) := by decide +kernel
theorem dX11_lay_12 : decode cX11_lay 12 = .ok (.iload_n 3, 1) := by decide +kernel
theorem dX11_lay_13 : decode cX11_lay 13 = .ok (.iastore, 1) := by decide +kernel
theorem dX11_lay_14 : decode cX11_lay 14 = .ok (.aload_n 0, 1) := by decide +kernel
theorem dX11_lay_15 : decode cX11_lay 15 = .ok (.getfield 26, 3) := by decide +kernel
theorem dX11_lay_18 : decode cX11_lay 18 = .ok (.iload_n 1, 1) := by decide +kernel
theorem dX11_lay_19 : decode cX11_lay 19 = .ok (.iload 4, 2) := by decide +kernel
theorem dX11_lay_21 : decode cX11_lay 21 = .ok (.iastore, 1) := by decide +kernel
theorem dX11_lay_22 : decode cX11_lay 22 = .ok (.aload_n 0, 1) := by decide +kernel
theorem dX11_lay_23 : decode cX11_lay 23 = .ok (.getfield 29, 3) := by decide +kernel
theorem dX11_lay_26 : decode cX11_lay 26 = .ok (.iload_n 1, 1) := by decide +kernel
theorem dX11_lay_27 : decode cX11_lay 27 = .ok (.iload 5, 2) := by decide +kernel
theorem dX11_lay_29 : decode cX11_lay 29 = .ok (.iastore, 1) := by decide +kernel
theorem dX11_lay_30 : decode cX11_lay 30 = .ok (.aload_n 0, 1) := by decide +kernel
theorem dX11_lay_31 : decode cX11_lay 31 = .ok (.dup, 1) := by decide +kernel
theorem dX11_lay_32 : decode cX11_lay 32 = .ok (.getfield 16, 3) := by decide +kernel
theorem dX11_lay_35 : decode cX11_lay 35 = .ok (.iconst 1, 1) := by decide +kernel
theorem dX11_lay_36 : decode cX11_lay 36 = .ok (.iload_n 1, 1) := by decide +kernel
theorem dX11_lay_37 : decode cX11_lay 37 = .ok (.ishl, 1) := by decide +kernel
theorem dX11_lay_38 : decode cX11_lay 38 = .ok (.ior, 1) := by decide +kernel
theorem dX11_lay_39 : decode cX11_lay 39 = .ok (.putfield 16, 3) := by decide +kernel
theorem dX11_lay_42 : decode cX11_lay 42 = .ok (.return_, 1) := by decide +kernel
theorem dX11_run_0 : decode cX11_run 0 = .ok (.aload_n 0, 1) := by decide +kernel
theorem dX11_run_1 : decode cX11_run 1 = .ok (.getfield 13, 3) := by decide +kernel
theorem dX11_run_4 : decode cX11_run 4 = .ok (.iload_n 1, 1) := by decide +kernel
theorem dX11_run_5 : decode cX11_run 5 = .ok (.iconst 1, 1) := by decide +kernel
theorem dX11_run_6 : decode cX11_run 6 = .ok (.iadd, 1) := by decide +kernel
theorem dX11_run_7 : decode cX11_run 7 = .ok (.iaload, 1) := by decide +kernel
theorem dX11_run_8 : decode cX11_run 8 = .ok (.istore_n 2, 1) := by decide +kernel
theorem dX11_run_9 : decode cX11_run 9 = .ok (.aload_n 0, 1) := by decide +kernel
theorem dX11_run_10 : decode cX11_run 10 = .ok (.getfield 13, 3) := by decide +kernel
theorem dX11_run_13 : decode cX11_run 13 = .ok (.iload_n 1, 1) := by decide +kernel
theorem dX11_run_14 : decode cX11_run 14 = .ok (.iconst 2, 1) := by decide +kernel
theorem dX11_run_15 : decode cX11_run 15 = .ok (.iadd, 1) := by decide +kernel
theorem dX11_run_16 : decode cX11_run 16 = .ok (.iaload, 1) := by decide +kernel
theorem dX11_run_17 : decode cX11_run 17 = .ok (.istore_n 3, 1) := by decide +kernel
theorem dX11_run_18 : decode cX11_run 18 = .ok (.aload_n 0, 1) := by decide +kernel
theorem dX11_run_19 : decode cX11_run 19 = .ok (.getfield 13, 3) := by decide +kernel
theorem dX11_run_22 : decode cX11_run 22 = .ok (.iload_n 1, 1) := by decide +kernel
theorem dX11_run_23 : decode cX11_run 23 = .ok (.iconst 3, 1) := by decide +kernel
theorem dX11_run_24 : decode cX11_run 24 = .ok (.iadd, 1) := by decide +kernel
theorem dX11_run_25 : decode cX11_run 25 = .ok (.iaload, 1) := by decide +kernel
theorem dX11_run_26 : decode cX11_run 26 = .ok (.istore 4, 2) := by decide +kernel
theorem dX11_run_28 : decode cX11_run 28 = .ok (.aload_n 0, 1) := by decide +kernel
theorem dX11_run_29 : decode cX11_run 29 = .ok (.getfield 13, 3) := by decide +kernel
theorem dX11_run_32 : decode cX11_run 32 = .ok (.iload_n 1, 1) := by decide +kernel
theorem dX11_run_33 : decode cX11_run 33 = .ok (.iaload, 1) := by decide +kernel
theorem dX11_run_34 : decode cX11_run 34 = .ok (.tableswitch 186 0 6 #[42, 87, 95, 126, 142, 150, 180], 42) := by decide +kernel
theorem dX11_run_76 : decode cX11_run 76 = .ok (.aload_n 0, 1) := by decide +kernel
theorem dX11_run_77 : decode cX11_run 77 = .ok (.getfield 16, 3) := by decide +kernel
theorem dX11_run_80 : decode cX11_run 80 = .ok (.iload_n 3, 1) := by decide +kernel
theorem dX11_run_81 : decode cX11_run 81 = .ok (.invokestatic 87, 3) := by decide +kernel
theorem dX11_run_84 : decode cX11_run 84 = .ok (.ifCond .ne 12, 3) := by decide +kernel
theorem dX11_run_87 : decode cX11_run 87 = .ok (.aload_n 0, 1) := by decide +kernel
theorem dX11_run_88 : decode cX11_run 88 = .ok (.iload_n 3, 1) := by decide +kernel
theorem dX11_run_89 : decode cX11_run 89 = .ok (.iconst 0, 1) := by decide +kernel
theorem dX11_run_90 : decode cX11_run 90 = .ok (.iconst 0, 1) := by decide +kernel
theorem dX11_run_91 : decode cX11_run 91 = .ok (.iconst 1, 1) := by decide +kernel
theorem dX11_run_92 : decode cX11_run 92 = .ok (.iconst 0, 1) := by decide +kernel
theorem dX11_run_93 : decode cX11_run 93 = .ok (.invokevirtual 139, 3) := by decide +kernel
theorem dX11_run_96 : decode cX11_run 96 = .ok (.aload_n 0, 1) := by decide +kernel
theorem dX11_run_97 : decode cX11_run 97 = .ok (.iload_n 2, 1) := by decide +kernel
theorem dX11_run_98 : decode cX11_run 98 = .ok (.iload_n 3, 1) := by decide +kernel
theorem dX11_run_99 : decode cX11_run 99 = .ok (.iload 4, 2) := by decide +kernel
theorem dX11_run_101 : decode cX11_run 101 = .ok (.aload_n 0, 1) := by decide +kernel
theorem dX11_run_102 : decode cX11_run 102 = .ok (.getfield 13, 3) := by decide +kernel
theorem dX11_run_105 : decode cX11_run 105 = .ok (.iload_n 1, 1) := by decide +kernel
theorem dX11_run_106 : decode cX11_run 106 = .ok (.iconst 4, 1) := by decide +kernel
theorem dX11_run_107 : decode cX11_run 107 = .ok (.iadd, 1) := by decide +kernel
theorem dX11_run_108 : decode cX11_run 108 = .ok (.iaload, 1) := by decide +kernel
theorem dX11_run_109 : decode cX11_run 109 = .ok (.aload_n 0, 1) := by decide +kernel
theorem dX11_run_110 : decode cX11_run 110 = .ok (.getfield 13, 3) := by decide +kernel
theorem dX11_run_113 : decode cX11_run 113 = .ok (.iload_n 1, 1) := by decide +kernel
theorem dX11_run_114 : decode cX11_run 114 = .ok (.iconst 5, 1) := by decide +kernel
theorem dX11_run_115 : decode cX11_run 115 = .ok (.iadd, 1) := by decide +kernel
theorem dX11_run_116 : decode cX11_run 116 = .ok (.iaload, 1) := by decide +kernel
theorem dX11_run_117 : decode cX11_run 117 = .ok (.invokevirtual 139, 3) := by decide +kernel
theorem dX11_run_120 : decode cX11_run 120 = .ok (.return_, 1) := by decide +kernel
theorem dX11_run_121 : decode cX11_run 121 = .ok (.aload_n 0, 1) := by decide +kernel
theorem dX11_run_122 : decode cX11_run 122 = .ok (.getfield 32, 3) := by decide +kernel
theorem dX11_run_125 : decode cX11_run 125 = .ok (.iload_n 2, 1) := by decide +kernel
theorem dX11_run_126 : decode cX11_run 126 = .ok (.iload_n 3, 1) := by decide +kernel
theorem dX11_run_127 : decode cX11_run 127 = .ok (.iastore, 1) := by decide +kernel
theorem dX11_run_128 : decode cX11_run 128 = .ok (.return_, 1) := by decide +kernel
theorem dX11_run_129 : decode cX11_run 129 = .ok (.aload_n 0, 1) := by decide +kernel
theorem dX11_run_130 : decode cX11_run 130 = .ok (.getfield 35, 3) := by decide +kernel
theorem dX11_run_133 : decode cX11_run 133 = .ok (.iload_n 2, 1) := by decide +kernel
theorem dX11_run_134 : decode cX11_run 134 = .ok (.iload_n 3, 1) := by decide +kernel
theorem dX11_run_135 : decode cX11_run 135 = .ok (.iastore, 1) := by decide +kernel
theorem dX11_run_136 : decode cX11_run 136 = .ok (.aload_n 0, 1) := by decide +kernel
theorem dX11_run_137 : decode cX11_run 137 = .ok (.getfield 38, 3) := by decide +kernel
theorem dX11_run_140 : decode cX11_run 140 = .ok (.iload_n 2, 1) := by decide +kernel
theorem dX11_run_141 : decode cX11_run 141 = .ok (.iload 4, 2) := by decide +kernel
theorem dX11_run_143 : decode cX11_run 143 = .ok (.iastore, 1) := by decide +kernel
theorem dX11_run_144 : decode cX11_run 144 = .ok (.aload_n 0, 1) := by decide +kernel
theorem dX11_run_145 : decode cX11_run 145 = .ok (.getfield 41, 3) := by decide +kernel
theorem dX11_run_148 : decode cX11_run 148 = .ok (.iload_n 2, 1) := by decide +kernel
theorem dX11_run_149 : decode cX11_run 149 = .ok (.iconst 0, 1) := by decide +kernel
theorem dX11_run_150 : decode cX11_run 150 = .ok (.iastore, 1) := by decide +kernel
theorem dX11_run_151 : decode cX11_run 151 = .ok (.aload_n 0, 1) := by decide +kernel
theorem dX11_run_152 : decode cX11_run 152 = .ok (.getfield 44, 3) := by decide +kernel
theorem dX11_run_155 : decode cX11_run 155 = .ok (.iload_n 2, 1) := by decide +kernel
theorem dX11_run_156 : decode cX11_run 156 = .ok (.bipush 23, 2) := by decide +kernel
theorem dX11_run_158 : decode cX11_run 158 = .ok (.iastore, 1) := by decide +kernel
theorem dX11_run_159 : decode cX11_run 159 = .ok (.return_, 1) := by decide +kernel
theorem dX11_run_160 : decode cX11_run 160 = .ok (.aload_n 0, 1) := by decide +kernel
theorem dX11_run_161 : decode cX11_run 161 = .ok (.getfield 41, 3) := by decide +kernel
theorem dX11_run_164 : decode cX11_run 164 = .ok (.iload_n 2, 1) := by decide +kernel
theorem dX11_run_165 : decode cX11_run 165 = .ok (.iload_n 3, 1) := by decide +kernel
theorem dX11_run_166 : decode cX11_run 166 = .ok (.iastore, 1) := by decide +kernel
theorem dX11_run_167 : decode cX11_run 167 = .ok (.aload_n 0, 1) := by decide +kernel
theorem dX11_run_168 : decode cX11_run 168 = .ok (.getfield 44, 3) := by decide +kernel
theorem dX11_run_171 : decode cX11_run 171 = .ok (.iload_n 2, 1) := by decide +kernel
theorem dX11_run_172 : decode cX11_run 172 = .ok (.iload 4, 2) := by decide +kernel
theorem dX11_run_174 : decode cX11_run 174 = .ok (.iastore, 1) := by decide +kernel
theorem dX11_run_175 : decode cX11_run 175 = .ok (.return_, 1) := by decide +kernel
theorem dX11_run_176 : decode cX11_run 176 = .ok (.aload_n 0, 1) := by decide +kernel
theorem dX11_run_177 : decode cX11_run 177 = .ok (.getfield 47, 3) := by decide +kernel
theorem dX11_run_180 : decode cX11_run 180 = .ok (.iload_n 2, 1) := by decide +kernel
theorem dX11_run_181 : decode cX11_run 181 = .ok (.iload_n 3, 1) := by decide +kernel
theorem dX11_run_182 : decode cX11_run 182 = .ok (.iastore, 1) := by decide +kernel
theorem dX11_run_183 : decode cX11_run 183 = .ok (.return_, 1) := by decide +kernel
theorem dX11_run_184 : decode cX11_run 184 = .ok (.aload_n 0, 1) := by decide +kernel
theorem dX11_run_185 : decode cX11_run 185 = .ok (.getfield 50, 3) := by decide +kernel
theorem dX11_run_188 : decode cX11_run 188 = .ok (.iload_n 2, 1) := by decide +kernel
theorem dX11_run_189 : decode cX11_run 189 = .ok (.iload_n 3, 1) := by decide +kernel
theorem dX11_run_190 : decode cX11_run 190 = .ok (.iastore, 1) := by decide +kernel
theorem dX11_run_191 : decode cX11_run 191 = .ok (.aload_n 0, 1) := by decide +kernel
theorem dX11_run_192 : decode cX11_run 192 = .ok (.getfield 53, 3) := by decide +kernel
theorem dX11_run_195 : decode cX11_run 195 = .ok (.iload_n 2, 1) := by decide +kernel
theorem dX11_run_196 : decode cX11_run 196 = .ok (.iload 4, 2) := by decide +kernel
theorem dX11_run_198 : decode cX11_run 198 = .ok (.iastore, 1) := by decide +kernel
theorem dX11_run_199 : decode cX11_run 199 = .ok (.aload_n 0, 1) := by decide +kernel
theorem dX11_run_200 : decode cX11_run 200 = .ok (.getfield 56, 3) := by decide +kernel
theorem dX11_run_203 : decode cX11_run 203 = .ok (.iload_n 2, 1) := by decide +kernel
theorem dX11_run_204 : decode cX11_run 204 = .ok (.aload_n 0, 1) := by decide +kernel
theorem dX11_run_205 : decode cX11_run 205 = .ok (.getfield 13, 3) := by decide +kernel
theorem dX11_run_208 : decode cX11_run 208 = .ok (.iload_n 1, 1) := by decide +kernel
theorem dX11_run_209 : decode cX11_run 209 = .ok (.iconst 4, 1) := by decide +kernel
theorem dX11_run_210 : decode cX11_run 210 = .ok (.iadd, 1) := by decide +kernel
theorem dX11_run_211 : decode cX11_run 211 = .ok (.iaload, 1) := by decide +kernel
theorem dX11_run_212 : decode cX11_run 212 = .ok (.iastore, 1) := by decide +kernel
theorem dX11_run_213 : decode cX11_run 213 = .ok (.return_, 1) := by decide +kernel
theorem dX11_run_214 : decode cX11_run 214 = .ok (.aload_n 0, 1) := by decide +kernel
theorem dX11_run_215 : decode cX11_run 215 = .ok (.iload_n 2, 1) := by decide +kernel
theorem dX11_run_216 : decode cX11_run 216 = .ok (.putfield 143, 3) := by decide +kernel
theorem dX11_run_219 : decode cX11_run 219 = .ok (.return_, 1) := by decide +kernel
theorem dX11_run_220 : decode cX11_run 220 = .ok (.aload_n 0, 1) := by decide +kernel
theorem dX11_run_221 : decode cX11_run 221 = .ok (.iload_n 2, 1) := by decide +kernel
theorem dX11_run_222 : decode cX11_run 222 = .ok (.putfield 146, 3) := by decide +kernel
theorem dX11_run_225 : decode cX11_run 225 = .ok (.return_, 1) := by decide +kernel
theorem dX11_town_0 : decode cX11_town 0 = .ok (.aload_n 0, 1) := by decide +kernel
theorem dX11_town_1 : decode cX11_town 1 = .ok (.invokevirtual 149, 3) := by decide +kernel
theorem dX11_town_4 : decode cX11_town 4 = .ok (.iconst (-1), 1) := by decide +kernel
theorem dX11_town_5 : decode cX11_town 5 = .ok (.if_icmp .eq 6, 3) := by decide +kernel
theorem dX11_town_8 : decode cX11_town 8 = .ok (.bipush (-4), 2) := by decide +kernel
theorem dX11_town_10 : decode cX11_town 10 = .ok (.ireturn, 1) := by decide +kernel
theorem dX11_town_11 : decode cX11_town 11 = .ok (.iconst 0, 1) := by decide +kernel
theorem dX11_town_12 : decode cX11_town 12 = .ok (.istore_n 1, 1) := by decide +kernel
theorem dX11_town_13 : decode cX11_town 13 = .ok (.iload_n 1, 1) := by decide +kernel
theorem dX11_town_14 : decode cX11_town 14 = .ok (.aload_n 0, 1) := by decide +kernel
theorem dX11_town_15 : decode cX11_town 15 = .ok (.getfield 111, 3) := by decide +kernel
theorem dX11_town_18 : decode cX11_town 18 = .ok (.if_icmp .ge 17, 3) := by decide +kernel
theorem dX11_town_21 : decode cX11_town 21 = .ok (.aload_n 0, 1) := by decide +kernel
theorem dX11_town_22 : decode cX11_town 22 = .ok (.bipush 6, 2) := by decide +kernel
theorem dX11_town_24 : decode cX11_town 24 = .ok (.iload_n 1, 1) := by decide +kernel
theorem dX11_town_25 : decode cX11_town 25 = .ok (.imul, 1) := by decide +kernel
theorem dX11_town_26 : decode cX11_town 26 = .ok (.invokevirtual 153, 3) := by decide +kernel
theorem dX11_town_29 : decode cX11_town 29 = .ok (.iinc 1 1, 3) := by decide +kernel
theorem dX11_town_32 : decode cX11_town 32 = .ok (.goto (-19), 3) := by decide +kernel
theorem dX11_town_35 : decode cX11_town 35 = .ok (.aload_n 0, 1) := by decide +kernel
theorem dX11_town_36 : decode cX11_town 36 = .ok (.iconst 0, 1) := by decide +kernel
theorem dX11_town_37 : decode cX11_town 37 = .ok (.putfield 93, 3) := by decide +kernel
theorem dX11_town_40 : decode cX11_town 40 = .ok (.aload_n 0, 1) := by decide +kernel
theorem dX11_town_41 : decode cX11_town 41 = .ok (.getfield 111, 3) := by decide +kernel
theorem dX11_town_44 : decode cX11_town 44 = .ok (.ireturn, 1) := by decide +kernel
theorem dX11_of_0 : decode cX11_of 0 = .ok (.aload_n 0, 1) := by decide +kernel
theorem dX11_of_1 : decode cX11_of 1 = .ok (.iload_n 1, 1) := by decide +kernel
theorem dX11_of_2 : decode cX11_of 2 = .ok (.invokevirtual 157, 3) := by decide +kernel
theorem dX11_of_5 : decode cX11_of 5 = .ok (.ifCond .ne 6, 3) := by decide +kernel
theorem dX11_of_8 : decode cX11_of 8 = .ok (.bipush (-2), 2) := by decide +kernel
theorem dX11_of_10 : decode cX11_of 10 = .ok (.ireturn, 1) := by decide +kernel
theorem dX11_of_11 : decode cX11_of 11 = .ok (.iload_n 2, 1) := by decide +kernel
theorem dX11_of_12 : decode cX11_of 12 = .ok (.tableswitch 115 0 8 #[52, 59, 66, 73, 80, 87, 94, 101, 108], 52) := by decide +kernel
theorem dX11_of_64 : decode cX11_of 64 = .ok (.aload_n 0, 1) := by decide +kernel
theorem dX11_of_65 : decode cX11_of 65 = .ok (.getfield 20, 3) := by decide +kernel
theorem dX11_of_68 : decode cX11_of 68 = .ok (.iload_n 1, 1) := by decide +kernel
theorem dX11_of_69 : decode cX11_of 69 = .ok (.iaload, 1) := by decide +kernel
theorem dX11_of_70 : decode cX11_of 70 = .ok (.ireturn, 1) := by decide +kernel
theorem dX11_of_71 : decode cX11_of 71 = .ok (.aload_n 0, 1) := by decide +kernel
theorem dX11_of_72 : decode cX11_of 72 = .ok (.getfield 23, 3) := by decide +kernel
theorem dX11_of_75 : decode cX11_of 75 = .ok (.iload_n 1, 1) := by decide +kernel
theorem dX11_of_76 : decode cX11_of 76 = .ok (.iaload, 1) := by decide +kernel
theorem dX11_of_77 : decode cX11_of 77 = .ok (.ireturn, 1) := by decide +kernel
theorem dX11_of_78 : decode cX11_of 78 = .ok (.aload_n 0, 1) := by decide +kernel
theorem dX11_of_79 : decode cX11_of 79 = .ok (.getfield 26, 3) := by decide +kernel
theorem dX11_of_82 : decode cX11_of 82 = .ok (.iload_n 1, 1) := by decide +kernel
theorem dX11_of_83 : decode cX11_of 83 = .ok (.iaload, 1) := by decide +kernel
theorem dX11_of_84 : decode cX11_of 84 = .ok (.ireturn, 1) := by decide +kernel
theorem dX11_of_85 : decode cX11_of 85 = .ok (.aload_n 0, 1) := by decide +kernel
theorem dX11_of_86 : decode cX11_of 86 = .ok (.getfield 29, 3) := by decide +kernel
theorem dX11_of_89 : decode cX11_of 89 = .ok (.iload_n 1, 1) := by decide +kernel
theorem dX11_of_90 : decode cX11_of 90 = .ok (.iaload, 1) := by decide +kernel
theorem dX11_of_91 : decode cX11_of 91 = .ok (.ireturn, 1) := by decide +kernel
theorem dX11_of_92 : decode cX11_of 92 = .ok (.aload_n 0, 1) := by decide +kernel
theorem dX11_of_93 : decode cX11_of 93 = .ok (.getfield 32, 3) := by decide +kernel
theorem dX11_of_96 : decode cX11_of 96 = .ok (.iload_n 1, 1) := by decide +kernel
theorem dX11_of_97 : decode cX11_of 97 = .ok (.iaload, 1) := by decide +kernel
theorem dX11_of_98 : decode cX11_of 98 = .ok (.ireturn, 1) := by decide +kernel
theorem dX11_of_99 : decode cX11_of 99 = .ok (.aload_n 0, 1) := by decide +kernel
theorem dX11_of_100 : decode cX11_of 100 = .ok (.getfield 35, 3) := by decide +kernel
theorem dX11_of_103 : decode cX11_of 103 = .ok (.iload_n 1, 1) := by decide +kernel
theorem dX11_of_104 : decode cX11_of 104 = .ok (.iaload, 1) := by decide +kernel
theorem dX11_of_105 : decode cX11_of 105 = .ok (.ireturn, 1) := by decide +kernel
theorem dX11_of_106 : decode cX11_of 106 = .ok (.aload_n 0, 1) := by decide +kernel
theorem dX11_of_107 : decode cX11_of 107 = .ok (.getfield 38, 3) := by decide +kernel
theorem dX11_of_110 : decode cX11_of 110 = .ok (.iload_n 1, 1) := by decide +kernel
theorem dX11_of_111 : decode cX11_of 111 = .ok (.iaload, 1) := by decide +kernel
theorem dX11_of_112 : decode cX11_of 112 = .ok (.ireturn, 1) := by decide +kernel
theorem dX11_of_113 : decode cX11_of 113 = .ok (.aload_n 0, 1) := by decide +kernel
theorem dX11_of_114 : decode cX11_of 114 = .ok (.getfield 41, 3) := by decide +kernel
theorem dX11_of_117 : decode cX11_of 117 = .ok (.iload_n 1, 1) := by decide +kernel
theorem dX11_of_118 : decode cX11_of 118 = .ok (.iaload, 1) := by decide +kernel
theorem dX11_of_119 : decode cX11_of 119 = .ok (.ireturn, 1) := by decide +kernel
theorem dX11_of_120 : decode cX11_of 120 = .ok (.aload_n 0, 1) := by decide +kernel
theorem dX11_of_121 : decode cX11_of 121 = .ok (.getfield 44, 3) := by decide +kernel
theorem dX11_of_124 : decode cX11_of 124 = .ok (.iload_n 1, 1) := by decide +kernel
theorem dX11_of_125 : decode cX11_of 125 = .ok (.iaload, 1) := by decide +kernel
theorem dX11_of_126 : decode cX11_of 126 = .ok (.ireturn, 1) := by decide +kernel
theorem dX11_of_127 : decode cX11_of 127 = .ok (.bipush (-3), 2) := by decide +kernel
theorem dX11_of_129 : decode cX11_of 129 = .ok (.ireturn, 1) := by decide +kernel
theorem dX11_isCup_0 : decode cX11_isCup 0 = .ok (.iload_n 0, 1) := by decide +kernel
theorem dX11_isCup_1 : decode cX11_isCup 1 = .ok (.i2l, 1) := by decide +kernel
theorem dX11_isCup_2 : decode cX11_isCup 2 = .ok (.lconst 0, 1) := by decide +kernel
theorem dX11_isCup_3 : decode cX11_isCup 3 = .ok (.ldc2_w 160, 3) := by decide +kernel
theorem dX11_isCup_6 : decode cX11_isCup 6 = .ok (.invokestatic 83, 3) := by decide +kernel
theorem dX11_isCup_9 : decode cX11_isCup 9 = .ok (.ireturn, 1) := by decide +kernel
theorem dX11_cup_0 : decode cX11_cup 0 = .ok (.iload_n 1, 1) := by decide +kernel
theorem dX11_cup_1 : decode cX11_cup 1 = .ok (.invokestatic 162, 3) := by decide +kernel
theorem dX11_cup_4 : decode cX11_cup 4 = .ok (.ifCond .ne 6, 3) := by decide +kernel
theorem dX11_cup_7 : decode cX11_cup 7 = .ok (.bipush (-2), 2) := by decide +kernel
theorem dX11_cup_9 : decode cX11_cup 9 = .ok (.ireturn, 1) := by decide +kernel
theorem dX11_cup_10 : decode cX11_cup 10 = .ok (.iload_n 2, 1) := by decide +kernel
theorem dX11_cup_11 : decode cX11_cup 11 = .ok (.ifCond .ne 12, 3) := by decide +kernel
theorem dX11_cup_14 : decode cX11_cup 14 = .ok (.aload_n 0, 1) := by decide +kernel
theorem dX11_cup_15 : decode cX11_cup 15 = .ok (.getfield 50, 3) := by decide +kernel
theorem dX11_cup_18 : decode cX11_cup 18 = .ok (.iload_n 1, 1) := by decide +kernel
theorem dX11_cup_19 : decode cX11_cup 19 = .ok (.iaload, 1) := by decide +kernel
theorem dX11_cup_20 : decode cX11_cup 20 = .ok (.goto 33, 3) := by decide +kernel
theorem dX11_cup_23 : decode cX11_cup 23 = .ok (.iload_n 2, 1) := by decide +kernel
theorem dX11_cup_24 : decode cX11_cup 24 = .ok (.iconst 1, 1) := by decide +kernel
theorem dX11_cup_25 : decode cX11_cup 25 = .ok (.if_icmp .ne 12, 3) := by decide +kernel
theorem dX11_cup_28 : decode cX11_cup 28 = .ok (.aload_n 0, 1) := by decide +kernel
theorem dX11_cup_29 : decode cX11_cup 29 = .ok (.getfield 53, 3) := by decide +kernel
theorem dX11_cup_32 : decode cX11_cup 32 = .ok (.iload_n 1, 1) := by decide +kernel
theorem dX11_cup_33 : decode cX11_cup 33 = .ok (.iaload, 1) := by decide +kernel
theorem dX11_cup_34 : decode cX11_cup 34 = .ok (.goto 19, 3) := by decide +kernel
theorem dX11_cup_37 : decode cX11_cup 37 = .ok (.iload_n 2, 1) := by decide +kernel
theorem dX11_cup_38 : decode cX11_cup 38 = .ok (.iconst 2, 1) := by decide +kernel
theorem dX11_cup_39 : decode cX11_cup 39 = .ok (.if_icmp .ne 12, 3) := by decide +kernel
theorem dX11_cup_42 : decode cX11_cup 42 = .ok (.aload_n 0, 1) := by decide +kernel
theorem dX11_cup_43 : decode cX11_cup 43 = .ok (.getfield 56, 3) := by decide +kernel
theorem dX11_cup_46 : decode cX11_cup 46 = .ok (.iload_n 1, 1) := by decide +kernel
theorem dX11_cup_47 : decode cX11_cup 47 = .ok (.iaload, 1) := by decide +kernel
theorem dX11_cup_48 : decode cX11_cup 48 = .ok (.goto 5, 3) := by decide +kernel
theorem dX11_cup_51 : decode cX11_cup 51 = .ok (.bipush (-3), 2) := by decide +kernel
theorem dX11_cup_53 : decode cX11_cup 53 = .ok (.ireturn, 1) := by decide +kernel
theorem dX11_wayOf_0 : decode cX11_wayOf 0 = .ok (.iconst 1, 1) := by decide +kernel
theorem dX11_wayOf_1 : decode cX11_wayOf 1 = .ok (.iload_n 1, 1) := by decide +kernel
theorem dX11_wayOf_2 : decode cX11_wayOf 2 = .ok (.ishl, 1) := by decide +kernel
theorem dX11_wayOf_3 : decode cX11_wayOf 3 = .ok (.istore_n 2, 1) := by decide +kernel
theorem dX11_wayOf_4 : decode cX11_wayOf 4 = .ok (.iload_n 1, 1) := by decide +kernel
theorem dX11_wayOf_5 : decode cX11_wayOf 5 = .ok (.istore_n 3, 1) := by decide +kernel
theorem dX11_wayOf_6 : decode cX11_wayOf 6 = .ok (.iload_n 3, 1) := by decide +kernel
theorem dX11_wayOf_7 : decode cX11_wayOf 7 = .ok (.ifCond .le 19, 3) := by decide +kernel
theorem dX11_wayOf_10 : decode cX11_wayOf 10 = .ok (.aload_n 0, 1) := by decide +kernel
theorem dX11_wayOf_11 : decode cX11_wayOf 11 = .ok (.getfield 20, 3) := by decide +kernel
theorem dX11_wayOf_14 : decode cX11_wayOf 14 = .ok (.iload_n 3, 1) := by decide +kernel
theorem dX11_wayOf_15 : decode cX11_wayOf 15 = .ok (.iaload, 1) := by decide +kernel
theorem dX11_wayOf_16 : decode cX11_wayOf 16 = .ok (.istore_n 3, 1) := by decide +kernel
theorem dX11_wayOf_17 : decode cX11_wayOf 17 = .ok (.iload_n 2, 1) := by decide +kernel
theorem dX11_wayOf_18 : decode cX11_wayOf 18 = .ok (.iconst 1, 1) := by decide +kernel
theorem dX11_wayOf_19 : decode cX11_wayOf 19 = .ok (.iload_n 3, 1) := by decide +kernel
theorem dX11_wayOf_20 : decode cX11_wayOf 20 = .ok (.ishl, 1) := by decide +kernel
theorem dX11_wayOf_21 : decode cX11_wayOf 21 = .ok (.ior, 1) := by decide +kernel
theorem dX11_wayOf_22 : decode cX11_wayOf 22 = .ok (.istore_n 2, 1) := by decide +kernel
theorem dX11_wayOf_23 : decode cX11_wayOf 23 = .ok (.goto (-17), 3) := by decide +kernel
theorem dX11_wayOf_26 : decode cX11_wayOf 26 = .ok (.iload_n 2, 1) := by decide +kernel
theorem dX11_wayOf_27 : decode cX11_wayOf 27 = .ok (.ireturn, 1) := by decide +kernel
theorem dX11_aboveOf_0 : decode cX11_aboveOf 0 = .ok (.iconst 0, 1) := by decide +kernel
theorem dX11_aboveOf_1 : decode cX11_aboveOf 1 = .ok (.istore_n 2, 1) := by decide +kernel
theorem dX11_aboveOf_2 : decode cX11_aboveOf 2 = .ok (.iconst 0, 1) := by decide +kernel
theorem dX11_aboveOf_3 : decode cX11_aboveOf 3 = .ok (.istore_n 3, 1) := by decide +kernel
theorem dX11_aboveOf_4 : decode cX11_aboveOf 4 = .ok (.iload_n 3, 1) := by decide +kernel
theorem dX11_aboveOf_5 : decode cX11_aboveOf 5 = .ok (.bipush 12, 2) := by decide +kernel
theorem dX11_aboveOf_7 : decode cX11_aboveOf 7 = .ok (.if_icmp .ge 42, 3) := by decide +kernel
theorem dX11_aboveOf_10 : decode cX11_aboveOf 10 = .ok (.iload_n 2, 1) := by decide +kernel
theorem dX11_aboveOf_11 : decode cX11_aboveOf 11 = .ok (.aload_n 0, 1) := by decide +kernel
theorem dX11_aboveOf_12 : decode cX11_aboveOf 12 = .ok (.getfield 16, 3) := by decide +kernel
theorem dX11_aboveOf_15 : decode cX11_aboveOf 15 = .ok (.iload_n 3, 1) := by decide +kernel
theorem dX11_aboveOf_16 : decode cX11_aboveOf 16 = .ok (.invokestatic 87, 3) := by decide +kernel
theorem dX11_aboveOf_19 : decode cX11_aboveOf 19 = .ok (.ifCond .eq 21, 3) := by decide +kernel
theorem dX11_aboveOf_22 : decode cX11_aboveOf 22 = .ok (.aload_n 0, 1) := by decide +kernel
theorem dX11_aboveOf_23 : decode cX11_aboveOf 23 = .ok (.iload_n 3, 1) := by decide +kernel
theorem dX11_aboveOf_24 : decode cX11_aboveOf 24 = .ok (.invokevirtual 165, 3) := by decide +kernel
theorem dX11_aboveOf_27 : decode cX11_aboveOf 27 = .ok (.iload_n 1, 1) := by decide +kernel
theorem dX11_aboveOf_28 : decode cX11_aboveOf 28 = .ok (.invokestatic 87, 3) := by decide +kernel
theorem dX11_aboveOf_31 : decode cX11_aboveOf 31 = .ok (.ifCond .eq 9, 3) := by decide +kernel
theorem dX11_aboveOf_34 : decode cX11_aboveOf 34 = .ok (.iconst 1, 1) := by decide +kernel
theorem dX11_aboveOf_35 : decode cX11_aboveOf 35 = .ok (.iload_n 3, 1) := by decide +kernel
theorem dX11_aboveOf_36 : decode cX11_aboveOf 36 = .ok (.ishl, 1) := by decide +kernel
theorem dX11_aboveOf_37 : decode cX11_aboveOf 37 = .ok (.goto 4, 3) := by decide +kernel
theorem dX11_aboveOf_40 : decode cX11_aboveOf 40 = .ok (.iconst 0, 1) := by decide +kernel
theorem dX11_aboveOf_41 : decode cX11_aboveOf 41 = .ok (.ior, 1) := by decide +kernel
theorem dX11_aboveOf_42 : decode cX11_aboveOf 42 = .ok (.istore_n 2, 1) := by decide +kernel
theorem dX11_aboveOf_43 : decode cX11_aboveOf 43 = .ok (.iinc 3 1, 3) := by decide +kernel
theorem dX11_aboveOf_46 : decode cX11_aboveOf 46 = .ok (.goto (-42), 3) := by decide +kernel
theorem dX11_aboveOf_49 : decode cX11_aboveOf 49 = .ok (.iload_n 2, 1) := by decide +kernel
theorem dX11_aboveOf_50 : decode cX11_aboveOf 50 = .ok (.ireturn, 1) := by decide +kernel
theorem dX11_above_0 : decode cX11_above 0 = .ok (.aload_n 0, 1) := by decide +kernel
theorem dX11_above_1 : decode cX11_above 1 = .ok (.iload_n 1, 1) := by decide +kernel
theorem dX11_above_2 : decode cX11_above 2 = .ok (.invokevirtual 157, 3) := by decide +kernel
theorem dX11_above_5 : decode cX11_above 5 = .ok (.ifCond .eq 11, 3) := by decide +kernel
theorem dX11_above_8 : decode cX11_above 8 = .ok (.aload_n 0, 1) := by decide +kernel
theorem dX11_above_9 : decode cX11_above 9 = .ok (.iload_n 1, 1) := by decide +kernel
theorem dX11_above_10 : decode cX11_above 10 = .ok (.invokevirtual 168, 3) := by decide +kernel
theorem dX11_above_13 : decode cX11_above 13 = .ok (.goto 5, 3) := by decide +kernel
theorem dX11_above_16 : decode cX11_above 16 = .ok (.bipush (-2), 2) := by decide +kernel
theorem dX11_above_18 : decode cX11_above 18 = .ok (.ireturn, 1) := by decide +kernel
theorem dX11_walkOf_0 : decode cX11_walkOf 0 = .ok (.aload_n 0, 1) := by decide +kernel
theorem dX11_walkOf_1 : decode cX11_walkOf 1 = .ok (.iload_n 1, 1) := by decide +kernel
theorem dX11_walkOf_2 : decode cX11_walkOf 2 = .ok (.invokevirtual 165, 3) := by decide +kernel
theorem dX11_walkOf_5 : decode cX11_walkOf 5 = .ok (.aload_n 0, 1) := by decide +kernel
theorem dX11_walkOf_6 : decode cX11_walkOf 6 = .ok (.iload_n 2, 1) := by decide +kernel
theorem dX11_walkOf_7 : decode cX11_walkOf 7 = .ok (.invokevirtual 165, 3) := by decide +kernel
theorem dX11_walkOf_10 : decode cX11_walkOf 10 = .ok (.ixor, 1) := by decide +kernel
theorem dX11_walkOf_11 : decode cX11_walkOf 11 = .ok (.istore_n 3, 1) := by decide +kernel
theorem dX11_walkOf_12 : decode cX11_walkOf 12 = .ok (.iconst 0, 1) := by decide +kernel
theorem dX11_walkOf_13 : decode cX11_walkOf 13 = .ok (.istore 4, 2) := by decide +kernel
theorem dX11_walkOf_15 : decode cX11_walkOf 15 = .ok (.iconst 1, 1) := by decide +kernel
theorem dX11_walkOf_16 : decode cX11_walkOf 16 = .ok (.istore 5, 2) := by decide +kernel
theorem dX11_walkOf_18 : decode cX11_walkOf 18 = .ok (.iload 5, 2) := by decide +kernel
theorem dX11_walkOf_20 : decode cX11_walkOf 20 = .ok (.bipush 12, 2) := by decide +kernel
theorem dX11_walkOf_22 : decode cX11_walkOf 22 = .ok (.if_icmp .ge 34, 3) := by decide +kernel
theorem dX11_walkOf_25 : decode cX11_walkOf 25 = .ok (.iload 4, 2) := by decide +kernel
theorem dX11_walkOf_27 : decode cX11_walkOf 27 = .ok (.iload_n 3, 1) := by decide +kernel
theorem dX11_walkOf_28 : decode cX11_walkOf 28 = .ok (.iload 5, 2) := by decide +kernel
theorem dX11_walkOf_30 : decode cX11_walkOf 30 = .ok (.invokestatic 87, 3) := by decide +kernel
theorem dX11_walkOf_33 : decode cX11_walkOf 33 = .ok (.ifCond .eq 13, 3) := by decide +kernel
theorem dX11_walkOf_36 : decode cX11_walkOf 36 = .ok (.aload_n 0, 1) := by decide +kernel
theorem dX11_walkOf_37 : decode cX11_walkOf 37 = .ok (.getfield 26, 3) := by decide +kernel
theorem dX11_walkOf_40 : decode cX11_walkOf 40 = .ok (.iload 5, 2) := by decide +kernel
theorem dX11_walkOf_42 : decode cX11_walkOf 42 = .ok (.iaload, 1) := by decide +kernel
theorem dX11_walkOf_43 : decode cX11_walkOf 43 = .ok (.goto 4, 3) := by decide +kernel
theorem dX11_walkOf_46 : decode cX11_walkOf 46 = .ok (.iconst 0, 1) := by decide +kernel
theorem dX11_walkOf_47 : decode cX11_walkOf 47 = .ok (.iadd, 1) := by decide +kernel
theorem dX11_walkOf_48 : decode cX11_walkOf 48 = .ok (.istore 4, 2) := by decide +kernel
theorem dX11_walkOf_50 : decode cX11_walkOf 50 = .ok (.iinc 5 1, 3) := by decide +kernel
theorem dX11_walkOf_53 : decode cX11_walkOf 53 = .ok (.goto (-35), 3) := by decide +kernel
theorem dX11_walkOf_56 : decode cX11_walkOf 56 = .ok (.iload 4, 2) := by decide +kernel
theorem dX11_walkOf_58 : decode cX11_walkOf 58 = .ok (.ireturn, 1) := by decide +kernel
theorem dX11_walk_0 : decode cX11_walk 0 = .ok (.aload_n 0, 1) := by decide +kernel
theorem dX11_walk_1 : decode cX11_walk 1 = .ok (.iload_n 1, 1) := by decide +kernel
theorem dX11_walk_2 : decode cX11_walk 2 = .ok (.invokevirtual 157, 3) := by decide +kernel
theorem dX11_walk_5 : decode cX11_walk 5 = .ok (.ifCond .eq 20, 3) := by decide +kernel
theorem dX11_walk_8 : decode cX11_walk 8 = .ok (.aload_n 0, 1) := by decide +kernel
theorem dX11_walk_9 : decode cX11_walk 9 = .ok (.iload_n 2, 1) := by decide +kernel
theorem dX11_walk_10 : decode cX11_walk 10 = .ok (.invokevirtual 157, 3) := by decide +kernel
theorem dX11_walk_13 : decode cX11_walk 13 = .ok (.ifCond .eq 12, 3) := by decide +kernel
theorem dX11_walk_16 : decode cX11_walk 16 = .ok (.aload_n 0, 1) := by decide +kernel
theorem dX11_walk_17 : decode cX11_walk 17 = .ok (.iload_n 1, 1) := by decide +kernel
theorem dX11_walk_18 : decode cX11_walk 18 = .ok (.iload_n 2, 1) := by decide +kernel
theorem dX11_walk_19 : decode cX11_walk 19 = .ok (.invokevirtual 171, 3) := by decide +kernel
theorem dX11_walk_22 : decode cX11_walk 22 = .ok (.goto 5, 3) := by decide +kernel
theorem dX11_walk_25 : decode cX11_walk 25 = .ok (.bipush (-2), 2) := by decide +kernel
theorem dX11_walk_27 : decode cX11_walk 27 = .ok (.ireturn, 1) := by decide +kernel
theorem dX11_flowOf_0 : decode cX11_flowOf 0 = .ok (.aload_n 0, 1) := by decide +kernel
theorem dX11_flowOf_1 : decode cX11_flowOf 1 = .ok (.iload_n 1, 1) := by decide +kernel
theorem dX11_flowOf_2 : decode cX11_flowOf 2 = .ok (.invokevirtual 168, 3) := by decide +kernel
theorem dX11_flowOf_5 : decode cX11_flowOf 5 = .ok (.istore_n 3, 1) := by decide +kernel
theorem dX11_flowOf_6 : decode cX11_flowOf 6 = .ok (.iconst 0, 1) := by decide +kernel
theorem dX11_flowOf_7 : decode cX11_flowOf 7 = .ok (.istore 4, 2) := by decide +kernel
theorem dX11_flowOf_9 : decode cX11_flowOf 9 = .ok (.iconst 0, 1) := by decide +kernel
theorem dX11_flowOf_10 : decode cX11_flowOf 10 = .ok (.istore 5, 2) := by decide +kernel
theorem dX11_flowOf_12 : decode cX11_flowOf 12 = .ok (.iload 5, 2) := by decide +kernel
theorem dX11_flowOf_14 : decode cX11_flowOf 14 = .ok (.bipush 12, 2) := by decide +kernel
theorem dX11_flowOf_16 : decode cX11_flowOf 16 = .ok (.if_icmp .ge 34, 3) := by decide +kernel
theorem dX11_flowOf_19 : decode cX11_flowOf 19 = .ok (.iload 4, 2) := by decide +kernel
theorem dX11_flowOf_21 : decode cX11_flowOf 21 = .ok (.iload_n 3, 1) := by decide +kernel
theorem dX11_flowOf_22 : decode cX11_flowOf 22 = .ok (.iload 5, 2) := by decide +kernel
theorem dX11_flowOf_24 : decode cX11_flowOf 24 = .ok (.invokestatic 87, 3) := by decide +kernel
theorem dX11_flowOf_27 : decode cX11_flowOf 27 = .ok (.ifCond .eq 13, 3) := by decide +kernel
theorem dX11_flowOf_30 : decode cX11_flowOf 30 = .ok (.aload_n 0, 1) := by decide +kernel
theorem dX11_flowOf_31 : decode cX11_flowOf 31 = .ok (.getfield 32, 3) := by decide +kernel
theorem dX11_flowOf_34 : decode cX11_flowOf 34 = .ok (.iload 5, 2) := by decide +kernel
theorem dX11_flowOf_36 : decode cX11_flowOf 36 = .ok (.iaload, 1) := by decide +kernel
theorem dX11_flowOf_37 : decode cX11_flowOf 37 = .ok (.goto 4, 3) := by decide +kernel
theorem dX11_flowOf_40 : decode cX11_flowOf 40 = .ok (.iconst 0, 1) := by decide +kernel
theorem dX11_flowOf_41 : decode cX11_flowOf 41 = .ok (.iadd, 1) := by decide +kernel
theorem dX11_flowOf_42 : decode cX11_flowOf 42 = .ok (.istore 4, 2) := by decide +kernel
theorem dX11_flowOf_44 : decode cX11_flowOf 44 = .ok (.iinc 5 1, 3) := by decide +kernel
theorem dX11_flowOf_47 : decode cX11_flowOf 47 = .ok (.goto (-35), 3) := by decide +kernel
theorem dX11_flowOf_50 : decode cX11_flowOf 50 = .ok (.iload 4, 2) := by decide +kernel
theorem dX11_flowOf_52 : decode cX11_flowOf 52 = .ok (.bipush 10, 2) := by decide +kernel
theorem dX11_flowOf_54 : decode cX11_flowOf 54 = .ok (.aload_n 0, 1) := by decide +kernel
theorem dX11_flowOf_55 : decode cX11_flowOf 55 = .ok (.getfield 47, 3) := by decide +kernel
theorem dX11_flowOf_58 : decode cX11_flowOf 58 = .ok (.iload_n 2, 1) := by decide +kernel
theorem dX11_flowOf_59 : decode cX11_flowOf 59 = .ok (.iaload, 1) := by decide +kernel
theorem dX11_flowOf_60 : decode cX11_flowOf 60 = .ok (.iadd, 1) := by decide +kernel
theorem dX11_flowOf_61 : decode cX11_flowOf 61 = .ok (.imul, 1) := by decide +kernel
theorem dX11_flowOf_62 : decode cX11_flowOf 62 = .ok (.bipush 10, 2) := by decide +kernel
theorem dX11_flowOf_64 : decode cX11_flowOf 64 = .ok (.idiv, 1) := by decide +kernel
theorem dX11_flowOf_65 : decode cX11_flowOf 65 = .ok (.istore 5, 2) := by decide +kernel
theorem dX11_flowOf_67 : decode cX11_flowOf 67 = .ok (.iload 5, 2) := by decide +kernel
theorem dX11_flowOf_69 : decode cX11_flowOf 69 = .ok (.iconst 1, 1) := by decide +kernel
theorem dX11_flowOf_70 : decode cX11_flowOf 70 = .ok (.if_icmp .ge 7, 3) := by decide +kernel
theorem dX11_flowOf_73 : decode cX11_flowOf 73 = .ok (.iconst 1, 1) := by decide +kernel
theorem dX11_flowOf_74 : decode cX11_flowOf 74 = .ok (.goto 5, 3) := by decide +kernel
theorem dX11_flowOf_77 : decode cX11_flowOf 77 = .ok (.iload 5, 2) := by decide +kernel
theorem dX11_flowOf_79 : decode cX11_flowOf 79 = .ok (.ireturn, 1) := by decide +kernel
theorem dX11_flow_0 : decode cX11_flow 0 = .ok (.aload_n 0, 1) := by decide +kernel
theorem dX11_flow_1 : decode cX11_flow 1 = .ok (.iload_n 1, 1) := by decide +kernel
theorem dX11_flow_2 : decode cX11_flow 2 = .ok (.invokevirtual 157, 3) := by decide +kernel
theorem dX11_flow_5 : decode cX11_flow 5 = .ok (.ifCond .ne 6, 3) := by decide +kernel
theorem dX11_flow_8 : decode cX11_flow 8 = .ok (.bipush (-2), 2) := by decide +kernel
theorem dX11_flow_10 : decode cX11_flow 10 = .ok (.ireturn, 1) := by decide +kernel
theorem dX11_flow_11 : decode cX11_flow 11 = .ok (.iload_n 2, 1) := by decide +kernel
theorem dX11_flow_12 : decode cX11_flow 12 = .ok (.i2l, 1) := by decide +kernel
theorem dX11_flow_13 : decode cX11_flow 13 = .ok (.lconst 0, 1) := by decide +kernel
theorem dX11_flow_14 : decode cX11_flow 14 = .ok (.ldc2_w 175, 3) := by decide +kernel
theorem dX11_flow_17 : decode cX11_flow 17 = .ok (.invokestatic 83, 3) := by decide +kernel
theorem dX11_flow_20 : decode cX11_flow 20 = .ok (.ifCond .eq 12, 3) := by decide +kernel
theorem dX11_flow_23 : decode cX11_flow 23 = .ok (.aload_n 0, 1) := by decide +kernel
theorem dX11_flow_24 : decode cX11_flow 24 = .ok (.iload_n 1, 1) := by decide +kernel
theorem dX11_flow_25 : decode cX11_flow 25 = .ok (.iload_n 2, 1) := by decide +kernel
theorem dX11_flow_26 : decode cX11_flow 26 = .ok (.invokevirtual 177, 3) := by decide +kernel
theorem dX11_flow_29 : decode cX11_flow 29 = .ok (.goto 5, 3) := by decide +kernel
theorem dX11_flow_32 : decode cX11_flow 32 = .ok (.bipush (-3), 2) := by decide +kernel
theorem dX11_flow_34 : decode cX11_flow 34 = .ok (.ireturn, 1) := by decide +kernel
theorem dX11_comesOf_0 : decode cX11_comesOf 0 = .ok (.aload_n 0, 1) := by decide +kernel
theorem dX11_comesOf_1 : decode cX11_comesOf 1 = .ok (.iload_n 1, 1) := by decide +kernel
theorem dX11_comesOf_2 : decode cX11_comesOf 2 = .ok (.invokevirtual 165, 3) := by decide +kernel
theorem dX11_comesOf_5 : decode cX11_comesOf 5 = .ok (.iload 5, 2) := by decide +kernel
theorem dX11_comesOf_7 : decode cX11_comesOf 7 = .ok (.invokestatic 87, 3) := by decide +kernel
theorem dX11_comesOf_10 : decode cX11_comesOf 10 = .ok (.ifCond .ne 5, 3) := by decide +kernel
theorem dX11_comesOf_13 : decode cX11_comesOf 13 = .ok (.iconst 0, 1) := by decide +kernel
theorem dX11_comesOf_14 : decode cX11_comesOf 14 = .ok (.ireturn, 1) := by decide +kernel
theorem dX11_comesOf_15 : decode cX11_comesOf 15 = .ok (.iload 6, 2) := by decide +kernel
theorem dX11_comesOf_17 : decode cX11_comesOf 17 = .ok (.istore 7, 2) := by decide +kernel
theorem dX11_comesOf_19 : decode cX11_comesOf 19 = .ok (.iload_n 2, 1) := by decide +kernel
theorem dX11_comesOf_20 : decode cX11_comesOf 20 = .ok (.istore 8, 2) := by decide +kernel
theorem dX11_comesOf_22 : decode cX11_comesOf 22 = .ok (.iload_n 1, 1) := by decide +kernel
theorem dX11_comesOf_23 : decode cX11_comesOf 23 = .ok (.istore 9, 2) := by decide +kernel
theorem dX11_comesOf_25 : decode cX11_comesOf 25 = .ok (.iload 9, 2) := by decide +kernel
theorem dX11_comesOf_27 : decode cX11_comesOf 27 = .ok (.iload 5, 2) := by decide +kernel
theorem dX11_comesOf_29 : decode cX11_comesOf 29 = .ok (.if_icmp .eq 45, 3) := by decide +kernel
theorem dX11_comesOf_32 : decode cX11_comesOf 32 = .ok (.iload 7, 2) := by decide +kernel
theorem dX11_comesOf_34 : decode cX11_comesOf 34 = .ok (.aload_n 0, 1) := by decide +kernel
theorem dX11_comesOf_35 : decode cX11_comesOf 35 = .ok (.getfield 23, 3) := by decide +kernel
theorem dX11_comesOf_38 : decode cX11_comesOf 38 = .ok (.iload 9, 2) := by decide +kernel
theorem dX11_comesOf_40 : decode cX11_comesOf 40 = .ok (.iaload, 1) := by decide +kernel
theorem dX11_comesOf_41 : decode cX11_comesOf 41 = .ok (.isub, 1) := by decide +kernel
theorem dX11_comesOf_42 : decode cX11_comesOf 42 = .ok (.istore 7, 2) := by decide +kernel
theorem dX11_comesOf_44 : decode cX11_comesOf 44 = .ok (.iload 8, 2) := by decide +kernel
theorem dX11_comesOf_46 : decode cX11_comesOf 46 = .ok (.bipush 100, 2) := by decide +kernel
theorem dX11_comesOf_48 : decode cX11_comesOf 48 = .ok (.aload_n 0, 1) := by decide +kernel
theorem dX11_comesOf_49 : decode cX11_comesOf 49 = .ok (.getfield 29, 3) := by decide +kernel
theorem dX11_comesOf_52 : decode cX11_comesOf 52 = .ok (.iload 9, 2) := by decide +kernel
theorem dX11_comesOf_54 : decode cX11_comesOf 54 = .ok (.iaload, 1) := by decide +kernel
theorem dX11_comesOf_55 : decode cX11_comesOf 55 = .ok (.isub, 1) := by decide +kernel
theorem dX11_comesOf_56 : decode cX11_comesOf 56 = .ok (.imul, 1) := by decide +kernel
theorem dX11_comesOf_57 : decode cX11_comesOf 57 = .ok (.bipush 100, 2) := by decide +kernel
theorem dX11_comesOf_59 : decode cX11_comesOf 59 = .ok (.idiv, 1) := by decide +kernel
theorem dX11_comesOf_60 : decode cX11_comesOf 60 = .ok (.istore 8, 2) := by decide +kernel
theorem dX11_comesOf_62 : decode cX11_comesOf 62 = .ok (.aload_n 0, 1) := by decide +kernel
theorem dX11_comesOf_63 : decode cX11_comesOf 63 = .ok (.getfield 20, 3) := by decide +kernel
theorem dX11_comesOf_66 : decode cX11_comesOf 66 = .ok (.iload 9, 2) := by decide +kernel
theorem dX11_comesOf_68 : decode cX11_comesOf 68 = .ok (.iaload, 1) := by decide +kernel
theorem dX11_comesOf_69 : decode cX11_comesOf 69 = .ok (.istore 9, 2) := by decide +kernel
theorem dX11_comesOf_71 : decode cX11_comesOf 71 = .ok (.goto (-46), 3) := by decide +kernel
theorem dX11_comesOf_74 : decode cX11_comesOf 74 = .ok (.iload 7, 2) := by decide +kernel
theorem dX11_comesOf_76 : decode cX11_comesOf 76 = .ok (.ifCond .lt 22, 3) := by decide +kernel
theorem dX11_comesOf_79 : decode cX11_comesOf 79 = .ok (.iload 7, 2) := by decide +kernel
theorem dX11_comesOf_81 : decode cX11_comesOf 81 = .ok (.bipush 60, 2) := by decide +kernel
theorem dX11_comesOf_83 : decode cX11_comesOf 83 = .ok (.idiv, 1) := by decide +kernel
theorem dX11_comesOf_84 : decode cX11_comesOf 84 = .ok (.iload_n 3, 1) := by decide +kernel
theorem dX11_comesOf_85 : decode cX11_comesOf 85 = .ok (.if_icmp .lt 13, 3) := by decide +kernel
theorem dX11_comesOf_88 : decode cX11_comesOf 88 = .ok (.iload 7, 2) := by decide +kernel
theorem dX11_comesOf_90 : decode cX11_comesOf 90 = .ok (.bipush 60, 2) := by decide +kernel
theorem dX11_comesOf_92 : decode cX11_comesOf 92 = .ok (.idiv, 1) := by decide +kernel
theorem dX11_comesOf_93 : decode cX11_comesOf 93 = .ok (.iload 4, 2) := by decide +kernel
theorem dX11_comesOf_95 : decode cX11_comesOf 95 = .ok (.if_icmp .le 7, 3) := by decide +kernel
theorem dX11_comesOf_98 : decode cX11_comesOf 98 = .ok (.iconst 0, 1) := by decide +kernel
theorem dX11_comesOf_99 : decode cX11_comesOf 99 = .ok (.goto 5, 3) := by decide +kernel
theorem dX11_comesOf_102 : decode cX11_comesOf 102 = .ok (.iload 8, 2) := by decide +kernel
theorem dX11_comesOf_104 : decode cX11_comesOf 104 = .ok (.ireturn, 1) := by decide +kernel
theorem dX11_told_0 : decode cX11_told 0 = .ok (.aload_n 0, 1) := by decide +kernel
theorem dX11_told_1 : decode cX11_told 1 = .ok (.iload_n 1, 1) := by decide +kernel
theorem dX11_told_2 : decode cX11_told 2 = .ok (.aload_n 0, 1) := by decide +kernel
theorem dX11_told_3 : decode cX11_told 3 = .ok (.getfield 38, 3) := by decide +kernel
theorem dX11_told_6 : decode cX11_told 6 = .ok (.iload_n 1, 1) := by decide +kernel
theorem dX11_told_7 : decode cX11_told 7 = .ok (.iaload, 1) := by decide +kernel
theorem dX11_told_8 : decode cX11_told 8 = .ok (.aload_n 0, 1) := by decide +kernel
theorem dX11_told_9 : decode cX11_told 9 = .ok (.getfield 41, 3) := by decide +kernel
theorem dX11_told_12 : decode cX11_told 12 = .ok (.iload_n 1, 1) := by decide +kernel
theorem dX11_told_13 : decode cX11_told 13 = .ok (.iaload, 1) := by decide +kernel
theorem dX11_told_14 : decode cX11_told 14 = .ok (.aload_n 0, 1) := by decide +kernel
theorem dX11_told_15 : decode cX11_told 15 = .ok (.getfield 44, 3) := by decide +kernel
theorem dX11_told_18 : decode cX11_told 18 = .ok (.iload_n 1, 1) := by decide +kernel
theorem dX11_told_19 : decode cX11_told 19 = .ok (.iaload, 1) := by decide +kernel
theorem dX11_told_20 : decode cX11_told 20 = .ok (.iload_n 2, 1) := by decide +kernel
theorem dX11_told_21 : decode cX11_told 21 = .ok (.iload_n 3, 1) := by decide +kernel
theorem dX11_told_22 : decode cX11_told 22 = .ok (.invokevirtual 180, 3) := by decide +kernel
theorem dX11_told_25 : decode cX11_told 25 = .ok (.ireturn, 1) := by decide +kernel
theorem dX11_thin_0 : decode cX11_thin 0 = .ok (.sipush 1000, 3) := by decide +kernel
theorem dX11_thin_3 : decode cX11_thin 3 = .ok (.iload_n 1, 1) := by decide +kernel
theorem dX11_thin_4 : decode cX11_thin 4 = .ok (.imul, 1) := by decide +kernel
theorem dX11_thin_5 : decode cX11_thin 5 = .ok (.aload_n 0, 1) := by decide +kernel
theorem dX11_thin_6 : decode cX11_thin 6 = .ok (.iload_n 2, 1) := by decide +kernel
theorem dX11_thin_7 : decode cX11_thin 7 = .ok (.iload_n 3, 1) := by decide +kernel
theorem dX11_thin_8 : decode cX11_thin 8 = .ok (.bipush 60, 2) := by decide +kernel
theorem dX11_thin_10 : decode cX11_thin 10 = .ok (.idiv, 1) := by decide +kernel
theorem dX11_thin_11 : decode cX11_thin 11 = .ok (.invokevirtual 177, 3) := by decide +kernel
theorem dX11_thin_14 : decode cX11_thin 14 = .ok (.idiv, 1) := by decide +kernel
theorem dX11_thin_15 : decode cX11_thin 15 = .ok (.ireturn, 1) := by decide +kernel
theorem dX11_comes_0 : decode cX11_comes 0 = .ok (.aload_n 0, 1) := by decide +kernel
theorem dX11_comes_1 : decode cX11_comes 1 = .ok (.iload_n 1, 1) := by decide +kernel
theorem dX11_comes_2 : decode cX11_comes 2 = .ok (.invokevirtual 157, 3) := by decide +kernel
theorem dX11_comes_5 : decode cX11_comes 5 = .ok (.ifCond .eq 11, 3) := by decide +kernel
theorem dX11_comes_8 : decode cX11_comes 8 = .ok (.aload_n 0, 1) := by decide +kernel
theorem dX11_comes_9 : decode cX11_comes 9 = .ok (.iload_n 2, 1) := by decide +kernel
theorem dX11_comes_10 : decode cX11_comes 10 = .ok (.invokevirtual 157, 3) := by decide +kernel
theorem dX11_comes_13 : decode cX11_comes 13 = .ok (.ifCond .ne 6, 3) := by decide +kernel
theorem dX11_comes_16 : decode cX11_comes 16 = .ok (.bipush (-2), 2) := by decide +kernel
theorem dX11_comes_18 : decode cX11_comes 18 = .ok (.ireturn, 1) := by decide +kernel
theorem dX11_comes_19 : decode cX11_comes 19 = .ok (.iload_n 3, 1) := by decide +kernel
theorem dX11_comes_20 : decode cX11_comes 20 = .ok (.i2l, 1) := by decide +kernel
theorem dX11_comes_21 : decode cX11_comes 21 = .ok (.lconst 0, 1) := by decide +kernel
theorem dX11_comes_22 : decode cX11_comes 22 = .ok (.ldc2_w 184, 3) := by decide +kernel
theorem dX11_comes_25 : decode cX11_comes 25 = .ok (.invokestatic 83, 3) := by decide +kernel
theorem dX11_comes_28 : decode cX11_comes 28 = .ok (.ifCond .eq 14, 3) := by decide +kernel
theorem dX11_comes_31 : decode cX11_comes 31 = .ok (.iload 4, 2) := by decide +kernel
theorem dX11_comes_33 : decode cX11_comes 33 = .ok (.i2l, 1) := by decide +kernel
theorem dX11_comes_34 : decode cX11_comes 34 = .ok (.lconst 0, 1) := by decide +kernel
theorem dX11_comes_35 : decode cX11_comes 35 = .ok (.lconst 1, 1) := by decide +kernel
theorem dX11_comes_36 : decode cX11_comes 36 = .ok (.invokestatic 83, 3) := by decide +kernel
theorem dX11_comes_39 : decode cX11_comes 39 = .ok (.ifCond .ne 6, 3) := by decide +kernel
theorem dX11_comes_42 : decode cX11_comes 42 = .ok (.bipush (-3), 2) := by decide +kernel
theorem dX11_comes_44 : decode cX11_comes 44 = .ok (.ireturn, 1) := by decide +kernel
theorem dX11_comes_45 : decode cX11_comes 45 = .ok (.aload_n 0, 1) := by decide +kernel
theorem dX11_comes_46 : decode cX11_comes 46 = .ok (.iload_n 1, 1) := by decide +kernel
theorem dX11_comes_47 : decode cX11_comes 47 = .ok (.iload_n 2, 1) := by decide +kernel
theorem dX11_comes_48 : decode cX11_comes 48 = .ok (.iload_n 3, 1) := by decide +kernel
theorem dX11_comes_49 : decode cX11_comes 49 = .ok (.invokevirtual 186, 3) := by decide +kernel
theorem dX11_comes_52 : decode cX11_comes 52 = .ok (.istore 5, 2) := by decide +kernel
theorem dX11_comes_54 : decode cX11_comes 54 = .ok (.iload 4, 2) := by decide +kernel
theorem dX11_comes_56 : decode cX11_comes 56 = .ok (.ifCond .ne 8, 3) := by decide +kernel
theorem dX11_comes_59 : decode cX11_comes 59 = .ok (.iload 5, 2) := by decide +kernel
theorem dX11_comes_61 : decode cX11_comes 61 = .ok (.goto 11, 3) := by decide +kernel
theorem dX11_comes_64 : decode cX11_comes 64 = .ok (.aload_n 0, 1) := by decide +kernel
theorem dX11_comes_65 : decode cX11_comes 65 = .ok (.iload 5, 2) := by decide +kernel
theorem dX11_comes_67 : decode cX11_comes 67 = .ok (.iload_n 2, 1) := by decide +kernel
theorem dX11_comes_68 : decode cX11_comes 68 = .ok (.iload_n 3, 1) := by decide +kernel
theorem dX11_comes_69 : decode cX11_comes 69 = .ok (.invokevirtual 190, 3) := by decide +kernel
theorem dX11_comes_72 : decode cX11_comes 72 = .ok (.ireturn, 1) := by decide +kernel
theorem dX11_shouldBy_0 : decode cX11_shouldBy 0 = .ok (.iconst 0, 1) := by decide +kernel
theorem dX11_shouldBy_1 : decode cX11_shouldBy 1 = .ok (.istore 8, 2) := by decide +kernel
theorem dX11_shouldBy_3 : decode cX11_shouldBy 3 = .ok (.iload 8, 2) := by decide +kernel
theorem dX11_shouldBy_5 : decode cX11_shouldBy 5 = .ok (.iload 7, 2) := by decide +kernel
theorem dX11_shouldBy_7 : decode cX11_shouldBy 7 = .ok (.if_icmp .ge 144, 3) := by decide +kernel
theorem dX11_shouldBy_10 : decode cX11_shouldBy 10 = .ok (.iload 6, 2) := by decide +kernel
theorem dX11_shouldBy_12 : decode cX11_shouldBy 12 = .ok (.bipush 60, 2) := by decide +kernel
theorem dX11_shouldBy_14 : decode cX11_shouldBy 14 = .ok (.iload 8, 2) := by decide +kernel
theorem dX11_shouldBy_16 : decode cX11_shouldBy 16 = .ok (.imul, 1) := by decide +kernel
theorem dX11_shouldBy_17 : decode cX11_shouldBy 17 = .ok (.iadd, 1) := by decide +kernel
theorem dX11_shouldBy_18 : decode cX11_shouldBy 18 = .ok (.istore 9, 2) := by decide +kernel
theorem dX11_shouldBy_20 : decode cX11_shouldBy 20 = .ok (.iconst 0, 1) := by decide +kernel
theorem dX11_shouldBy_21 : decode cX11_shouldBy 21 = .ok (.istore 10, 2) := by decide +kernel
theorem dX11_shouldBy_23 : decode cX11_shouldBy 23 = .ok (.iconst 0, 1) := by decide +kernel
theorem dX11_shouldBy_24 : decode cX11_shouldBy 24 = .ok (.istore 11, 2) := by decide +kernel
theorem dX11_shouldBy_26 : decode cX11_shouldBy 26 = .ok (.iload 11, 2) := by decide +kernel
theorem dX11_shouldBy_28 : decode cX11_shouldBy 28 = .ok (.bipush 12, 2) := by decide +kernel
theorem dX11_shouldBy_30 : decode cX11_shouldBy 30 = .ok (.if_icmp .ge 95, 3) := by decide +kernel
theorem dX11_shouldBy_33 : decode cX11_shouldBy 33 = .ok (.iload 5, 2) := by decide +kernel
theorem dX11_shouldBy_35 : decode cX11_shouldBy 35 = .ok (.iload 11, 2) := by decide +kernel
theorem dX11_shouldBy_37 : decode cX11_shouldBy 37 = .ok (.invokestatic 87, 3) := by decide +kernel
theorem dX11_shouldBy_40 : decode cX11_shouldBy 40 = .ok (.ifCond .eq 79, 3) := by decide +kernel
theorem dX11_shouldBy_43 : decode cX11_shouldBy 43 = .ok (.iload_n 1, 1) := by decide +kernel
theorem dX11_shouldBy_44 : decode cX11_shouldBy 44 = .ok (.ifCond .ge 7, 3) := by decide +kernel
theorem dX11_shouldBy_47 : decode cX11_shouldBy 47 = .ok (.iconst 0, 1) := by decide +kernel
theorem dX11_shouldBy_48 : decode cX11_shouldBy 48 = .ok (.goto 32, 3) := by decide +kernel
theorem dX11_shouldBy_51 : decode cX11_shouldBy 51 = .ok (.iload_n 3, 1) := by decide +kernel
theorem dX11_shouldBy_52 : decode cX11_shouldBy 52 = .ok (.ifCond .ge 15, 3) := by decide +kernel
theorem dX11_shouldBy_55 : decode cX11_shouldBy 55 = .ok (.aload_n 0, 1) := by decide +kernel
theorem dX11_shouldBy_56 : decode cX11_shouldBy 56 = .ok (.iload_n 1, 1) := by decide +kernel
theorem dX11_shouldBy_57 : decode cX11_shouldBy 57 = .ok (.iload 11, 2) := by decide +kernel
theorem dX11_shouldBy_59 : decode cX11_shouldBy 59 = .ok (.iload 9, 2) := by decide +kernel
theorem dX11_shouldBy_61 : decode cX11_shouldBy 61 = .ok (.invokevirtual 186, 3) := by decide +kernel
theorem dX11_shouldBy_64 : decode cX11_shouldBy 64 = .ok (.goto 16, 3) := by decide +kernel
theorem dX11_shouldBy_67 : decode cX11_shouldBy 67 = .ok (.aload_n 0, 1) := by decide +kernel
theorem dX11_shouldBy_68 : decode cX11_shouldBy 68 = .ok (.iload_n 1, 1) := by decide +kernel
theorem dX11_shouldBy_69 : decode cX11_shouldBy 69 = .ok (.iload_n 3, 1) := by decide +kernel
theorem dX11_shouldBy_70 : decode cX11_shouldBy 70 = .ok (.iconst 0, 1) := by decide +kernel
theorem dX11_shouldBy_71 : decode cX11_shouldBy 71 = .ok (.bipush 23, 2) := by decide +kernel
theorem dX11_shouldBy_73 : decode cX11_shouldBy 73 = .ok (.iload 11, 2) := by decide +kernel
theorem dX11_shouldBy_75 : decode cX11_shouldBy 75 = .ok (.iload 9, 2) := by decide +kernel
theorem dX11_shouldBy_77 : decode cX11_shouldBy 77 = .ok (.invokevirtual 180, 3) := by decide +kernel
theorem dX11_shouldBy_80 : decode cX11_shouldBy 80 = .ok (.istore 12, 2) := by decide +kernel
theorem dX11_shouldBy_82 : decode cX11_shouldBy 82 = .ok (.iload 12, 2) := by decide +kernel
theorem dX11_shouldBy_84 : decode cX11_shouldBy 84 = .ok (.iload_n 2, 1) := by decide +kernel
theorem dX11_shouldBy_85 : decode cX11_shouldBy 85 = .ok (.ifCond .ge 7, 3) := by decide +kernel
theorem dX11_shouldBy_88 : decode cX11_shouldBy 88 = .ok (.iconst 0, 1) := by decide +kernel
theorem dX11_shouldBy_89 : decode cX11_shouldBy 89 = .ok (.goto 12, 3) := by decide +kernel
theorem dX11_shouldBy_92 : decode cX11_shouldBy 92 = .ok (.aload_n 0, 1) := by decide +kernel
theorem dX11_shouldBy_93 : decode cX11_shouldBy 93 = .ok (.iload_n 2, 1) := by decide +kernel
theorem dX11_shouldBy_94 : decode cX11_shouldBy 94 = .ok (.iload 11, 2) := by decide +kernel
theorem dX11_shouldBy_96 : decode cX11_shouldBy 96 = .ok (.iload 9, 2) := by decide +kernel
theorem dX11_shouldBy_98 : decode cX11_shouldBy 98 = .ok (.invokevirtual 186, 3) := by decide +kernel
theorem dX11_shouldBy_101 : decode cX11_shouldBy 101 = .ok (.iadd, 1) := by decide +kernel
theorem dX11_shouldBy_102 : decode cX11_shouldBy 102 = .ok (.istore 12, 2) := by decide +kernel
theorem dX11_shouldBy_104 : decode cX11_shouldBy 104 = .ok (.iload 10, 2) := by decide +kernel
theorem dX11_shouldBy_106 : decode cX11_shouldBy 106 = .ok (.aload_n 0, 1) := by decide +kernel
theorem dX11_shouldBy_107 : decode cX11_shouldBy 107 = .ok (.iload 12, 2) := by decide +kernel
theorem dX11_shouldBy_109 : decode cX11_shouldBy 109 = .ok (.iload 11, 2) := by decide +kernel
theorem dX11_shouldBy_111 : decode cX11_shouldBy 111 = .ok (.iload 9, 2) := by decide +kernel
theorem dX11_shouldBy_113 : decode cX11_shouldBy 113 = .ok (.invokevirtual 190, 3) := by decide +kernel
theorem dX11_shouldBy_116 : decode cX11_shouldBy 116 = .ok (.iadd, 1) := by decide +kernel
theorem dX11_shouldBy_117 : decode cX11_shouldBy 117 = .ok (.istore 10, 2) := by decide +kernel
theorem dX11_shouldBy_119 : decode cX11_shouldBy 119 = .ok (.iinc 11 1, 3) := by decide +kernel
theorem dX11_shouldBy_122 : decode cX11_shouldBy 122 = .ok (.goto (-96), 3) := by decide +kernel
theorem dX11_shouldBy_125 : decode cX11_shouldBy 125 = .ok (.iload 10, 2) := by decide +kernel
theorem dX11_shouldBy_127 : decode cX11_shouldBy 127 = .ok (.iload 5, 2) := by decide +kernel
theorem dX11_shouldBy_129 : decode cX11_shouldBy 129 = .ok (.invokestatic 193, 3) := by decide +kernel
theorem dX11_shouldBy_132 : decode cX11_shouldBy 132 = .ok (.idiv, 1) := by decide +kernel
theorem dX11_shouldBy_133 : decode cX11_shouldBy 133 = .ok (.aload_n 0, 1) := by decide +kernel
theorem dX11_shouldBy_134 : decode cX11_shouldBy 134 = .ok (.getfield 50, 3) := by decide +kernel
theorem dX11_shouldBy_137 : decode cX11_shouldBy 137 = .ok (.iload 4, 2) := by decide +kernel
theorem dX11_shouldBy_139 : decode cX11_shouldBy 139 = .ok (.iaload, 1) := by decide +kernel
theorem dX11_shouldBy_140 : decode cX11_shouldBy 140 = .ok (.if_icmp .lt 5, 3) := by decide +kernel
theorem dX11_shouldBy_143 : decode cX11_shouldBy 143 = .ok (.iconst 1, 1) := by decide +kernel
theorem dX11_shouldBy_144 : decode cX11_shouldBy 144 = .ok (.ireturn, 1) := by decide +kernel
theorem dX11_shouldBy_145 : decode cX11_shouldBy 145 = .ok (.iinc 8 1, 3) := by decide +kernel
theorem dX11_shouldBy_148 : decode cX11_shouldBy 148 = .ok (.goto (-145), 3) := by decide +kernel
theorem dX11_shouldBy_151 : decode cX11_shouldBy 151 = .ok (.iconst 0, 1) := by decide +kernel
theorem dX11_shouldBy_152 : decode cX11_shouldBy 152 = .ok (.ireturn, 1) := by decide +kernel
theorem dX11_isFill_0 : decode cX11_isFill 0 = .ok (.iload_n 1, 1) := by decide +kernel
theorem dX11_isFill_1 : decode cX11_isFill 1 = .ok (.i2l, 1) := by decide +kernel
theorem dX11_isFill_2 : decode cX11_isFill 2 = .ok (.lconst 1, 1) := by decide +kernel
theorem dX11_isFill_3 : decode cX11_isFill 3 = .ok (.ldc2_w 196, 3) := by decide +kernel
theorem dX11_isFill_6 : decode cX11_isFill 6 = .ok (.invokestatic 83, 3) := by decide +kernel
theorem dX11_isFill_9 : decode cX11_isFill 9 = .ok (.ifCond .eq 56, 3) := by decide +kernel
theorem dX11_isFill_12 : decode cX11_isFill 12 = .ok (.iload_n 1, 1) := by decide +kernel
theorem dX11_isFill_13 : decode cX11_isFill 13 = .ok (.aload_n 0, 1) := by decide +kernel
theorem dX11_isFill_14 : decode cX11_isFill 14 = .ok (.getfield 16, 3) := by decide +kernel
theorem dX11_isFill_17 : decode cX11_isFill 17 = .ok (.iconst (-1), 1) := by decide +kernel
theorem dX11_isFill_18 : decode cX11_isFill 18 = .ok (.ixor, 1) := by decide +kernel
theorem dX11_isFill_19 : decode cX11_isFill 19 = .ok (.iand, 1) := by decide +kernel
theorem dX11_isFill_20 : decode cX11_isFill 20 = .ok (.ifCond .ne 45, 3) := by decide +kernel
theorem dX11_isFill_23 : decode cX11_isFill 23 = .ok (.iload_n 3, 1) := by decide +kernel
theorem dX11_isFill_24 : decode cX11_isFill 24 = .ok (.i2l, 1) := by decide +kernel
theorem dX11_isFill_25 : decode cX11_isFill 25 = .ok (.lconst 1, 1) := by decide +kernel
theorem dX11_isFill_26 : decode cX11_isFill 26 = .ok (.ldc2_w 198, 3) := by decide +kernel
theorem dX11_isFill_29 : decode cX11_isFill 29 = .ok (.invokestatic 83, 3) := by decide +kernel
theorem dX11_isFill_32 : decode cX11_isFill 32 = .ok (.ifCond .eq 33, 3) := by decide +kernel
theorem dX11_isFill_35 : decode cX11_isFill 35 = .ok (.iload_n 2, 1) := by decide +kernel
theorem dX11_isFill_36 : decode cX11_isFill 36 = .ok (.i2l, 1) := by decide +kernel
theorem dX11_isFill_37 : decode cX11_isFill 37 = .ok (.lconst 0, 1) := by decide +kernel
theorem dX11_isFill_38 : decode cX11_isFill 38 = .ok (.ldc2_w 184, 3) := by decide +kernel
theorem dX11_isFill_41 : decode cX11_isFill 41 = .ok (.invokestatic 83, 3) := by decide +kernel
theorem dX11_isFill_44 : decode cX11_isFill 44 = .ok (.ifCond .eq 21, 3) := by decide +kernel
theorem dX11_isFill_47 : decode cX11_isFill 47 = .ok (.iload_n 2, 1) := by decide +kernel
theorem dX11_isFill_48 : decode cX11_isFill 48 = .ok (.bipush 60, 2) := by decide +kernel
theorem dX11_isFill_50 : decode cX11_isFill 50 = .ok (.iload_n 3, 1) := by decide +kernel
theorem dX11_isFill_51 : decode cX11_isFill 51 = .ok (.iconst 1, 1) := by decide +kernel
theorem dX11_isFill_52 : decode cX11_isFill 52 = .ok (.isub, 1) := by decide +kernel
theorem dX11_isFill_53 : decode cX11_isFill 53 = .ok (.imul, 1) := by decide +kernel
theorem dX11_isFill_54 : decode cX11_isFill 54 = .ok (.iadd, 1) := by decide +kernel
theorem dX11_isFill_55 : decode cX11_isFill 55 = .ok (.sipush 1440, 3) := by decide +kernel
theorem dX11_isFill_58 : decode cX11_isFill 58 = .ok (.if_icmp .ge 7, 3) := by decide +kernel
theorem dX11_isFill_61 : decode cX11_isFill 61 = .ok (.iconst 1, 1) := by decide +kernel
theorem dX11_isFill_62 : decode cX11_isFill 62 = .ok (.goto 4, 3) := by decide +kernel
theorem dX11_isFill_65 : decode cX11_isFill 65 = .ok (.iconst 0, 1) := by decide +kernel
theorem dX11_isFill_66 : decode cX11_isFill 66 = .ok (.ireturn, 1) := by decide +kernel
theorem dX11_should_0 : decode cX11_should 0 = .ok (.aload_n 0, 1) := by decide +kernel
theorem dX11_should_1 : decode cX11_should 1 = .ok (.iload_n 1, 1) := by decide +kernel
theorem dX11_should_2 : decode cX11_should 2 = .ok (.invokevirtual 157, 3) := by decide +kernel
theorem dX11_should_5 : decode cX11_should 5 = .ok (.ifCond .eq 10, 3) := by decide +kernel
theorem dX11_should_8 : decode cX11_should 8 = .ok (.iload_n 2, 1) := by decide +kernel
theorem dX11_should_9 : decode cX11_should 9 = .ok (.invokestatic 162, 3) := by decide +kernel
theorem dX11_should_12 : decode cX11_should 12 = .ok (.ifCond .ne 6, 3) := by decide +kernel
theorem dX11_should_15 : decode cX11_should 15 = .ok (.bipush (-2), 2) := by decide +kernel
theorem dX11_should_17 : decode cX11_should 17 = .ok (.ireturn, 1) := by decide +kernel
theorem dX11_should_18 : decode cX11_should 18 = .ok (.aload_n 0, 1) := by decide +kernel
theorem dX11_should_19 : decode cX11_should 19 = .ok (.iload_n 3, 1) := by decide +kernel
theorem dX11_should_20 : decode cX11_should 20 = .ok (.iload 4, 2) := by decide +kernel
theorem dX11_should_22 : decode cX11_should 22 = .ok (.iload 5, 2) := by decide +kernel
theorem dX11_should_24 : decode cX11_should 24 = .ok (.invokevirtual 200, 3) := by decide +kernel
theorem dX11_should_27 : decode cX11_should 27 = .ok (.ifCond .ne 6, 3) := by decide +kernel
theorem dX11_should_30 : decode cX11_should 30 = .ok (.bipush (-3), 2) := by decide +kernel
theorem dX11_should_32 : decode cX11_should 32 = .ok (.ireturn, 1) := by decide +kernel
theorem dX11_should_33 : decode cX11_should 33 = .ok (.aload_n 0, 1) := by decide +kernel
theorem dX11_should_34 : decode cX11_should 34 = .ok (.iload_n 1, 1) := by decide +kernel
theorem dX11_should_35 : decode cX11_should 35 = .ok (.iconst (-1), 1) := by decide +kernel
theorem dX11_should_36 : decode cX11_should 36 = .ok (.iconst (-1), 1) := by decide +kernel
theorem dX11_should_37 : decode cX11_should 37 = .ok (.iload_n 2, 1) := by decide +kernel
theorem dX11_should_38 : decode cX11_should 38 = .ok (.iload_n 3, 1) := by decide +kernel
theorem dX11_should_39 : decode cX11_should 39 = .ok (.iload 4, 2) := by decide +kernel
theorem dX11_should_41 : decode cX11_should 41 = .ok (.iload 5, 2) := by decide +kernel
theorem dX11_should_43 : decode cX11_should 43 = .ok (.invokevirtual 203, 3) := by decide +kernel
theorem dX11_should_46 : decode cX11_should 46 = .ok (.ifCond .eq 7, 3) := by decide +kernel
theorem dX11_should_49 : decode cX11_should 49 = .ok (.iconst 1, 1) := by decide +kernel
theorem dX11_should_50 : decode cX11_should 50 = .ok (.goto 4, 3) := by decide +kernel
theorem dX11_should_53 : decode cX11_should 53 = .ok (.iconst 0, 1) := by decide +kernel
theorem dX11_should_54 : decode cX11_should 54 = .ok (.ireturn, 1) := by decide +kernel
theorem dX11_found_0 : decode cX11_found 0 = .ok (.iload_n 1, 1) := by decide +kernel
theorem dX11_found_1 : decode cX11_found 1 = .ok (.invokestatic 162, 3) := by decide +kernel
theorem dX11_found_4 : decode cX11_found 4 = .ok (.ifCond .ne 6, 3) := by decide +kernel
theorem dX11_found_7 : decode cX11_found 7 = .ok (.bipush (-2), 2) := by decide +kernel
theorem dX11_found_9 : decode cX11_found 9 = .ok (.ireturn, 1) := by decide +kernel
theorem dX11_found_10 : decode cX11_found 10 = .ok (.aload_n 0, 1) := by decide +kernel
theorem dX11_found_11 : decode cX11_found 11 = .ok (.iload_n 2, 1) := by decide +kernel
theorem dX11_found_12 : decode cX11_found 12 = .ok (.iload_n 3, 1) := by decide +kernel
theorem dX11_found_13 : decode cX11_found 13 = .ok (.iload 4, 2) := by decide +kernel
theorem dX11_found_15 : decode cX11_found 15 = .ok (.invokevirtual 200, 3) := by decide +kernel
theorem dX11_found_18 : decode cX11_found 18 = .ok (.ifCond .ne 6, 3) := by decide +kernel
theorem dX11_found_21 : decode cX11_found 21 = .ok (.bipush (-3), 2) := by decide +kernel
theorem dX11_found_23 : decode cX11_found 23 = .ok (.ireturn, 1) := by decide +kernel
theorem dX11_found_24 : decode cX11_found 24 = .ok (.aload_n 0, 1) := by decide +kernel
theorem dX11_found_25 : decode cX11_found 25 = .ok (.getfield 207, 3) := by decide +kernel
theorem dX11_found_28 : decode cX11_found 28 = .ok (.bipush 10, 2) := by decide +kernel
theorem dX11_found_30 : decode cX11_found 30 = .ok (.if_icmp .ne 6, 3) := by decide +kernel
theorem dX11_found_33 : decode cX11_found 33 = .ok (.bipush (-5), 2) := by decide +kernel
theorem dX11_found_35 : decode cX11_found 35 = .ok (.ireturn, 1) := by decide +kernel
theorem dX11_found_36 : decode cX11_found 36 = .ok (.iconst 5, 1) := by decide +kernel
theorem dX11_found_37 : decode cX11_found 37 = .ok (.aload_n 0, 1) := by decide +kernel
theorem dX11_found_38 : decode cX11_found 38 = .ok (.getfield 207, 3) := by decide +kernel
theorem dX11_found_41 : decode cX11_found 41 = .ok (.imul, 1) := by decide +kernel
theorem dX11_found_42 : decode cX11_found 42 = .ok (.istore 6, 2) := by decide +kernel
theorem dX11_found_44 : decode cX11_found 44 = .ok (.aload_n 0, 1) := by decide +kernel
theorem dX11_found_45 : decode cX11_found 45 = .ok (.getfield 59, 3) := by decide +kernel
theorem dX11_found_48 : decode cX11_found 48 = .ok (.iload 6, 2) := by decide +kernel
theorem dX11_found_50 : decode cX11_found 50 = .ok (.iload_n 1, 1) := by decide +kernel
theorem dX11_found_51 : decode cX11_found 51 = .ok (.iastore, 1) := by decide +kernel
theorem dX11_found_52 : decode cX11_found 52 = .ok (.aload_n 0, 1) := by decide +kernel
theorem dX11_found_53 : decode cX11_found 53 = .ok (.getfield 59, 3) := by decide +kernel
theorem dX11_found_56 : decode cX11_found 56 = .ok (.iload 6, 2) := by decide +kernel
theorem dX11_found_58 : decode cX11_found 58 = .ok (.iconst 1, 1) := by decide +kernel
theorem dX11_found_59 : decode cX11_found 59 = .ok (.iadd, 1) := by decide +kernel
theorem dX11_found_60 : decode cX11_found 60 = .ok (.iload_n 2, 1) := by decide +kernel
theorem dX11_found_61 : decode cX11_found 61 = .ok (.iastore, 1) := by decide +kernel
theorem dX11_found_62 : decode cX11_found 62 = .ok (.aload_n 0, 1) := by decide +kernel
theorem dX11_found_63 : decode cX11_found 63 = .ok (.getfield 59, 3) := by decide +kernel
theorem dX11_found_66 : decode cX11_found 66 = .ok (.iload 6, 2) := by decide +kernel
theorem dX11_found_68 : decode cX11_found 68 = .ok (.iconst 2, 1) := by decide +kernel
theorem dX11_found_69 : decode cX11_found 69 = .ok (.iadd, 1) := by decide +kernel
theorem dX11_found_70 : decode cX11_found 70 = .ok (.iload_n 3, 1) := by decide +kernel
theorem dX11_found_71 : decode cX11_found 71 = .ok (.iastore, 1) := by decide +kernel
theorem dX11_found_72 : decode cX11_found 72 = .ok (.aload_n 0, 1) := by decide +kernel
theorem dX11_found_73 : decode cX11_found 73 = .ok (.getfield 59, 3) := by decide +kernel
theorem dX11_found_76 : decode cX11_found 76 = .ok (.iload 6, 2) := by decide +kernel
theorem dX11_found_78 : decode cX11_found 78 = .ok (.iconst 3, 1) := by decide +kernel
theorem dX11_found_79 : decode cX11_found 79 = .ok (.iadd, 1) := by decide +kernel
theorem dX11_found_80 : decode cX11_found 80 = .ok (.iload 4, 2) := by decide +kernel
theorem dX11_found_82 : decode cX11_found 82 = .ok (.iastore, 1) := by decide +kernel
theorem dX11_found_83 : decode cX11_found 83 = .ok (.aload_n 0, 1) := by decide +kernel
theorem dX11_found_84 : decode cX11_found 84 = .ok (.getfield 59, 3) := by decide +kernel
theorem dX11_found_87 : decode cX11_found 87 = .ok (.iload 6, 2) := by decide +kernel
theorem dX11_found_89 : decode cX11_found 89 = .ok (.iconst 4, 1) := by decide +kernel
theorem dX11_found_90 : decode cX11_found 90 = .ok (.iadd, 1) := by decide +kernel
theorem dX11_found_91 : decode cX11_found 91 = .ok (.iload 5, 2) := by decide +kernel
theorem dX11_found_93 : decode cX11_found 93 = .ok (.ifCond .eq 7, 3) := by decide +kernel
theorem dX11_found_96 : decode cX11_found 96 = .ok (.iconst 1, 1) := by decide +kernel
theorem dX11_found_97 : decode cX11_found 97 = .ok (.goto 4, 3) := by decide +kernel
theorem dX11_found_100 : decode cX11_found 100 = .ok (.iconst 0, 1) := by decide +kernel
theorem dX11_found_101 : decode cX11_found 101 = .ok (.iastore, 1) := by decide +kernel
theorem dX11_found_102 : decode cX11_found 102 = .ok (.aload_n 0, 1) := by decide +kernel
theorem dX11_found_103 : decode cX11_found 103 = .ok (.dup, 1) := by decide +kernel
theorem dX11_found_104 : decode cX11_found 104 = .ok (.getfield 207, 3) := by decide +kernel
theorem dX11_found_107 : decode cX11_found 107 = .ok (.iconst 1, 1) := by decide +kernel
theorem dX11_found_108 : decode cX11_found 108 = .ok (.iadd, 1) := by decide +kernel
theorem dX11_found_109 : decode cX11_found 109 = .ok (.putfield 207, 3) := by decide +kernel
theorem dX11_found_112 : decode cX11_found 112 = .ok (.aload_n 0, 1) := by decide +kernel
theorem dX11_found_113 : decode cX11_found 113 = .ok (.getfield 207, 3) := by decide +kernel
theorem dX11_found_116 : decode cX11_found 116 = .ok (.ireturn, 1) := by decide +kernel
theorem dX11_forget_0 : decode cX11_forget 0 = .ok (.aload_n 0, 1) := by decide +kernel
theorem dX11_forget_1 : decode cX11_forget 1 = .ok (.getfield 207, 3) := by decide +kernel
theorem dX11_forget_4 : decode cX11_forget 4 = .ok (.istore_n 1, 1) := by decide +kernel
theorem dX11_forget_5 : decode cX11_forget 5 = .ok (.aload_n 0, 1) := by decide +kernel
theorem dX11_forget_6 : decode cX11_forget 6 = .ok (.iconst 0, 1) := by decide +kernel
theorem dX11_forget_7 : decode cX11_forget 7 = .ok (.putfield 207, 3) := by decide +kernel
theorem dX11_forget_10 : decode cX11_forget 10 = .ok (.iload_n 1, 1) := by decide +kernel
theorem dX11_forget_11 : decode cX11_forget 11 = .ok (.ireturn, 1) := by decide +kernel
theorem dX11_yes_0 : decode cX11_yes 0 = .ok (.iload_n 2, 1) := by decide +kernel
theorem dX11_yes_1 : decode cX11_yes 1 = .ok (.ifCond .eq 15, 3) := by decide +kernel
theorem dX11_yes_4 : decode cX11_yes 4 = .ok (.bipush 10, 2) := by decide +kernel
theorem dX11_yes_6 : decode cX11_yes 6 = .ok (.aload_n 0, 1) := by decide +kernel
theorem dX11_yes_7 : decode cX11_yes 7 = .ok (.getfield 56, 3) := by decide +kernel
theorem dX11_yes_10 : decode cX11_yes 10 = .ok (.iload_n 1, 1) := by decide +kernel
theorem dX11_yes_11 : decode cX11_yes 11 = .ok (.iaload, 1) := by decide +kernel
theorem dX11_yes_12 : decode cX11_yes 12 = .ok (.isub, 1) := by decide +kernel
theorem dX11_yes_13 : decode cX11_yes 13 = .ok (.goto 9, 3) := by decide +kernel
theorem dX11_yes_16 : decode cX11_yes 16 = .ok (.aload_n 0, 1) := by decide +kernel
theorem dX11_yes_17 : decode cX11_yes 17 = .ok (.getfield 53, 3) := by decide +kernel
theorem dX11_yes_20 : decode cX11_yes 20 = .ok (.iload_n 1, 1) := by decide +kernel
theorem dX11_yes_21 : decode cX11_yes 21 = .ok (.iaload, 1) := by decide +kernel
theorem dX11_yes_22 : decode cX11_yes 22 = .ok (.ireturn, 1) := by decide +kernel
theorem dX11_thought_0 : decode cX11_thought 0 = .ok (.lload_n 1, 1) := by decide +kernel
theorem dX11_thought_1 : decode cX11_thought 1 = .ok (.lstore 5, 2) := by decide +kernel
theorem dX11_thought_3 : decode cX11_thought 3 = .ok (.iconst 0, 1) := by decide +kernel
theorem dX11_thought_4 : decode cX11_thought 4 = .ok (.istore 7, 2) := by decide +kernel
theorem dX11_thought_6 : decode cX11_thought 6 = .ok (.iload 7, 2) := by decide +kernel
theorem dX11_thought_8 : decode cX11_thought 8 = .ok (.iconst 5, 1) := by decide +kernel
theorem dX11_thought_9 : decode cX11_thought 9 = .ok (.aload_n 0, 1) := by decide +kernel
theorem dX11_thought_10 : decode cX11_thought 10 = .ok (.getfield 207, 3) := by decide +kernel
theorem dX11_thought_13 : decode cX11_thought 13 = .ok (.imul, 1) := by decide +kernel
theorem dX11_thought_14 : decode cX11_thought 14 = .ok (.if_icmp .ge 94, 3) := by decide +kernel
theorem dX11_thought_17 : decode cX11_thought 17 = .ok (.aload_n 0, 1) := by decide +kernel
theorem dX11_thought_18 : decode cX11_thought 18 = .ok (.aload_n 0, 1) := by decide +kernel
theorem dX11_thought_19 : decode cX11_thought 19 = .ok (.getfield 59, 3) := by decide +kernel
theorem dX11_thought_22 : decode cX11_thought 22 = .ok (.iload 7, 2) := by decide +kernel
theorem dX11_thought_24 : decode cX11_thought 24 = .ok (.iaload, 1) := by decide +kernel
theorem dX11_thought_25 : decode cX11_thought 25 = .ok (.aload_n 0, 1) := by decide +kernel
theorem dX11_thought_26 : decode cX11_thought 26 = .ok (.iload_n 3, 1) := by decide +kernel
theorem dX11_thought_27 : decode cX11_thought 27 = .ok (.iload 4, 2) := by decide +kernel
theorem dX11_thought_29 : decode cX11_thought 29 = .ok (.iconst (-1), 1) := by decide +kernel
theorem dX11_thought_30 : decode cX11_thought 30 = .ok (.aload_n 0, 1) := by decide +kernel
theorem dX11_thought_31 : decode cX11_thought 31 = .ok (.getfield 59, 3) := by decide +kernel
theorem dX11_thought_34 : decode cX11_thought 34 = .ok (.iload 7, 2) := by decide +kernel
theorem dX11_thought_36 : decode cX11_thought 36 = .ok (.iaload, 1) := by decide +kernel
theorem dX11_thought_37 : decode cX11_thought 37 = .ok (.aload_n 0, 1) := by decide +kernel
theorem dX11_thought_38 : decode cX11_thought 38 = .ok (.getfield 59, 3) := by decide +kernel
theorem dX11_thought_41 : decode cX11_thought 41 = .ok (.iload 7, 2) := by decide +kernel
theorem dX11_thought_43 : decode cX11_thought 43 = .ok (.iconst 1, 1) := by decide +kernel
theorem dX11_thought_44 : decode cX11_thought 44 = .ok (.iadd, 1) := by decide +kernel
theorem dX11_thought_45 : decode cX11_thought 45 = .ok (.iaload, 1) := by decide +kernel
theorem dX11_thought_46 : decode cX11_thought 46 = .ok (.aload_n 0, 1) := by decide +kernel
theorem dX11_thought_47 : decode cX11_thought 47 = .ok (.getfield 59, 3) := by decide +kernel
theorem dX11_thought_50 : decode cX11_thought 50 = .ok (.iload 7, 2) := by decide +kernel
theorem dX11_thought_52 : decode cX11_thought 52 = .ok (.iconst 2, 1) := by decide +kernel
theorem dX11_thought_53 : decode cX11_thought 53 = .ok (.iadd, 1) := by decide +kernel
theorem dX11_thought_54 : decode cX11_thought 54 = .ok (.iaload, 1) := by decide +kernel
theorem dX11_thought_55 : decode cX11_thought 55 = .ok (.aload_n 0, 1) := by decide +kernel
theorem dX11_thought_56 : decode cX11_thought 56 = .ok (.getfield 59, 3) := by decide +kernel
theorem dX11_thought_59 : decode cX11_thought 59 = .ok (.iload 7, 2) := by decide +kernel
theorem dX11_thought_61 : decode cX11_thought 61 = .ok (.iconst 3, 1) := by decide +kernel
theorem dX11_thought_62 : decode cX11_thought 62 = .ok (.iadd, 1) := by decide +kernel
theorem dX11_thought_63 : decode cX11_thought 63 = .ok (.iaload, 1) := by decide +kernel
theorem dX11_thought_64 : decode cX11_thought 64 = .ok (.invokevirtual 203, 3) := by decide +kernel
theorem dX11_thought_67 : decode cX11_thought 67 = .ok (.invokevirtual 210, 3) := by decide +kernel
theorem dX11_thought_70 : decode cX11_thought 70 = .ok (.istore 8, 2) := by decide +kernel
theorem dX11_thought_72 : decode cX11_thought 72 = .ok (.lload 5, 2) := by decide +kernel
theorem dX11_thought_74 : decode cX11_thought 74 = .ok (.aload_n 0, 1) := by decide +kernel
theorem dX11_thought_75 : decode cX11_thought 75 = .ok (.getfield 59, 3) := by decide +kernel
theorem dX11_thought_78 : decode cX11_thought 78 = .ok (.iload 7, 2) := by decide +kernel
theorem dX11_thought_80 : decode cX11_thought 80 = .ok (.iconst 4, 1) := by decide +kernel
theorem dX11_thought_81 : decode cX11_thought 81 = .ok (.iadd, 1) := by decide +kernel
theorem dX11_thought_82 : decode cX11_thought 82 = .ok (.iaload, 1) := by decide +kernel
theorem dX11_thought_83 : decode cX11_thought 83 = .ok (.iconst 1, 1) := by decide +kernel
theorem dX11_thought_84 : decode cX11_thought 84 = .ok (.if_icmp .ne 9, 3) := by decide +kernel
theorem dX11_thought_87 : decode cX11_thought 87 = .ok (.iload 8, 2) := by decide +kernel
theorem dX11_thought_89 : decode cX11_thought 89 = .ok (.i2l, 1) := by decide +kernel
theorem dX11_thought_90 : decode cX11_thought 90 = .ok (.goto 9, 3) := by decide +kernel
theorem dX11_thought_93 : decode cX11_thought 93 = .ok (.bipush 10, 2) := by decide +kernel
theorem dX11_thought_95 : decode cX11_thought 95 = .ok (.iload 8, 2) := by decide +kernel
theorem dX11_thought_97 : decode cX11_thought 97 = .ok (.isub, 1) := by decide +kernel
theorem dX11_thought_98 : decode cX11_thought 98 = .ok (.i2l, 1) := by decide +kernel
theorem dX11_thought_99 : decode cX11_thought 99 = .ok (.lmul, 1) := by decide +kernel
theorem dX11_thought_100 : decode cX11_thought 100 = .ok (.lstore 5, 2) := by decide +kernel
theorem dX11_thought_102 : decode cX11_thought 102 = .ok (.iinc 7 5, 3) := by decide +kernel
theorem dX11_thought_105 : decode cX11_thought 105 = .ok (.goto (-99), 3) := by decide +kernel
theorem dX11_thought_108 : decode cX11_thought 108 = .ok (.lload 5, 2) := by decide +kernel
theorem dX11_thought_110 : decode cX11_thought 110 = .ok (.lreturn, 1) := by decide +kernel
theorem dX11_sources_0 : decode cX11_sources 0 = .ok (.iconst 0, 1) := by decide +kernel
theorem dX11_sources_1 : decode cX11_sources 1 = .ok (.istore_n 1, 1) := by decide +kernel
theorem dX11_sources_2 : decode cX11_sources 2 = .ok (.iconst 0, 1) := by decide +kernel
theorem dX11_sources_3 : decode cX11_sources 3 = .ok (.istore_n 2, 1) := by decide +kernel
theorem dX11_sources_4 : decode cX11_sources 4 = .ok (.iload_n 2, 1) := by decide +kernel
theorem dX11_sources_5 : decode cX11_sources 5 = .ok (.bipush 12, 2) := by decide +kernel
theorem dX11_sources_7 : decode cX11_sources 7 = .ok (.if_icmp .ge 39, 3) := by decide +kernel
theorem dX11_sources_10 : decode cX11_sources 10 = .ok (.iload_n 1, 1) := by decide +kernel
theorem dX11_sources_11 : decode cX11_sources 11 = .ok (.aload_n 0, 1) := by decide +kernel
theorem dX11_sources_12 : decode cX11_sources 12 = .ok (.getfield 16, 3) := by decide +kernel
theorem dX11_sources_15 : decode cX11_sources 15 = .ok (.iload_n 2, 1) := by decide +kernel
theorem dX11_sources_16 : decode cX11_sources 16 = .ok (.invokestatic 87, 3) := by decide +kernel
theorem dX11_sources_19 : decode cX11_sources 19 = .ok (.ifCond .eq 18, 3) := by decide +kernel
theorem dX11_sources_22 : decode cX11_sources 22 = .ok (.aload_n 0, 1) := by decide +kernel
theorem dX11_sources_23 : decode cX11_sources 23 = .ok (.getfield 35, 3) := by decide +kernel
theorem dX11_sources_26 : decode cX11_sources 26 = .ok (.iload_n 2, 1) := by decide +kernel
theorem dX11_sources_27 : decode cX11_sources 27 = .ok (.iaload, 1) := by decide +kernel
theorem dX11_sources_28 : decode cX11_sources 28 = .ok (.ifCond .le 9, 3) := by decide +kernel
theorem dX11_sources_31 : decode cX11_sources 31 = .ok (.iconst 1, 1) := by decide +kernel
theorem dX11_sources_32 : decode cX11_sources 32 = .ok (.iload_n 2, 1) := by decide +kernel
theorem dX11_sources_33 : decode cX11_sources 33 = .ok (.ishl, 1) := by decide +kernel
theorem dX11_sources_34 : decode cX11_sources 34 = .ok (.goto 4, 3) := by decide +kernel
theorem dX11_sources_37 : decode cX11_sources 37 = .ok (.iconst 0, 1) := by decide +kernel
theorem dX11_sources_38 : decode cX11_sources 38 = .ok (.ior, 1) := by decide +kernel
theorem dX11_sources_39 : decode cX11_sources 39 = .ok (.istore_n 1, 1) := by decide +kernel
theorem dX11_sources_40 : decode cX11_sources 40 = .ok (.iinc 2 1, 3) := by decide +kernel
theorem dX11_sources_43 : decode cX11_sources 43 = .ok (.goto (-39), 3) := by decide +kernel
theorem dX11_sources_46 : decode cX11_sources 46 = .ok (.iload_n 1, 1) := by decide +kernel
theorem dX11_sources_47 : decode cX11_sources 47 = .ok (.ireturn, 1) := by decide +kernel
theorem dX11_thoughtOf_0 : decode cX11_thoughtOf 0 = .ok (.iload_n 1, 1) := by decide +kernel
theorem dX11_thoughtOf_1 : decode cX11_thoughtOf 1 = .ok (.iconst (-1), 1) := by decide +kernel
theorem dX11_thoughtOf_2 : decode cX11_thoughtOf 2 = .ok (.if_icmp .ne 17, 3) := by decide +kernel
theorem dX11_thoughtOf_5 : decode cX11_thoughtOf 5 = .ok (.aload_n 0, 1) := by decide +kernel
theorem dX11_thoughtOf_6 : decode cX11_thoughtOf 6 = .ok (.aload_n 0, 1) := by decide +kernel
theorem dX11_thoughtOf_7 : decode cX11_thoughtOf 7 = .ok (.getfield 146, 3) := by decide +kernel
theorem dX11_thoughtOf_10 : decode cX11_thoughtOf 10 = .ok (.i2l, 1) := by decide +kernel
theorem dX11_thoughtOf_11 : decode cX11_thoughtOf 11 = .ok (.iconst (-1), 1) := by decide +kernel
theorem dX11_thoughtOf_12 : decode cX11_thoughtOf 12 = .ok (.iconst (-1), 1) := by decide +kernel
theorem dX11_thoughtOf_13 : decode cX11_thoughtOf 13 = .ok (.invokevirtual 214, 3) := by decide +kernel
theorem dX11_thoughtOf_16 : decode cX11_thoughtOf 16 = .ok (.goto 16, 3) := by decide +kernel
theorem dX11_thoughtOf_19 : decode cX11_thoughtOf 19 = .ok (.aload_n 0, 1) := by decide +kernel
theorem dX11_thoughtOf_20 : decode cX11_thoughtOf 20 = .ok (.aload_n 0, 1) := by decide +kernel
theorem dX11_thoughtOf_21 : decode cX11_thoughtOf 21 = .ok (.getfield 35, 3) := by decide +kernel
theorem dX11_thoughtOf_24 : decode cX11_thoughtOf 24 = .ok (.iload_n 1, 1) := by decide +kernel
theorem dX11_thoughtOf_25 : decode cX11_thoughtOf 25 = .ok (.iaload, 1) := by decide +kernel
