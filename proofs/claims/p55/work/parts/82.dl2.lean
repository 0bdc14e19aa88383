/-! decode rows of the law's long methods -/
theorem dL_drawn_0 : decode cL_drawn 0 = .ok (.new 9, 3) := by decide +kernel
theorem dL_drawn_3 : decode cL_drawn 3 = .ok (.dup, 1) := by decide +kernel
theorem dL_drawn_4 : decode cL_drawn 4 = .ok (.invokespecial 144, 3) := by decide +kernel
theorem dL_drawn_7 : decode cL_drawn 7 = .ok (.astore_n 1, 1) := by decide +kernel
theorem dL_drawn_8 : decode cL_drawn 8 = .ok (.aload_n 0, 1) := by decide +kernel
theorem dL_drawn_9 : decode cL_drawn 9 = .ok (.iconst 0, 1) := by decide +kernel
theorem dL_drawn_10 : decode cL_drawn 10 = .ok (.invokestatic 145, 3) := by decide +kernel
theorem dL_drawn_13 : decode cL_drawn 13 = .ok (.iconst 1, 1) := by decide +kernel
theorem dL_drawn_14 : decode cL_drawn 14 = .ok (.iushr, 1) := by decide +kernel
theorem dL_drawn_15 : decode cL_drawn 15 = .ok (.istore_n 2, 1) := by decide +kernel
theorem dL_drawn_16 : decode cL_drawn 16 = .ok (.iconst 1, 1) := by decide +kernel
theorem dL_drawn_17 : decode cL_drawn 17 = .ok (.iload_n 2, 1) := by decide +kernel
theorem dL_drawn_18 : decode cL_drawn 18 = .ok (.iconst 5, 1) := by decide +kernel
theorem dL_drawn_19 : decode cL_drawn 19 = .ok (.irem, 1) := by decide +kernel
theorem dL_drawn_20 : decode cL_drawn 20 = .ok (.iadd, 1) := by decide +kernel
theorem dL_drawn_21 : decode cL_drawn 21 = .ok (.istore_n 3, 1) := by decide +kernel
theorem dL_drawn_22 : decode cL_drawn 22 = .ok (.iconst 2, 1) := by decide +kernel
theorem dL_drawn_23 : decode cL_drawn 23 = .ok (.iload_n 2, 1) := by decide +kernel
theorem dL_drawn_24 : decode cL_drawn 24 = .ok (.iconst 3, 1) := by decide +kernel
theorem dL_drawn_25 : decode cL_drawn 25 = .ok (.iushr, 1) := by decide +kernel
theorem dL_drawn_26 : decode cL_drawn 26 = .ok (.bipush 7, 2) := by decide +kernel
theorem dL_drawn_28 : decode cL_drawn 28 = .ok (.irem, 1) := by decide +kernel
theorem dL_drawn_29 : decode cL_drawn 29 = .ok (.iadd, 1) := by decide +kernel
theorem dL_drawn_30 : decode cL_drawn 30 = .ok (.istore 4, 2) := by decide +kernel
theorem dL_drawn_32 : decode cL_drawn 32 = .ok (.iconst 0, 1) := by decide +kernel
theorem dL_drawn_33 : decode cL_drawn 33 = .ok (.istore 5, 2) := by decide +kernel
theorem dL_drawn_35 : decode cL_drawn 35 = .ok (.iload 5, 2) := by decide +kernel
theorem dL_drawn_37 : decode cL_drawn 37 = .ok (.iload_n 3, 1) := by decide +kernel
theorem dL_drawn_38 : decode cL_drawn 38 = .ok (.if_icmp .ge 20, 3) := by decide +kernel
theorem dL_drawn_41 : decode cL_drawn 41 = .ok (.aload_n 1, 1) := by decide +kernel
theorem dL_drawn_42 : decode cL_drawn 42 = .ok (.invokestatic 149, 3) := by decide +kernel
theorem dL_drawn_45 : decode cL_drawn 45 = .ok (.iload 5, 2) := by decide +kernel
theorem dL_drawn_47 : decode cL_drawn 47 = .ok (.if_icmp .eq 5, 3) := by decide +kernel
theorem dL_drawn_50 : decode cL_drawn 50 = .ok (.aconst_null, 1) := by decide +kernel
theorem dL_drawn_51 : decode cL_drawn 51 = .ok (.areturn, 1) := by decide +kernel
theorem dL_drawn_52 : decode cL_drawn 52 = .ok (.iinc 5 1, 3) := by decide +kernel
theorem dL_drawn_55 : decode cL_drawn 55 = .ok (.goto (-20), 3) := by decide +kernel
theorem dL_drawn_58 : decode cL_drawn 58 = .ok (.iconst 0, 1) := by decide +kernel
theorem dL_drawn_59 : decode cL_drawn 59 = .ok (.istore 5, 2) := by decide +kernel
theorem dL_drawn_61 : decode cL_drawn 61 = .ok (.iload 5, 2) := by decide +kernel
theorem dL_drawn_63 : decode cL_drawn 63 = .ok (.iload 4, 2) := by decide +kernel
theorem dL_drawn_65 : decode cL_drawn 65 = .ok (.if_icmp .ge 32, 3) := by decide +kernel
theorem dL_drawn_68 : decode cL_drawn 68 = .ok (.aload_n 1, 1) := by decide +kernel
theorem dL_drawn_69 : decode cL_drawn 69 = .ok (.iconst 1, 1) := by decide +kernel
theorem dL_drawn_70 : decode cL_drawn 70 = .ok (.iload_n 2, 1) := by decide +kernel
theorem dL_drawn_71 : decode cL_drawn 71 = .ok (.iconst 2, 1) := by decide +kernel
theorem dL_drawn_72 : decode cL_drawn 72 = .ok (.iload 5, 2) := by decide +kernel
theorem dL_drawn_74 : decode cL_drawn 74 = .ok (.imul, 1) := by decide +kernel
theorem dL_drawn_75 : decode cL_drawn 75 = .ok (.iconst 4, 1) := by decide +kernel
theorem dL_drawn_76 : decode cL_drawn 76 = .ok (.iadd, 1) := by decide +kernel
theorem dL_drawn_77 : decode cL_drawn 77 = .ok (.iushr, 1) := by decide +kernel
theorem dL_drawn_78 : decode cL_drawn 78 = .ok (.iconst 3, 1) := by decide +kernel
theorem dL_drawn_79 : decode cL_drawn 79 = .ok (.irem, 1) := by decide +kernel
theorem dL_drawn_80 : decode cL_drawn 80 = .ok (.iadd, 1) := by decide +kernel
theorem dL_drawn_81 : decode cL_drawn 81 = .ok (.invokestatic 151, 3) := by decide +kernel
theorem dL_drawn_84 : decode cL_drawn 84 = .ok (.iload 5, 2) := by decide +kernel
theorem dL_drawn_86 : decode cL_drawn 86 = .ok (.if_icmp .eq 5, 3) := by decide +kernel
theorem dL_drawn_89 : decode cL_drawn 89 = .ok (.aconst_null, 1) := by decide +kernel
theorem dL_drawn_90 : decode cL_drawn 90 = .ok (.areturn, 1) := by decide +kernel
theorem dL_drawn_91 : decode cL_drawn 91 = .ok (.iinc 5 1, 3) := by decide +kernel
theorem dL_drawn_94 : decode cL_drawn 94 = .ok (.goto (-33), 3) := by decide +kernel
theorem dL_drawn_97 : decode cL_drawn 97 = .ok (.iconst 1, 1) := by decide +kernel
theorem dL_drawn_98 : decode cL_drawn 98 = .ok (.iload_n 2, 1) := by decide +kernel
theorem dL_drawn_99 : decode cL_drawn 99 = .ok (.bipush 6, 2) := by decide +kernel
theorem dL_drawn_101 : decode cL_drawn 101 = .ok (.iushr, 1) := by decide +kernel
theorem dL_drawn_102 : decode cL_drawn 102 = .ok (.iload_n 2, 1) := by decide +kernel
theorem dL_drawn_103 : decode cL_drawn 103 = .ok (.iconst 4, 1) := by decide +kernel
theorem dL_drawn_104 : decode cL_drawn 104 = .ok (.irem, 1) := by decide +kernel
theorem dL_drawn_105 : decode cL_drawn 105 = .ok (.ifCond .ne 9, 3) := by decide +kernel
theorem dL_drawn_108 : decode cL_drawn 108 = .ok (.sipush 200, 3) := by decide +kernel
theorem dL_drawn_111 : decode cL_drawn 111 = .ok (.goto 5, 3) := by decide +kernel
theorem dL_drawn_114 : decode cL_drawn 114 = .ok (.bipush 40, 2) := by decide +kernel
theorem dL_drawn_116 : decode cL_drawn 116 = .ok (.irem, 1) := by decide +kernel
theorem dL_drawn_117 : decode cL_drawn 117 = .ok (.iadd, 1) := by decide +kernel
theorem dL_drawn_118 : decode cL_drawn 118 = .ok (.istore 5, 2) := by decide +kernel
theorem dL_drawn_120 : decode cL_drawn 120 = .ok (.iload_n 2, 1) := by decide +kernel
theorem dL_drawn_121 : decode cL_drawn 121 = .ok (.bipush 7, 2) := by decide +kernel
theorem dL_drawn_123 : decode cL_drawn 123 = .ok (.irem, 1) := by decide +kernel
theorem dL_drawn_124 : decode cL_drawn 124 = .ok (.ifCond .le 16, 3) := by decide +kernel
theorem dL_drawn_127 : decode cL_drawn 127 = .ok (.aload_n 1, 1) := by decide +kernel
theorem dL_drawn_128 : decode cL_drawn 128 = .ok (.iload 5, 2) := by decide +kernel
theorem dL_drawn_130 : decode cL_drawn 130 = .ok (.invokestatic 154, 3) := by decide +kernel
theorem dL_drawn_133 : decode cL_drawn 133 = .ok (.iload 5, 2) := by decide +kernel
theorem dL_drawn_135 : decode cL_drawn 135 = .ok (.if_icmp .eq 5, 3) := by decide +kernel
theorem dL_drawn_138 : decode cL_drawn 138 = .ok (.aconst_null, 1) := by decide +kernel
theorem dL_drawn_139 : decode cL_drawn 139 = .ok (.areturn, 1) := by decide +kernel
theorem dL_drawn_140 : decode cL_drawn 140 = .ok (.iconst 0, 1) := by decide +kernel
theorem dL_drawn_141 : decode cL_drawn 141 = .ok (.istore 6, 2) := by decide +kernel
theorem dL_drawn_143 : decode cL_drawn 143 = .ok (.iload 6, 2) := by decide +kernel
theorem dL_drawn_145 : decode cL_drawn 145 = .ok (.bipush 11, 2) := by decide +kernel
theorem dL_drawn_147 : decode cL_drawn 147 = .ok (.if_icmp .ge 174, 3) := by decide +kernel
theorem dL_drawn_150 : decode cL_drawn 150 = .ok (.aload_n 0, 1) := by decide +kernel
theorem dL_drawn_151 : decode cL_drawn 151 = .ok (.iconst 1, 1) := by decide +kernel
theorem dL_drawn_152 : decode cL_drawn 152 = .ok (.iload 6, 2) := by decide +kernel
theorem dL_drawn_154 : decode cL_drawn 154 = .ok (.iadd, 1) := by decide +kernel
theorem dL_drawn_155 : decode cL_drawn 155 = .ok (.invokestatic 145, 3) := by decide +kernel
theorem dL_drawn_158 : decode cL_drawn 158 = .ok (.iconst 1, 1) := by decide +kernel
theorem dL_drawn_159 : decode cL_drawn 159 = .ok (.iushr, 1) := by decide +kernel
theorem dL_drawn_160 : decode cL_drawn 160 = .ok (.istore 7, 2) := by decide +kernel
theorem dL_drawn_162 : decode cL_drawn 162 = .ok (.iload 7, 2) := by decide +kernel
theorem dL_drawn_164 : decode cL_drawn 164 = .ok (.iconst 3, 1) := by decide +kernel
theorem dL_drawn_165 : decode cL_drawn 165 = .ok (.iushr, 1) := by decide +kernel
theorem dL_drawn_166 : decode cL_drawn 166 = .ok (.iload 4, 2) := by decide +kernel
theorem dL_drawn_168 : decode cL_drawn 168 = .ok (.irem, 1) := by decide +kernel
theorem dL_drawn_169 : decode cL_drawn 169 = .ok (.istore 8, 2) := by decide +kernel
theorem dL_drawn_171 : decode cL_drawn 171 = .ok (.iload 7, 2) := by decide +kernel
theorem dL_drawn_173 : decode cL_drawn 173 = .ok (.bipush 8, 2) := by decide +kernel
theorem dL_drawn_175 : decode cL_drawn 175 = .ok (.irem, 1) := by decide +kernel
theorem dL_drawn_176 : decode cL_drawn 176 = .ok (.iconst 5, 1) := by decide +kernel
theorem dL_drawn_177 : decode cL_drawn 177 = .ok (.if_icmp .ge 41, 3) := by decide +kernel
theorem dL_drawn_180 : decode cL_drawn 180 = .ok (.aload_n 1, 1) := by decide +kernel
theorem dL_drawn_181 : decode cL_drawn 181 = .ok (.iload 7, 2) := by decide +kernel
theorem dL_drawn_183 : decode cL_drawn 183 = .ok (.bipush 6, 2) := by decide +kernel
theorem dL_drawn_185 : decode cL_drawn 185 = .ok (.iushr, 1) := by decide +kernel
theorem dL_drawn_186 : decode cL_drawn 186 = .ok (.iload_n 3, 1) := by decide +kernel
theorem dL_drawn_187 : decode cL_drawn 187 = .ok (.irem, 1) := by decide +kernel
theorem dL_drawn_188 : decode cL_drawn 188 = .ok (.iload 8, 2) := by decide +kernel
theorem dL_drawn_190 : decode cL_drawn 190 = .ok (.iconst 1, 1) := by decide +kernel
theorem dL_drawn_191 : decode cL_drawn 191 = .ok (.iload 7, 2) := by decide +kernel
theorem dL_drawn_193 : decode cL_drawn 193 = .ok (.bipush 9, 2) := by decide +kernel
theorem dL_drawn_195 : decode cL_drawn 195 = .ok (.iushr, 1) := by decide +kernel
theorem dL_drawn_196 : decode cL_drawn 196 = .ok (.iload 7, 2) := by decide +kernel
theorem dL_drawn_198 : decode cL_drawn 198 = .ok (.iconst 3, 1) := by decide +kernel
theorem dL_drawn_199 : decode cL_drawn 199 = .ok (.irem, 1) := by decide +kernel
theorem dL_drawn_200 : decode cL_drawn 200 = .ok (.ifCond .ne 8, 3) := by decide +kernel
theorem dL_drawn_203 : decode cL_drawn 203 = .ok (.bipush 24, 2) := by decide +kernel
theorem dL_drawn_205 : decode cL_drawn 205 = .ok (.goto 5, 3) := by decide +kernel
theorem dL_drawn_208 : decode cL_drawn 208 = .ok (.bipush 7, 2) := by decide +kernel
theorem dL_drawn_210 : decode cL_drawn 210 = .ok (.irem, 1) := by decide +kernel
theorem dL_drawn_211 : decode cL_drawn 211 = .ok (.iadd, 1) := by decide +kernel
theorem dL_drawn_212 : decode cL_drawn 212 = .ok (.invokestatic 156, 3) := by decide +kernel
theorem dL_drawn_215 : decode cL_drawn 215 = .ok (.goto 90, 3) := by decide +kernel
theorem dL_drawn_218 : decode cL_drawn 218 = .ok (.iload 7, 2) := by decide +kernel
theorem dL_drawn_220 : decode cL_drawn 220 = .ok (.bipush 8, 2) := by decide +kernel
theorem dL_drawn_222 : decode cL_drawn 222 = .ok (.irem, 1) := by decide +kernel
theorem dL_drawn_223 : decode cL_drawn 223 = .ok (.iconst 5, 1) := by decide +kernel
theorem dL_drawn_224 : decode cL_drawn 224 = .ok (.if_icmp .ne 22, 3) := by decide +kernel
theorem dL_drawn_227 : decode cL_drawn 227 = .ok (.aload_n 1, 1) := by decide +kernel
theorem dL_drawn_228 : decode cL_drawn 228 = .ok (.iload 8, 2) := by decide +kernel
theorem dL_drawn_230 : decode cL_drawn 230 = .ok (.iconst 1, 1) := by decide +kernel
theorem dL_drawn_231 : decode cL_drawn 231 = .ok (.iload 7, 2) := by decide +kernel
theorem dL_drawn_233 : decode cL_drawn 233 = .ok (.bipush 9, 2) := by decide +kernel
theorem dL_drawn_235 : decode cL_drawn 235 = .ok (.iushr, 1) := by decide +kernel
theorem dL_drawn_236 : decode cL_drawn 236 = .ok (.bipush 9, 2) := by decide +kernel
theorem dL_drawn_238 : decode cL_drawn 238 = .ok (.irem, 1) := by decide +kernel
theorem dL_drawn_239 : decode cL_drawn 239 = .ok (.iadd, 1) := by decide +kernel
theorem dL_drawn_240 : decode cL_drawn 240 = .ok (.invokestatic 159, 3) := by decide +kernel
theorem dL_drawn_243 : decode cL_drawn 243 = .ok (.goto 62, 3) := by decide +kernel
theorem dL_drawn_246 : decode cL_drawn 246 = .ok (.iload 7, 2) := by decide +kernel
theorem dL_drawn_248 : decode cL_drawn 248 = .ok (.bipush 8, 2) := by decide +kernel
theorem dL_drawn_250 : decode cL_drawn 250 = .ok (.irem, 1) := by decide +kernel
theorem dL_drawn_251 : decode cL_drawn 251 = .ok (.bipush 6, 2) := by decide +kernel
theorem dL_drawn_253 : decode cL_drawn 253 = .ok (.if_icmp .ne 19, 3) := by decide +kernel
theorem dL_drawn_256 : decode cL_drawn 256 = .ok (.aload_n 1, 1) := by decide +kernel
theorem dL_drawn_257 : decode cL_drawn 257 = .ok (.iconst 1, 1) := by decide +kernel
theorem dL_drawn_258 : decode cL_drawn 258 = .ok (.iload 7, 2) := by decide +kernel
theorem dL_drawn_260 : decode cL_drawn 260 = .ok (.bipush 9, 2) := by decide +kernel
theorem dL_drawn_262 : decode cL_drawn 262 = .ok (.iushr, 1) := by decide +kernel
theorem dL_drawn_263 : decode cL_drawn 263 = .ok (.iconst 4, 1) := by decide +kernel
theorem dL_drawn_264 : decode cL_drawn 264 = .ok (.irem, 1) := by decide +kernel
theorem dL_drawn_265 : decode cL_drawn 265 = .ok (.iadd, 1) := by decide +kernel
theorem dL_drawn_266 : decode cL_drawn 266 = .ok (.invokestatic 163, 3) := by decide +kernel
theorem dL_drawn_269 : decode cL_drawn 269 = .ok (.goto 36, 3) := by decide +kernel
theorem dL_drawn_272 : decode cL_drawn 272 = .ok (.iload 7, 2) := by decide +kernel
theorem dL_drawn_274 : decode cL_drawn 274 = .ok (.bipush 16, 2) := by decide +kernel
theorem dL_drawn_276 : decode cL_drawn 276 = .ok (.irem, 1) := by decide +kernel
theorem dL_drawn_277 : decode cL_drawn 277 = .ok (.bipush 7, 2) := by decide +kernel
theorem dL_drawn_279 : decode cL_drawn 279 = .ok (.if_icmp .ne 12, 3) := by decide +kernel
theorem dL_drawn_282 : decode cL_drawn 282 = .ok (.aload_n 1, 1) := by decide +kernel
theorem dL_drawn_283 : decode cL_drawn 283 = .ok (.iload 8, 2) := by decide +kernel
theorem dL_drawn_285 : decode cL_drawn 285 = .ok (.invokestatic 166, 3) := by decide +kernel
theorem dL_drawn_288 : decode cL_drawn 288 = .ok (.goto 17, 3) := by decide +kernel
theorem dL_drawn_291 : decode cL_drawn 291 = .ok (.aload_n 1, 1) := by decide +kernel
theorem dL_drawn_292 : decode cL_drawn 292 = .ok (.iconst 1, 1) := by decide +kernel
theorem dL_drawn_293 : decode cL_drawn 293 = .ok (.iload 7, 2) := by decide +kernel
theorem dL_drawn_295 : decode cL_drawn 295 = .ok (.bipush 9, 2) := by decide +kernel
theorem dL_drawn_297 : decode cL_drawn 297 = .ok (.iushr, 1) := by decide +kernel
theorem dL_drawn_298 : decode cL_drawn 298 = .ok (.bipush 30, 2) := by decide +kernel
theorem dL_drawn_300 : decode cL_drawn 300 = .ok (.irem, 1) := by decide +kernel
theorem dL_drawn_301 : decode cL_drawn 301 = .ok (.iadd, 1) := by decide +kernel
theorem dL_drawn_302 : decode cL_drawn 302 = .ok (.invokestatic 154, 3) := by decide +kernel
theorem dL_drawn_305 : decode cL_drawn 305 = .ok (.istore 9, 2) := by decide +kernel
theorem dL_drawn_307 : decode cL_drawn 307 = .ok (.iload 9, 2) := by decide +kernel
theorem dL_drawn_309 : decode cL_drawn 309 = .ok (.iconst (-1), 1) := by decide +kernel
theorem dL_drawn_310 : decode cL_drawn 310 = .ok (.if_icmp .ne 5, 3) := by decide +kernel
theorem dL_drawn_313 : decode cL_drawn 313 = .ok (.aconst_null, 1) := by decide +kernel
theorem dL_drawn_314 : decode cL_drawn 314 = .ok (.areturn, 1) := by decide +kernel
theorem dL_drawn_315 : decode cL_drawn 315 = .ok (.iinc 6 1, 3) := by decide +kernel
theorem dL_drawn_318 : decode cL_drawn 318 = .ok (.goto (-175), 3) := by decide +kernel
theorem dL_drawn_321 : decode cL_drawn 321 = .ok (.aload_n 1, 1) := by decide +kernel
theorem dL_drawn_322 : decode cL_drawn 322 = .ok (.areturn, 1) := by decide +kernel
theorem dL_ships_0 : decode cL_ships 0 = .ok (.aload_n 0, 1) := by decide +kernel
theorem dL_ships_1 : decode cL_ships 1 = .ok (.invokevirtual 195, 3) := by decide +kernel
theorem dL_ships_4 : decode cL_ships 4 = .ok (.istore_n 1, 1) := by decide +kernel
theorem dL_ships_5 : decode cL_ships 5 = .ok (.aload_n 0, 1) := by decide +kernel
theorem dL_ships_6 : decode cL_ships 6 = .ok (.invokevirtual 198, 3) := by decide +kernel
theorem dL_ships_9 : decode cL_ships 9 = .ok (.istore_n 2, 1) := by decide +kernel
theorem dL_ships_10 : decode cL_ships 10 = .ok (.iconst 0, 1) := by decide +kernel
theorem dL_ships_11 : decode cL_ships 11 = .ok (.istore_n 3, 1) := by decide +kernel
theorem dL_ships_12 : decode cL_ships 12 = .ok (.iconst 0, 1) := by decide +kernel
theorem dL_ships_13 : decode cL_ships 13 = .ok (.istore 4, 2) := by decide +kernel
theorem dL_ships_15 : decode cL_ships 15 = .ok (.iconst 0, 1) := by decide +kernel
theorem dL_ships_16 : decode cL_ships 16 = .ok (.istore 5, 2) := by decide +kernel
theorem dL_ships_18 : decode cL_ships 18 = .ok (.iconst 0, 1) := by decide +kernel
theorem dL_ships_19 : decode cL_ships 19 = .ok (.istore 6, 2) := by decide +kernel
theorem dL_ships_21 : decode cL_ships 21 = .ok (.iload 6, 2) := by decide +kernel
theorem dL_ships_23 : decode cL_ships 23 = .ok (.iload_n 1, 1) := by decide +kernel
theorem dL_ships_24 : decode cL_ships 24 = .ok (.if_icmp .ge 317, 3) := by decide +kernel
theorem dL_ships_27 : decode cL_ships 27 = .ok (.iconst 0, 1) := by decide +kernel
theorem dL_ships_28 : decode cL_ships 28 = .ok (.istore 7, 2) := by decide +kernel
theorem dL_ships_30 : decode cL_ships 30 = .ok (.iconst 0, 1) := by decide +kernel
theorem dL_ships_31 : decode cL_ships 31 = .ok (.istore 8, 2) := by decide +kernel
theorem dL_ships_33 : decode cL_ships 33 = .ok (.iconst 0, 1) := by decide +kernel
theorem dL_ships_34 : decode cL_ships 34 = .ok (.istore 9, 2) := by decide +kernel
theorem dL_ships_36 : decode cL_ships 36 = .ok (.iload 9, 2) := by decide +kernel
theorem dL_ships_38 : decode cL_ships 38 = .ok (.aload_n 0, 1) := by decide +kernel
theorem dL_ships_39 : decode cL_ships 39 = .ok (.invokevirtual 171, 3) := by decide +kernel
theorem dL_ships_42 : decode cL_ships 42 = .ok (.if_icmp .ge 62, 3) := by decide +kernel
theorem dL_ships_45 : decode cL_ships 45 = .ok (.aload_n 0, 1) := by decide +kernel
theorem dL_ships_46 : decode cL_ships 46 = .ok (.iload 9, 2) := by decide +kernel
theorem dL_ships_48 : decode cL_ships 48 = .ok (.invokestatic 201, 3) := by decide +kernel
theorem dL_ships_51 : decode cL_ships 51 = .ok (.iload 6, 2) := by decide +kernel
theorem dL_ships_53 : decode cL_ships 53 = .ok (.if_icmp .ne 7, 3) := by decide +kernel
theorem dL_ships_56 : decode cL_ships 56 = .ok (.iconst 1, 1) := by decide +kernel
theorem dL_ships_57 : decode cL_ships 57 = .ok (.goto 4, 3) := by decide +kernel
theorem dL_ships_60 : decode cL_ships 60 = .ok (.iconst 0, 1) := by decide +kernel
theorem dL_ships_61 : decode cL_ships 61 = .ok (.istore 10, 2) := by decide +kernel
theorem dL_ships_63 : decode cL_ships 63 = .ok (.iload 7, 2) := by decide +kernel
theorem dL_ships_65 : decode cL_ships 65 = .ok (.iload 10, 2) := by decide +kernel
theorem dL_ships_67 : decode cL_ships 67 = .ok (.ifCond .eq 12, 3) := by decide +kernel
theorem dL_ships_70 : decode cL_ships 70 = .ok (.aload_n 0, 1) := by decide +kernel
theorem dL_ships_71 : decode cL_ships 71 = .ok (.iload 9, 2) := by decide +kernel
theorem dL_ships_73 : decode cL_ships 73 = .ok (.invokevirtual 60, 3) := by decide +kernel
theorem dL_ships_76 : decode cL_ships 76 = .ok (.goto 4, 3) := by decide +kernel
theorem dL_ships_79 : decode cL_ships 79 = .ok (.iconst 0, 1) := by decide +kernel
theorem dL_ships_80 : decode cL_ships 80 = .ok (.iadd, 1) := by decide +kernel
theorem dL_ships_81 : decode cL_ships 81 = .ok (.istore 7, 2) := by decide +kernel
theorem dL_ships_83 : decode cL_ships 83 = .ok (.iload 8, 2) := by decide +kernel
theorem dL_ships_85 : decode cL_ships 85 = .ok (.iload 10, 2) := by decide +kernel
theorem dL_ships_87 : decode cL_ships 87 = .ok (.ifCond .eq 7, 3) := by decide +kernel
theorem dL_ships_90 : decode cL_ships 90 = .ok (.iconst 1, 1) := by decide +kernel
theorem dL_ships_91 : decode cL_ships 91 = .ok (.goto 4, 3) := by decide +kernel
theorem dL_ships_94 : decode cL_ships 94 = .ok (.iconst 0, 1) := by decide +kernel
theorem dL_ships_95 : decode cL_ships 95 = .ok (.iadd, 1) := by decide +kernel
theorem dL_ships_96 : decode cL_ships 96 = .ok (.istore 8, 2) := by decide +kernel
theorem dL_ships_98 : decode cL_ships 98 = .ok (.iinc 9 1, 3) := by decide +kernel
theorem dL_ships_101 : decode cL_ships 101 = .ok (.goto (-65), 3) := by decide +kernel
theorem dL_ships_104 : decode cL_ships 104 = .ok (.aload_n 0, 1) := by decide +kernel
theorem dL_ships_105 : decode cL_ships 105 = .ok (.iload 6, 2) := by decide +kernel
theorem dL_ships_107 : decode cL_ships 107 = .ok (.invokestatic 203, 3) := by decide +kernel
theorem dL_ships_110 : decode cL_ships 110 = .ok (.istore 9, 2) := by decide +kernel
theorem dL_ships_112 : decode cL_ships 112 = .ok (.iload_n 2, 1) := by decide +kernel
theorem dL_ships_113 : decode cL_ships 113 = .ok (.ifCond .ne 7, 3) := by decide +kernel
theorem dL_ships_116 : decode cL_ships 116 = .ok (.iconst 0, 1) := by decide +kernel
theorem dL_ships_117 : decode cL_ships 117 = .ok (.goto 12, 3) := by decide +kernel
theorem dL_ships_120 : decode cL_ships 120 = .ok (.aload_n 0, 1) := by decide +kernel
theorem dL_ships_121 : decode cL_ships 121 = .ok (.invokevirtual 168, 3) := by decide +kernel
theorem dL_ships_124 : decode cL_ships 124 = .ok (.iload 7, 2) := by decide +kernel
theorem dL_ships_126 : decode cL_ships 126 = .ok (.imul, 1) := by decide +kernel
theorem dL_ships_127 : decode cL_ships 127 = .ok (.iload_n 2, 1) := by decide +kernel
theorem dL_ships_128 : decode cL_ships 128 = .ok (.idiv, 1) := by decide +kernel
theorem dL_ships_129 : decode cL_ships 129 = .ok (.istore 10, 2) := by decide +kernel
theorem dL_ships_131 : decode cL_ships 131 = .ok (.iload 9, 2) := by decide +kernel
theorem dL_ships_133 : decode cL_ships 133 = .ok (.aload_n 0, 1) := by decide +kernel
theorem dL_ships_134 : decode cL_ships 134 = .ok (.iload 6, 2) := by decide +kernel
theorem dL_ships_136 : decode cL_ships 136 = .ok (.invokestatic 205, 3) := by decide +kernel
theorem dL_ships_139 : decode cL_ships 139 = .ok (.if_icmp .ne 43, 3) := by decide +kernel
theorem dL_ships_142 : decode cL_ships 142 = .ok (.iload 9, 2) := by decide +kernel
theorem dL_ships_144 : decode cL_ships 144 = .ok (.iload 10, 2) := by decide +kernel
theorem dL_ships_146 : decode cL_ships 146 = .ok (.if_icmp .lt 36, 3) := by decide +kernel
theorem dL_ships_149 : decode cL_ships 149 = .ok (.iload 9, 2) := by decide +kernel
theorem dL_ships_151 : decode cL_ships 151 = .ok (.iload 10, 2) := by decide +kernel
theorem dL_ships_153 : decode cL_ships 153 = .ok (.iload_n 2, 1) := by decide +kernel
theorem dL_ships_154 : decode cL_ships 154 = .ok (.ifCond .le 19, 3) := by decide +kernel
theorem dL_ships_157 : decode cL_ships 157 = .ok (.aload_n 0, 1) := by decide +kernel
theorem dL_ships_158 : decode cL_ships 158 = .ok (.invokevirtual 168, 3) := by decide +kernel
theorem dL_ships_161 : decode cL_ships 161 = .ok (.iload 7, 2) := by decide +kernel
theorem dL_ships_163 : decode cL_ships 163 = .ok (.imul, 1) := by decide +kernel
theorem dL_ships_164 : decode cL_ships 164 = .ok (.iload_n 2, 1) := by decide +kernel
theorem dL_ships_165 : decode cL_ships 165 = .ok (.irem, 1) := by decide +kernel
theorem dL_ships_166 : decode cL_ships 166 = .ok (.ifCond .le 7, 3) := by decide +kernel
theorem dL_ships_169 : decode cL_ships 169 = .ok (.iconst 1, 1) := by decide +kernel
theorem dL_ships_170 : decode cL_ships 170 = .ok (.goto 4, 3) := by decide +kernel
theorem dL_ships_173 : decode cL_ships 173 = .ok (.iconst 0, 1) := by decide +kernel
theorem dL_ships_174 : decode cL_ships 174 = .ok (.iadd, 1) := by decide +kernel
theorem dL_ships_175 : decode cL_ships 175 = .ok (.if_icmp .gt 7, 3) := by decide +kernel
theorem dL_ships_178 : decode cL_ships 178 = .ok (.iconst 1, 1) := by decide +kernel
theorem dL_ships_179 : decode cL_ships 179 = .ok (.goto 4, 3) := by decide +kernel
theorem dL_ships_182 : decode cL_ships 182 = .ok (.iconst 0, 1) := by decide +kernel
theorem dL_ships_183 : decode cL_ships 183 = .ok (.istore 11, 2) := by decide +kernel
theorem dL_ships_185 : decode cL_ships 185 = .ok (.iload 6, 2) := by decide +kernel
theorem dL_ships_187 : decode cL_ships 187 = .ok (.ifCond .ne 7, 3) := by decide +kernel
theorem dL_ships_190 : decode cL_ships 190 = .ok (.iconst (-1), 1) := by decide +kernel
theorem dL_ships_191 : decode cL_ships 191 = .ok (.goto 11, 3) := by decide +kernel
theorem dL_ships_194 : decode cL_ships 194 = .ok (.aload_n 0, 1) := by decide +kernel
theorem dL_ships_195 : decode cL_ships 195 = .ok (.iload 6, 2) := by decide +kernel
theorem dL_ships_197 : decode cL_ships 197 = .ok (.iconst 1, 1) := by decide +kernel
theorem dL_ships_198 : decode cL_ships 198 = .ok (.isub, 1) := by decide +kernel
theorem dL_ships_199 : decode cL_ships 199 = .ok (.invokestatic 208, 3) := by decide +kernel
theorem dL_ships_202 : decode cL_ships 202 = .ok (.istore 12, 2) := by decide +kernel
theorem dL_ships_204 : decode cL_ships 204 = .ok (.aload_n 0, 1) := by decide +kernel
theorem dL_ships_205 : decode cL_ships 205 = .ok (.iload 6, 2) := by decide +kernel
theorem dL_ships_207 : decode cL_ships 207 = .ok (.invokestatic 208, 3) := by decide +kernel
theorem dL_ships_210 : decode cL_ships 210 = .ok (.istore 13, 2) := by decide +kernel
theorem dL_ships_212 : decode cL_ships 212 = .ok (.iload 12, 2) := by decide +kernel
theorem dL_ships_214 : decode cL_ships 214 = .ok (.ifCond .ge 7, 3) := by decide +kernel
theorem dL_ships_217 : decode cL_ships 217 = .ok (.iconst 1, 1) := by decide +kernel
theorem dL_ships_218 : decode cL_ships 218 = .ok (.goto 16, 3) := by decide +kernel
theorem dL_ships_221 : decode cL_ships 221 = .ok (.aload_n 0, 1) := by decide +kernel
theorem dL_ships_222 : decode cL_ships 222 = .ok (.iload 12, 2) := by decide +kernel
theorem dL_ships_224 : decode cL_ships 224 = .ok (.invokestatic 211, 3) := by decide +kernel
theorem dL_ships_227 : decode cL_ships 227 = .ok (.aload_n 0, 1) := by decide +kernel
theorem dL_ships_228 : decode cL_ships 228 = .ok (.iload 13, 2) := by decide +kernel
theorem dL_ships_230 : decode cL_ships 230 = .ok (.invokestatic 211, 3) := by decide +kernel
theorem dL_ships_233 : decode cL_ships 233 = .ok (.isub, 1) := by decide +kernel
theorem dL_ships_234 : decode cL_ships 234 = .ok (.istore 14, 2) := by decide +kernel
theorem dL_ships_236 : decode cL_ships 236 = .ok (.iload 14, 2) := by decide +kernel
theorem dL_ships_238 : decode cL_ships 238 = .ok (.ifCond .eq 8, 3) := by decide +kernel
theorem dL_ships_241 : decode cL_ships 241 = .ok (.iload 14, 2) := by decide +kernel
theorem dL_ships_243 : decode cL_ships 243 = .ok (.goto 16, 3) := by decide +kernel
theorem dL_ships_246 : decode cL_ships 246 = .ok (.aload_n 0, 1) := by decide +kernel
theorem dL_ships_247 : decode cL_ships 247 = .ok (.iload 13, 2) := by decide +kernel
theorem dL_ships_249 : decode cL_ships 249 = .ok (.invokestatic 214, 3) := by decide +kernel
theorem dL_ships_252 : decode cL_ships 252 = .ok (.aload_n 0, 1) := by decide +kernel
theorem dL_ships_253 : decode cL_ships 253 = .ok (.iload 12, 2) := by decide +kernel
theorem dL_ships_255 : decode cL_ships 255 = .ok (.invokestatic 214, 3) := by decide +kernel
theorem dL_ships_258 : decode cL_ships 258 = .ok (.isub, 1) := by decide +kernel
theorem dL_ships_259 : decode cL_ships 259 = .ok (.istore 14, 2) := by decide +kernel
theorem dL_ships_261 : decode cL_ships 261 = .ok (.iload 11, 2) := by decide +kernel
theorem dL_ships_263 : decode cL_ships 263 = .ok (.ifCond .eq 47, 3) := by decide +kernel
theorem dL_ships_266 : decode cL_ships 266 = .ok (.aload_n 0, 1) := by decide +kernel
theorem dL_ships_267 : decode cL_ships 267 = .ok (.iload 6, 2) := by decide +kernel
theorem dL_ships_269 : decode cL_ships 269 = .ok (.invokestatic 216, 3) := by decide +kernel
theorem dL_ships_272 : decode cL_ships 272 = .ok (.iload 7, 2) := by decide +kernel
theorem dL_ships_274 : decode cL_ships 274 = .ok (.if_icmp .ne 36, 3) := by decide +kernel
theorem dL_ships_277 : decode cL_ships 277 = .ok (.aload_n 0, 1) := by decide +kernel
theorem dL_ships_278 : decode cL_ships 278 = .ok (.iload 6, 2) := by decide +kernel
theorem dL_ships_280 : decode cL_ships 280 = .ok (.invokestatic 218, 3) := by decide +kernel
theorem dL_ships_283 : decode cL_ships 283 = .ok (.iload 8, 2) := by decide +kernel
theorem dL_ships_285 : decode cL_ships 285 = .ok (.if_icmp .ne 25, 3) := by decide +kernel
theorem dL_ships_288 : decode cL_ships 288 = .ok (.iload 13, 2) := by decide +kernel
theorem dL_ships_290 : decode cL_ships 290 = .ok (.ifCond .lt 20, 3) := by decide +kernel
theorem dL_ships_293 : decode cL_ships 293 = .ok (.iload 14, 2) := by decide +kernel
theorem dL_ships_295 : decode cL_ships 295 = .ok (.ifCond .lt 15, 3) := by decide +kernel
theorem dL_ships_298 : decode cL_ships 298 = .ok (.iload 14, 2) := by decide +kernel
theorem dL_ships_300 : decode cL_ships 300 = .ok (.ifCond .ne 12, 3) := by decide +kernel
theorem dL_ships_303 : decode cL_ships 303 = .ok (.iload 12, 2) := by decide +kernel
theorem dL_ships_305 : decode cL_ships 305 = .ok (.iload 13, 2) := by decide +kernel
theorem dL_ships_307 : decode cL_ships 307 = .ok (.if_icmp .le 5, 3) := by decide +kernel
theorem dL_ships_310 : decode cL_ships 310 = .ok (.iconst 0, 1) := by decide +kernel
theorem dL_ships_311 : decode cL_ships 311 = .ok (.ireturn, 1) := by decide +kernel
theorem dL_ships_312 : decode cL_ships 312 = .ok (.iload_n 3, 1) := by decide +kernel
theorem dL_ships_313 : decode cL_ships 313 = .ok (.aload_n 0, 1) := by decide +kernel
theorem dL_ships_314 : decode cL_ships 314 = .ok (.iload 6, 2) := by decide +kernel
theorem dL_ships_316 : decode cL_ships 316 = .ok (.invokestatic 214, 3) := by decide +kernel
theorem dL_ships_319 : decode cL_ships 319 = .ok (.iadd, 1) := by decide +kernel
theorem dL_ships_320 : decode cL_ships 320 = .ok (.istore_n 3, 1) := by decide +kernel
theorem dL_ships_321 : decode cL_ships 321 = .ok (.iload 4, 2) := by decide +kernel
theorem dL_ships_323 : decode cL_ships 323 = .ok (.iload 9, 2) := by decide +kernel
theorem dL_ships_325 : decode cL_ships 325 = .ok (.iadd, 1) := by decide +kernel
theorem dL_ships_326 : decode cL_ships 326 = .ok (.istore 4, 2) := by decide +kernel
theorem dL_ships_328 : decode cL_ships 328 = .ok (.iload 5, 2) := by decide +kernel
theorem dL_ships_330 : decode cL_ships 330 = .ok (.iload 7, 2) := by decide +kernel
theorem dL_ships_332 : decode cL_ships 332 = .ok (.iadd, 1) := by decide +kernel
theorem dL_ships_333 : decode cL_ships 333 = .ok (.istore 5, 2) := by decide +kernel
theorem dL_ships_335 : decode cL_ships 335 = .ok (.iinc 6 1, 3) := by decide +kernel
theorem dL_ships_338 : decode cL_ships 338 = .ok (.goto (-317), 3) := by decide +kernel
theorem dL_ships_341 : decode cL_ships 341 = .ok (.iload_n 3, 1) := by decide +kernel
theorem dL_ships_342 : decode cL_ships 342 = .ok (.aload_n 0, 1) := by decide +kernel
theorem dL_ships_343 : decode cL_ships 343 = .ok (.invokevirtual 221, 3) := by decide +kernel
theorem dL_ships_346 : decode cL_ships 346 = .ok (.iadd, 1) := by decide +kernel
theorem dL_ships_347 : decode cL_ships 347 = .ok (.bipush 100, 2) := by decide +kernel
theorem dL_ships_349 : decode cL_ships 349 = .ok (.iload_n 1, 1) := by decide +kernel
theorem dL_ships_350 : decode cL_ships 350 = .ok (.imul, 1) := by decide +kernel
theorem dL_ships_351 : decode cL_ships 351 = .ok (.if_icmp .ne 30, 3) := by decide +kernel
theorem dL_ships_354 : decode cL_ships 354 = .ok (.iload 4, 2) := by decide +kernel
theorem dL_ships_356 : decode cL_ships 356 = .ok (.iload_n 2, 1) := by decide +kernel
theorem dL_ships_357 : decode cL_ships 357 = .ok (.ifCond .ne 7, 3) := by decide +kernel
theorem dL_ships_360 : decode cL_ships 360 = .ok (.iconst 0, 1) := by decide +kernel
theorem dL_ships_361 : decode cL_ships 361 = .ok (.goto 7, 3) := by decide +kernel
theorem dL_ships_364 : decode cL_ships 364 = .ok (.aload_n 0, 1) := by decide +kernel
theorem dL_ships_365 : decode cL_ships 365 = .ok (.invokevirtual 168, 3) := by decide +kernel
theorem dL_ships_368 : decode cL_ships 368 = .ok (.if_icmp .ne 13, 3) := by decide +kernel
theorem dL_ships_371 : decode cL_ships 371 = .ok (.iload 5, 2) := by decide +kernel
theorem dL_ships_373 : decode cL_ships 373 = .ok (.iload_n 2, 1) := by decide +kernel
theorem dL_ships_374 : decode cL_ships 374 = .ok (.if_icmp .ne 7, 3) := by decide +kernel
theorem dL_ships_377 : decode cL_ships 377 = .ok (.iconst 1, 1) := by decide +kernel
theorem dL_ships_378 : decode cL_ships 378 = .ok (.goto 4, 3) := by decide +kernel
theorem dL_ships_381 : decode cL_ships 381 = .ok (.iconst 0, 1) := by decide +kernel
theorem dL_ships_382 : decode cL_ships 382 = .ok (.istore 6, 2) := by decide +kernel
theorem dL_ships_384 : decode cL_ships 384 = .ok (.iload 6, 2) := by decide +kernel
theorem dL_ships_386 : decode cL_ships 386 = .ok (.ifCond .eq 110, 3) := by decide +kernel
theorem dL_ships_389 : decode cL_ships 389 = .ok (.aload_n 0, 1) := by decide +kernel
theorem dL_ships_390 : decode cL_ships 390 = .ok (.invokevirtual 224, 3) := by decide +kernel
theorem dL_ships_393 : decode cL_ships 393 = .ok (.iload_n 3, 1) := by decide +kernel
theorem dL_ships_394 : decode cL_ships 394 = .ok (.i2d, 1) := by decide +kernel
theorem dL_ships_395 : decode cL_ships 395 = .ok (.iload_n 1, 1) := by decide +kernel
theorem dL_ships_396 : decode cL_ships 396 = .ok (.i2d, 1) := by decide +kernel
theorem dL_ships_397 : decode cL_ships 397 = .ok (.ddiv, 1) := by decide +kernel
theorem dL_ships_398 : decode cL_ships 398 = .ok (.dcmp .l, 1) := by decide +kernel
theorem dL_ships_399 : decode cL_ships 399 = .ok (.ifCond .ne 97, 3) := by decide +kernel
theorem dL_ships_402 : decode cL_ships 402 = .ok (.aload_n 0, 1) := by decide +kernel
theorem dL_ships_403 : decode cL_ships 403 = .ok (.iload_n 1, 1) := by decide +kernel
theorem dL_ships_404 : decode cL_ships 404 = .ok (.invokestatic 208, 3) := by decide +kernel
theorem dL_ships_407 : decode cL_ships 407 = .ok (.bipush (-13), 2) := by decide +kernel
theorem dL_ships_409 : decode cL_ships 409 = .ok (.if_icmp .ne 87, 3) := by decide +kernel
theorem dL_ships_412 : decode cL_ships 412 = .ok (.aload_n 0, 1) := by decide +kernel
theorem dL_ships_413 : decode cL_ships 413 = .ok (.iconst (-1), 1) := by decide +kernel
theorem dL_ships_414 : decode cL_ships 414 = .ok (.invokestatic 208, 3) := by decide +kernel
theorem dL_ships_417 : decode cL_ships 417 = .ok (.bipush (-13), 2) := by decide +kernel
theorem dL_ships_419 : decode cL_ships 419 = .ok (.if_icmp .ne 77, 3) := by decide +kernel
theorem dL_ships_422 : decode cL_ships 422 = .ok (.aload_n 0, 1) := by decide +kernel
theorem dL_ships_423 : decode cL_ships 423 = .ok (.iload_n 1, 1) := by decide +kernel
theorem dL_ships_424 : decode cL_ships 424 = .ok (.invokestatic 214, 3) := by decide +kernel
theorem dL_ships_427 : decode cL_ships 427 = .ok (.bipush (-11), 2) := by decide +kernel
theorem dL_ships_429 : decode cL_ships 429 = .ok (.if_icmp .ne 67, 3) := by decide +kernel
theorem dL_ships_432 : decode cL_ships 432 = .ok (.aload_n 0, 1) := by decide +kernel
theorem dL_ships_433 : decode cL_ships 433 = .ok (.iload_n 1, 1) := by decide +kernel
theorem dL_ships_434 : decode cL_ships 434 = .ok (.invokestatic 211, 3) := by decide +kernel
theorem dL_ships_437 : decode cL_ships 437 = .ok (.bipush (-11), 2) := by decide +kernel
theorem dL_ships_439 : decode cL_ships 439 = .ok (.if_icmp .ne 57, 3) := by decide +kernel
theorem dL_ships_442 : decode cL_ships 442 = .ok (.aload_n 0, 1) := by decide +kernel
theorem dL_ships_443 : decode cL_ships 443 = .ok (.iconst (-1), 1) := by decide +kernel
theorem dL_ships_444 : decode cL_ships 444 = .ok (.invokestatic 228, 3) := by decide +kernel
theorem dL_ships_447 : decode cL_ships 447 = .ok (.bipush (-11), 2) := by decide +kernel
theorem dL_ships_449 : decode cL_ships 449 = .ok (.if_icmp .ne 47, 3) := by decide +kernel
theorem dL_ships_452 : decode cL_ships 452 = .ok (.aload_n 0, 1) := by decide +kernel
theorem dL_ships_453 : decode cL_ships 453 = .ok (.iload_n 1, 1) := by decide +kernel
theorem dL_ships_454 : decode cL_ships 454 = .ok (.invokestatic 216, 3) := by decide +kernel
theorem dL_ships_457 : decode cL_ships 457 = .ok (.bipush (-11), 2) := by decide +kernel
theorem dL_ships_459 : decode cL_ships 459 = .ok (.if_icmp .ne 37, 3) := by decide +kernel
theorem dL_ships_462 : decode cL_ships 462 = .ok (.aload_n 0, 1) := by decide +kernel
theorem dL_ships_463 : decode cL_ships 463 = .ok (.iload_n 1, 1) := by decide +kernel
theorem dL_ships_464 : decode cL_ships 464 = .ok (.invokestatic 218, 3) := by decide +kernel
theorem dL_ships_467 : decode cL_ships 467 = .ok (.bipush (-11), 2) := by decide +kernel
theorem dL_ships_469 : decode cL_ships 469 = .ok (.if_icmp .ne 27, 3) := by decide +kernel
theorem dL_ships_472 : decode cL_ships 472 = .ok (.aload_n 0, 1) := by decide +kernel
theorem dL_ships_473 : decode cL_ships 473 = .ok (.iload_n 1, 1) := by decide +kernel
theorem dL_ships_474 : decode cL_ships 474 = .ok (.invokestatic 203, 3) := by decide +kernel
theorem dL_ships_477 : decode cL_ships 477 = .ok (.bipush (-11), 2) := by decide +kernel
theorem dL_ships_479 : decode cL_ships 479 = .ok (.if_icmp .ne 17, 3) := by decide +kernel
theorem dL_ships_482 : decode cL_ships 482 = .ok (.aload_n 0, 1) := by decide +kernel
theorem dL_ships_483 : decode cL_ships 483 = .ok (.iconst (-1), 1) := by decide +kernel
theorem dL_ships_484 : decode cL_ships 484 = .ok (.invokestatic 205, 3) := by decide +kernel
theorem dL_ships_487 : decode cL_ships 487 = .ok (.bipush (-11), 2) := by decide +kernel
theorem dL_ships_489 : decode cL_ships 489 = .ok (.if_icmp .ne 7, 3) := by decide +kernel
theorem dL_ships_492 : decode cL_ships 492 = .ok (.iconst 1, 1) := by decide +kernel
theorem dL_ships_493 : decode cL_ships 493 = .ok (.goto 4, 3) := by decide +kernel
theorem dL_ships_496 : decode cL_ships 496 = .ok (.iconst 0, 1) := by decide +kernel
theorem dL_ships_497 : decode cL_ships 497 = .ok (.ireturn, 1) := by decide +kernel
theorem dL_oils_0 : decode cL_oils 0 = .ok (.aload_n 0, 1) := by decide +kernel
theorem dL_oils_1 : decode cL_oils 1 = .ok (.invokevirtual 168, 3) := by decide +kernel
theorem dL_oils_4 : decode cL_oils 4 = .ok (.istore_n 1, 1) := by decide +kernel
theorem dL_oils_5 : decode cL_oils 5 = .ok (.iconst 0, 1) := by decide +kernel
theorem dL_oils_6 : decode cL_oils 6 = .ok (.istore_n 2, 1) := by decide +kernel
theorem dL_oils_7 : decode cL_oils 7 = .ok (.bipush (-13), 2) := by decide +kernel
theorem dL_oils_9 : decode cL_oils 9 = .ok (.istore_n 3, 1) := by decide +kernel
theorem dL_oils_10 : decode cL_oils 10 = .ok (.iconst 1, 1) := by decide +kernel
theorem dL_oils_11 : decode cL_oils 11 = .ok (.istore 4, 2) := by decide +kernel
theorem dL_oils_13 : decode cL_oils 13 = .ok (.iload 4, 2) := by decide +kernel
theorem dL_oils_15 : decode cL_oils 15 = .ok (.ifCond .eq 95, 3) := by decide +kernel
theorem dL_oils_18 : decode cL_oils 18 = .ok (.iconst 0, 1) := by decide +kernel
theorem dL_oils_19 : decode cL_oils 19 = .ok (.istore 5, 2) := by decide +kernel
theorem dL_oils_21 : decode cL_oils 21 = .ok (.iconst 0, 1) := by decide +kernel
theorem dL_oils_22 : decode cL_oils 22 = .ok (.istore 6, 2) := by decide +kernel
theorem dL_oils_24 : decode cL_oils 24 = .ok (.iload 6, 2) := by decide +kernel
theorem dL_oils_26 : decode cL_oils 26 = .ok (.aload_n 0, 1) := by decide +kernel
theorem dL_oils_27 : decode cL_oils 27 = .ok (.invokevirtual 171, 3) := by decide +kernel
theorem dL_oils_30 : decode cL_oils 30 = .ok (.if_icmp .ge 39, 3) := by decide +kernel
theorem dL_oils_33 : decode cL_oils 33 = .ok (.iload 5, 2) := by decide +kernel
theorem dL_oils_35 : decode cL_oils 35 = .ok (.aload_n 0, 1) := by decide +kernel
theorem dL_oils_36 : decode cL_oils 36 = .ok (.iload 6, 2) := by decide +kernel
theorem dL_oils_38 : decode cL_oils 38 = .ok (.invokestatic 231, 3) := by decide +kernel
theorem dL_oils_41 : decode cL_oils 41 = .ok (.aload_n 0, 1) := by decide +kernel
theorem dL_oils_42 : decode cL_oils 42 = .ok (.invokevirtual 234, 3) := by decide +kernel
theorem dL_oils_45 : decode cL_oils 45 = .ok (.iload_n 2, 1) := by decide +kernel
theorem dL_oils_46 : decode cL_oils 46 = .ok (.iadd, 1) := by decide +kernel
theorem dL_oils_47 : decode cL_oils 47 = .ok (.if_icmp .le 12, 3) := by decide +kernel
theorem dL_oils_50 : decode cL_oils 50 = .ok (.aload_n 0, 1) := by decide +kernel
theorem dL_oils_51 : decode cL_oils 51 = .ok (.iload 6, 2) := by decide +kernel
theorem dL_oils_53 : decode cL_oils 53 = .ok (.invokevirtual 60, 3) := by decide +kernel
theorem dL_oils_56 : decode cL_oils 56 = .ok (.goto 4, 3) := by decide +kernel
theorem dL_oils_59 : decode cL_oils 59 = .ok (.iconst 0, 1) := by decide +kernel
theorem dL_oils_60 : decode cL_oils 60 = .ok (.iadd, 1) := by decide +kernel
theorem dL_oils_61 : decode cL_oils 61 = .ok (.istore 5, 2) := by decide +kernel
theorem dL_oils_63 : decode cL_oils 63 = .ok (.iinc 6 1, 3) := by decide +kernel
theorem dL_oils_66 : decode cL_oils 66 = .ok (.goto (-42), 3) := by decide +kernel
theorem dL_oils_69 : decode cL_oils 69 = .ok (.iload 5, 2) := by decide +kernel
theorem dL_oils_71 : decode cL_oils 71 = .ok (.ifCond .le 13, 3) := by decide +kernel
theorem dL_oils_74 : decode cL_oils 74 = .ok (.iload 5, 2) := by decide +kernel
theorem dL_oils_76 : decode cL_oils 76 = .ok (.iload_n 1, 1) := by decide +kernel
theorem dL_oils_77 : decode cL_oils 77 = .ok (.if_icmp .gt 7, 3) := by decide +kernel
theorem dL_oils_80 : decode cL_oils 80 = .ok (.iconst 1, 1) := by decide +kernel
theorem dL_oils_81 : decode cL_oils 81 = .ok (.goto 4, 3) := by decide +kernel
theorem dL_oils_84 : decode cL_oils 84 = .ok (.iconst 0, 1) := by decide +kernel
theorem dL_oils_85 : decode cL_oils 85 = .ok (.istore 4, 2) := by decide +kernel
theorem dL_oils_87 : decode cL_oils 87 = .ok (.iload 5, 2) := by decide +kernel
theorem dL_oils_89 : decode cL_oils 89 = .ok (.iload_n 1, 1) := by decide +kernel
theorem dL_oils_90 : decode cL_oils 90 = .ok (.if_icmp .le 7, 3) := by decide +kernel
theorem dL_oils_93 : decode cL_oils 93 = .ok (.iload_n 2, 1) := by decide +kernel
theorem dL_oils_94 : decode cL_oils 94 = .ok (.goto 4, 3) := by decide +kernel
theorem dL_oils_97 : decode cL_oils 97 = .ok (.iload_n 3, 1) := by decide +kernel
theorem dL_oils_98 : decode cL_oils 98 = .ok (.istore_n 3, 1) := by decide +kernel
theorem dL_oils_99 : decode cL_oils 99 = .ok (.iload_n 1, 1) := by decide +kernel
theorem dL_oils_100 : decode cL_oils 100 = .ok (.iload 5, 2) := by decide +kernel
theorem dL_oils_102 : decode cL_oils 102 = .ok (.isub, 1) := by decide +kernel
theorem dL_oils_103 : decode cL_oils 103 = .ok (.istore_n 1, 1) := by decide +kernel
theorem dL_oils_104 : decode cL_oils 104 = .ok (.iinc 2 1, 3) := by decide +kernel
theorem dL_oils_107 : decode cL_oils 107 = .ok (.goto (-94), 3) := by decide +kernel
theorem dL_oils_110 : decode cL_oils 110 = .ok (.iconst 0, 1) := by decide +kernel
theorem dL_oils_111 : decode cL_oils 111 = .ok (.istore 5, 2) := by decide +kernel
theorem dL_oils_113 : decode cL_oils 113 = .ok (.aload_n 0, 1) := by decide +kernel
theorem dL_oils_114 : decode cL_oils 114 = .ok (.invokevirtual 168, 3) := by decide +kernel
theorem dL_oils_117 : decode cL_oils 117 = .ok (.istore 6, 2) := by decide +kernel
theorem dL_oils_119 : decode cL_oils 119 = .ok (.iconst 1, 1) := by decide +kernel
theorem dL_oils_120 : decode cL_oils 120 = .ok (.istore 7, 2) := by decide +kernel
theorem dL_oils_122 : decode cL_oils 122 = .ok (.iload 7, 2) := by decide +kernel
theorem dL_oils_124 : decode cL_oils 124 = .ok (.iconst 4, 1) := by decide +kernel
theorem dL_oils_125 : decode cL_oils 125 = .ok (.if_icmp .ge 93, 3) := by decide +kernel
theorem dL_oils_128 : decode cL_oils 128 = .ok (.iconst 0, 1) := by decide +kernel
theorem dL_oils_129 : decode cL_oils 129 = .ok (.istore 8, 2) := by decide +kernel
theorem dL_oils_131 : decode cL_oils 131 = .ok (.iload 8, 2) := by decide +kernel
theorem dL_oils_133 : decode cL_oils 133 = .ok (.aload_n 0, 1) := by decide +kernel
theorem dL_oils_134 : decode cL_oils 134 = .ok (.invokevirtual 171, 3) := by decide +kernel
theorem dL_oils_137 : decode cL_oils 137 = .ok (.if_icmp .ge 75, 3) := by decide +kernel
theorem dL_oils_140 : decode cL_oils 140 = .ok (.aload_n 0, 1) := by decide +kernel
theorem dL_oils_141 : decode cL_oils 141 = .ok (.iload 8, 2) := by decide +kernel
theorem dL_oils_143 : decode cL_oils 143 = .ok (.invokestatic 237, 3) := by decide +kernel
theorem dL_oils_146 : decode cL_oils 146 = .ok (.iconst 1, 1) := by decide +kernel
theorem dL_oils_147 : decode cL_oils 147 = .ok (.if_icmp .ne 25, 3) := by decide +kernel
theorem dL_oils_150 : decode cL_oils 150 = .ok (.aload_n 0, 1) := by decide +kernel
theorem dL_oils_151 : decode cL_oils 151 = .ok (.iload 8, 2) := by decide +kernel
theorem dL_oils_153 : decode cL_oils 153 = .ok (.invokestatic 239, 3) := by decide +kernel
theorem dL_oils_156 : decode cL_oils 156 = .ok (.iload 7, 2) := by decide +kernel
theorem dL_oils_158 : decode cL_oils 158 = .ok (.if_icmp .ne 14, 3) := by decide +kernel
theorem dL_oils_161 : decode cL_oils 161 = .ok (.iload 6, 2) := by decide +kernel
theorem dL_oils_163 : decode cL_oils 163 = .ok (.iload 7, 2) := by decide +kernel
theorem dL_oils_165 : decode cL_oils 165 = .ok (.if_icmp .lt 7, 3) := by decide +kernel
theorem dL_oils_168 : decode cL_oils 168 = .ok (.iconst 1, 1) := by decide +kernel
theorem dL_oils_169 : decode cL_oils 169 = .ok (.goto 4, 3) := by decide +kernel
theorem dL_oils_172 : decode cL_oils 172 = .ok (.iconst 0, 1) := by decide +kernel
theorem dL_oils_173 : decode cL_oils 173 = .ok (.istore 9, 2) := by decide +kernel
theorem dL_oils_175 : decode cL_oils 175 = .ok (.iload 6, 2) := by decide +kernel
theorem dL_oils_177 : decode cL_oils 177 = .ok (.iload 9, 2) := by decide +kernel
theorem dL_oils_179 : decode cL_oils 179 = .ok (.ifCond .eq 8, 3) := by decide +kernel
theorem dL_oils_182 : decode cL_oils 182 = .ok (.iload 7, 2) := by decide +kernel
theorem dL_oils_184 : decode cL_oils 184 = .ok (.goto 4, 3) := by decide +kernel
theorem dL_oils_187 : decode cL_oils 187 = .ok (.iconst 0, 1) := by decide +kernel
theorem dL_oils_188 : decode cL_oils 188 = .ok (.isub, 1) := by decide +kernel
theorem dL_oils_189 : decode cL_oils 189 = .ok (.istore 6, 2) := by decide +kernel
theorem dL_oils_191 : decode cL_oils 191 = .ok (.iload 5, 2) := by decide +kernel
theorem dL_oils_193 : decode cL_oils 193 = .ok (.iload 9, 2) := by decide +kernel
theorem dL_oils_195 : decode cL_oils 195 = .ok (.ifCond .eq 7, 3) := by decide +kernel
theorem dL_oils_198 : decode cL_oils 198 = .ok (.iconst 1, 1) := by decide +kernel
theorem dL_oils_199 : decode cL_oils 199 = .ok (.goto 4, 3) := by decide +kernel
theorem dL_oils_202 : decode cL_oils 202 = .ok (.iconst 0, 1) := by decide +kernel
theorem dL_oils_203 : decode cL_oils 203 = .ok (.iadd, 1) := by decide +kernel
theorem dL_oils_204 : decode cL_oils 204 = .ok (.istore 5, 2) := by decide +kernel
theorem dL_oils_206 : decode cL_oils 206 = .ok (.iinc 8 1, 3) := by decide +kernel
theorem dL_oils_209 : decode cL_oils 209 = .ok (.goto (-78), 3) := by decide +kernel
theorem dL_oils_212 : decode cL_oils 212 = .ok (.iinc 7 1, 3) := by decide +kernel
theorem dL_oils_215 : decode cL_oils 215 = .ok (.goto (-93), 3) := by decide +kernel
theorem dL_oils_218 : decode cL_oils 218 = .ok (.aload_n 0, 1) := by decide +kernel
theorem dL_oils_219 : decode cL_oils 219 = .ok (.invokestatic 241, 3) := by decide +kernel
theorem dL_oils_222 : decode cL_oils 222 = .ok (.ifCond .eq 68, 3) := by decide +kernel
theorem dL_oils_225 : decode cL_oils 225 = .ok (.aload_n 0, 1) := by decide +kernel
theorem dL_oils_226 : decode cL_oils 226 = .ok (.invokestatic 244, 3) := by decide +kernel
theorem dL_oils_229 : decode cL_oils 229 = .ok (.iload_n 3, 1) := by decide +kernel
theorem dL_oils_230 : decode cL_oils 230 = .ok (.if_icmp .ne 60, 3) := by decide +kernel
theorem dL_oils_233 : decode cL_oils 233 = .ok (.aload_n 0, 1) := by decide +kernel
theorem dL_oils_234 : decode cL_oils 234 = .ok (.invokestatic 246, 3) := by decide +kernel
theorem dL_oils_237 : decode cL_oils 237 = .ok (.iload_n 3, 1) := by decide +kernel
theorem dL_oils_238 : decode cL_oils 238 = .ok (.if_icmp .ne 52, 3) := by decide +kernel
theorem dL_oils_241 : decode cL_oils 241 = .ok (.aload_n 0, 1) := by decide +kernel
theorem dL_oils_242 : decode cL_oils 242 = .ok (.invokevirtual 249, 3) := by decide +kernel
theorem dL_oils_245 : decode cL_oils 245 = .ok (.iload 5, 2) := by decide +kernel
theorem dL_oils_247 : decode cL_oils 247 = .ok (.if_icmp .ne 43, 3) := by decide +kernel
theorem dL_oils_250 : decode cL_oils 250 = .ok (.aload_n 0, 1) := by decide +kernel
theorem dL_oils_251 : decode cL_oils 251 = .ok (.invokevirtual 252, 3) := by decide +kernel
theorem dL_oils_254 : decode cL_oils 254 = .ok (.iload 5, 2) := by decide +kernel
theorem dL_oils_256 : decode cL_oils 256 = .ok (.if_icmp .ne 34, 3) := by decide +kernel
theorem dL_oils_259 : decode cL_oils 259 = .ok (.aload_n 0, 1) := by decide +kernel
theorem dL_oils_260 : decode cL_oils 260 = .ok (.invokevirtual 255, 3) := by decide +kernel
theorem dL_oils_263 : decode cL_oils 263 = .ok (.aload_n 0, 1) := by decide +kernel
theorem dL_oils_264 : decode cL_oils 264 = .ok (.invokestatic 258, 3) := by decide +kernel
theorem dL_oils_267 : decode cL_oils 267 = .ok (.if_icmp .ne 23, 3) := by decide +kernel
theorem dL_oils_270 : decode cL_oils 270 = .ok (.aload_n 0, 1) := by decide +kernel
theorem dL_oils_271 : decode cL_oils 271 = .ok (.invokevirtual 255, 3) := by decide +kernel
theorem dL_oils_274 : decode cL_oils 274 = .ok (.iload 5, 2) := by decide +kernel
theorem dL_oils_276 : decode cL_oils 276 = .ok (.if_icmp .gt 14, 3) := by decide +kernel
theorem dL_oils_279 : decode cL_oils 279 = .ok (.aload_n 0, 1) := by decide +kernel
theorem dL_oils_280 : decode cL_oils 280 = .ok (.invokevirtual 261, 3) := by decide +kernel
theorem dL_oils_283 : decode cL_oils 283 = .ok (.ifCond .eq 7, 3) := by decide +kernel
theorem dL_oils_286 : decode cL_oils 286 = .ok (.iconst 1, 1) := by decide +kernel
theorem dL_oils_287 : decode cL_oils 287 = .ok (.goto 4, 3) := by decide +kernel
theorem dL_oils_290 : decode cL_oils 290 = .ok (.iconst 0, 1) := by decide +kernel
theorem dL_oils_291 : decode cL_oils 291 = .ok (.ireturn, 1) := by decide +kernel
theorem dL_lamps_0 : decode cL_lamps 0 = .ok (.aload_n 0, 1) := by decide +kernel
theorem dL_lamps_1 : decode cL_lamps 1 = .ok (.invokevirtual 171, 3) := by decide +kernel
theorem dL_lamps_4 : decode cL_lamps 4 = .ok (.istore_n 1, 1) := by decide +kernel
theorem dL_lamps_5 : decode cL_lamps 5 = .ok (.iconst 0, 1) := by decide +kernel
theorem dL_lamps_6 : decode cL_lamps 6 = .ok (.istore_n 2, 1) := by decide +kernel
theorem dL_lamps_7 : decode cL_lamps 7 = .ok (.iconst 0, 1) := by decide +kernel
theorem dL_lamps_8 : decode cL_lamps 8 = .ok (.istore_n 3, 1) := by decide +kernel
theorem dL_lamps_9 : decode cL_lamps 9 = .ok (.iload_n 3, 1) := by decide +kernel
theorem dL_lamps_10 : decode cL_lamps 10 = .ok (.iload_n 1, 1) := by decide +kernel
theorem dL_lamps_11 : decode cL_lamps 11 = .ok (.if_icmp .ge 120, 3) := by decide +kernel
theorem dL_lamps_14 : decode cL_lamps 14 = .ok (.aload_n 0, 1) := by decide +kernel
theorem dL_lamps_15 : decode cL_lamps 15 = .ok (.iload_n 3, 1) := by decide +kernel
theorem dL_lamps_16 : decode cL_lamps 16 = .ok (.invokestatic 237, 3) := by decide +kernel
theorem dL_lamps_19 : decode cL_lamps 19 = .ok (.iconst 1, 1) := by decide +kernel
theorem dL_lamps_20 : decode cL_lamps 20 = .ok (.if_icmp .ne 7, 3) := by decide +kernel
theorem dL_lamps_23 : decode cL_lamps 23 = .ok (.iconst 1, 1) := by decide +kernel
theorem dL_lamps_24 : decode cL_lamps 24 = .ok (.goto 4, 3) := by decide +kernel
theorem dL_lamps_27 : decode cL_lamps 27 = .ok (.iconst 0, 1) := by decide +kernel
theorem dL_lamps_28 : decode cL_lamps 28 = .ok (.istore 4, 2) := by decide +kernel
theorem dL_lamps_30 : decode cL_lamps 30 = .ok (.iload_n 2, 1) := by decide +kernel
theorem dL_lamps_31 : decode cL_lamps 31 = .ok (.iload 4, 2) := by decide +kernel
theorem dL_lamps_33 : decode cL_lamps 33 = .ok (.ifCond .eq 7, 3) := by decide +kernel
theorem dL_lamps_36 : decode cL_lamps 36 = .ok (.iconst 1, 1) := by decide +kernel
theorem dL_lamps_37 : decode cL_lamps 37 = .ok (.goto 4, 3) := by decide +kernel
theorem dL_lamps_40 : decode cL_lamps 40 = .ok (.iconst 0, 1) := by decide +kernel
theorem dL_lamps_41 : decode cL_lamps 41 = .ok (.iadd, 1) := by decide +kernel
theorem dL_lamps_42 : decode cL_lamps 42 = .ok (.istore_n 2, 1) := by decide +kernel
theorem dL_lamps_43 : decode cL_lamps 43 = .ok (.iload 4, 2) := by decide +kernel
theorem dL_lamps_45 : decode cL_lamps 45 = .ok (.aload_n 0, 1) := by decide +kernel
theorem dL_lamps_46 : decode cL_lamps 46 = .ok (.iload_n 3, 1) := by decide +kernel
theorem dL_lamps_47 : decode cL_lamps 47 = .ok (.invokestatic 201, 3) := by decide +kernel
theorem dL_lamps_50 : decode cL_lamps 50 = .ok (.ifCond .lt 7, 3) := by decide +kernel
theorem dL_lamps_53 : decode cL_lamps 53 = .ok (.iconst 1, 1) := by decide +kernel
theorem dL_lamps_54 : decode cL_lamps 54 = .ok (.goto 4, 3) := by decide +kernel
theorem dL_lamps_57 : decode cL_lamps 57 = .ok (.iconst 0, 1) := by decide +kernel
theorem dL_lamps_58 : decode cL_lamps 58 = .ok (.if_icmp .ne 65, 3) := by decide +kernel
theorem dL_lamps_61 : decode cL_lamps 61 = .ok (.iload 4, 2) := by decide +kernel
theorem dL_lamps_63 : decode cL_lamps 63 = .ok (.aload_n 0, 1) := by decide +kernel
theorem dL_lamps_64 : decode cL_lamps 64 = .ok (.iload_n 3, 1) := by decide +kernel
theorem dL_lamps_65 : decode cL_lamps 65 = .ok (.invokestatic 231, 3) := by decide +kernel
theorem dL_lamps_68 : decode cL_lamps 68 = .ok (.aload_n 0, 1) := by decide +kernel
theorem dL_lamps_69 : decode cL_lamps 69 = .ok (.invokevirtual 234, 3) := by decide +kernel
theorem dL_lamps_72 : decode cL_lamps 72 = .ok (.if_icmp .le 7, 3) := by decide +kernel
theorem dL_lamps_75 : decode cL_lamps 75 = .ok (.iconst 1, 1) := by decide +kernel
theorem dL_lamps_76 : decode cL_lamps 76 = .ok (.goto 4, 3) := by decide +kernel
theorem dL_lamps_79 : decode cL_lamps 79 = .ok (.iconst 0, 1) := by decide +kernel
theorem dL_lamps_80 : decode cL_lamps 80 = .ok (.if_icmp .ne 43, 3) := by decide +kernel
theorem dL_lamps_83 : decode cL_lamps 83 = .ok (.iload 4, 2) := by decide +kernel
theorem dL_lamps_85 : decode cL_lamps 85 = .ok (.ifCond .ne 13, 3) := by decide +kernel
theorem dL_lamps_88 : decode cL_lamps 88 = .ok (.aload_n 0, 1) := by decide +kernel
theorem dL_lamps_89 : decode cL_lamps 89 = .ok (.iload_n 3, 1) := by decide +kernel
theorem dL_lamps_90 : decode cL_lamps 90 = .ok (.invokestatic 231, 3) := by decide +kernel
theorem dL_lamps_93 : decode cL_lamps 93 = .ok (.bipush (-13), 2) := by decide +kernel
theorem dL_lamps_95 : decode cL_lamps 95 = .ok (.if_icmp .ne 28, 3) := by decide +kernel
theorem dL_lamps_98 : decode cL_lamps 98 = .ok (.aload_n 0, 1) := by decide +kernel
theorem dL_lamps_99 : decode cL_lamps 99 = .ok (.iload_n 3, 1) := by decide +kernel
theorem dL_lamps_100 : decode cL_lamps 100 = .ok (.invokestatic 265, 3) := by decide +kernel
theorem dL_lamps_103 : decode cL_lamps 103 = .ok (.aload_n 0, 1) := by decide +kernel
theorem dL_lamps_104 : decode cL_lamps 104 = .ok (.iload_n 3, 1) := by decide +kernel
theorem dL_lamps_105 : decode cL_lamps 105 = .ok (.invokestatic 268, 3) := by decide +kernel
theorem dL_lamps_108 : decode cL_lamps 108 = .ok (.if_icmp .lt 15, 3) := by decide +kernel
theorem dL_lamps_111 : decode cL_lamps 111 = .ok (.aload_n 0, 1) := by decide +kernel
theorem dL_lamps_112 : decode cL_lamps 112 = .ok (.iload_n 3, 1) := by decide +kernel
theorem dL_lamps_113 : decode cL_lamps 113 = .ok (.invokestatic 265, 3) := by decide +kernel
theorem dL_lamps_116 : decode cL_lamps 116 = .ok (.aload_n 0, 1) := by decide +kernel
theorem dL_lamps_117 : decode cL_lamps 117 = .ok (.invokevirtual 234, 3) := by decide +kernel
theorem dL_lamps_120 : decode cL_lamps 120 = .ok (.if_icmp .le 5, 3) := by decide +kernel
theorem dL_lamps_123 : decode cL_lamps 123 = .ok (.iconst 0, 1) := by decide +kernel
theorem dL_lamps_124 : decode cL_lamps 124 = .ok (.ireturn, 1) := by decide +kernel
theorem dL_lamps_125 : decode cL_lamps 125 = .ok (.iinc 3 1, 3) := by decide +kernel
theorem dL_lamps_128 : decode cL_lamps 128 = .ok (.goto (-119), 3) := by decide +kernel
theorem dL_lamps_131 : decode cL_lamps 131 = .ok (.iconst 0, 1) := by decide +kernel
theorem dL_lamps_132 : decode cL_lamps 132 = .ok (.istore_n 3, 1) := by decide +kernel
theorem dL_lamps_133 : decode cL_lamps 133 = .ok (.iload_n 3, 1) := by decide +kernel
theorem dL_lamps_134 : decode cL_lamps 134 = .ok (.iload_n 2, 1) := by decide +kernel
theorem dL_lamps_135 : decode cL_lamps 135 = .ok (.if_icmp .ge 115, 3) := by decide +kernel
theorem dL_lamps_138 : decode cL_lamps 138 = .ok (.aload_n 0, 1) := by decide +kernel
theorem dL_lamps_139 : decode cL_lamps 139 = .ok (.iload_n 3, 1) := by decide +kernel
theorem dL_lamps_140 : decode cL_lamps 140 = .ok (.invokestatic 271, 3) := by decide +kernel
theorem dL_lamps_143 : decode cL_lamps 143 = .ok (.istore 4, 2) := by decide +kernel
theorem dL_lamps_145 : decode cL_lamps 145 = .ok (.iload_n 3, 1) := by decide +kernel
theorem dL_lamps_146 : decode cL_lamps 146 = .ok (.ifCond .ne 7, 3) := by decide +kernel
theorem dL_lamps_149 : decode cL_lamps 149 = .ok (.iconst (-1), 1) := by decide +kernel
theorem dL_lamps_150 : decode cL_lamps 150 = .ok (.goto 10, 3) := by decide +kernel
theorem dL_lamps_153 : decode cL_lamps 153 = .ok (.aload_n 0, 1) := by decide +kernel
theorem dL_lamps_154 : decode cL_lamps 154 = .ok (.iload_n 3, 1) := by decide +kernel
theorem dL_lamps_155 : decode cL_lamps 155 = .ok (.iconst 1, 1) := by decide +kernel
theorem dL_lamps_156 : decode cL_lamps 156 = .ok (.isub, 1) := by decide +kernel
theorem dL_lamps_157 : decode cL_lamps 157 = .ok (.invokestatic 271, 3) := by decide +kernel
theorem dL_lamps_160 : decode cL_lamps 160 = .ok (.istore 5, 2) := by decide +kernel
theorem dL_lamps_162 : decode cL_lamps 162 = .ok (.iload_n 3, 1) := by decide +kernel
theorem dL_lamps_163 : decode cL_lamps 163 = .ok (.ifCond .ne 7, 3) := by decide +kernel
theorem dL_lamps_166 : decode cL_lamps 166 = .ok (.iconst 1, 1) := by decide +kernel
theorem dL_lamps_167 : decode cL_lamps 167 = .ok (.goto 16, 3) := by decide +kernel
theorem dL_lamps_170 : decode cL_lamps 170 = .ok (.aload_n 0, 1) := by decide +kernel
theorem dL_lamps_171 : decode cL_lamps 171 = .ok (.iload 4, 2) := by decide +kernel
theorem dL_lamps_173 : decode cL_lamps 173 = .ok (.invokestatic 231, 3) := by decide +kernel
theorem dL_lamps_176 : decode cL_lamps 176 = .ok (.aload_n 0, 1) := by decide +kernel
theorem dL_lamps_177 : decode cL_lamps 177 = .ok (.iload 5, 2) := by decide +kernel
theorem dL_lamps_179 : decode cL_lamps 179 = .ok (.invokestatic 231, 3) := by decide +kernel
theorem dL_lamps_182 : decode cL_lamps 182 = .ok (.isub, 1) := by decide +kernel
theorem dL_lamps_183 : decode cL_lamps 183 = .ok (.istore 6, 2) := by decide +kernel
theorem dL_lamps_185 : decode cL_lamps 185 = .ok (.iload 6, 2) := by decide +kernel
theorem dL_lamps_187 : decode cL_lamps 187 = .ok (.ifCond .eq 8, 3) := by decide +kernel
theorem dL_lamps_190 : decode cL_lamps 190 = .ok (.iload 6, 2) := by decide +kernel
theorem dL_lamps_192 : decode cL_lamps 192 = .ok (.goto 16, 3) := by decide +kernel
theorem dL_lamps_195 : decode cL_lamps 195 = .ok (.aload_n 0, 1) := by decide +kernel
theorem dL_lamps_196 : decode cL_lamps 196 = .ok (.iload 5, 2) := by decide +kernel
theorem dL_lamps_198 : decode cL_lamps 198 = .ok (.invokestatic 239, 3) := by decide +kernel
theorem dL_lamps_201 : decode cL_lamps 201 = .ok (.aload_n 0, 1) := by decide +kernel
theorem dL_lamps_202 : decode cL_lamps 202 = .ok (.iload 4, 2) := by decide +kernel
theorem dL_lamps_204 : decode cL_lamps 204 = .ok (.invokestatic 239, 3) := by decide +kernel
theorem dL_lamps_207 : decode cL_lamps 207 = .ok (.isub, 1) := by decide +kernel
theorem dL_lamps_208 : decode cL_lamps 208 = .ok (.istore 6, 2) := by decide +kernel
theorem dL_lamps_210 : decode cL_lamps 210 = .ok (.iload 4, 2) := by decide +kernel
theorem dL_lamps_212 : decode cL_lamps 212 = .ok (.ifCond .lt 30, 3) := by decide +kernel
theorem dL_lamps_215 : decode cL_lamps 215 = .ok (.aload_n 0, 1) := by decide +kernel
theorem dL_lamps_216 : decode cL_lamps 216 = .ok (.iload 4, 2) := by decide +kernel
theorem dL_lamps_218 : decode cL_lamps 218 = .ok (.invokestatic 237, 3) := by decide +kernel
theorem dL_lamps_221 : decode cL_lamps 221 = .ok (.iconst 1, 1) := by decide +kernel
theorem dL_lamps_222 : decode cL_lamps 222 = .ok (.if_icmp .ne 20, 3) := by decide +kernel
theorem dL_lamps_225 : decode cL_lamps 225 = .ok (.iload 6, 2) := by decide +kernel
theorem dL_lamps_227 : decode cL_lamps 227 = .ok (.ifCond .lt 15, 3) := by decide +kernel
theorem dL_lamps_230 : decode cL_lamps 230 = .ok (.iload 6, 2) := by decide +kernel
theorem dL_lamps_232 : decode cL_lamps 232 = .ok (.ifCond .ne 12, 3) := by decide +kernel
theorem dL_lamps_235 : decode cL_lamps 235 = .ok (.iload 5, 2) := by decide +kernel
theorem dL_lamps_237 : decode cL_lamps 237 = .ok (.iload 4, 2) := by decide +kernel
theorem dL_lamps_239 : decode cL_lamps 239 = .ok (.if_icmp .le 5, 3) := by decide +kernel
theorem dL_lamps_242 : decode cL_lamps 242 = .ok (.iconst 0, 1) := by decide +kernel
theorem dL_lamps_243 : decode cL_lamps 243 = .ok (.ireturn, 1) := by decide +kernel
theorem dL_lamps_244 : decode cL_lamps 244 = .ok (.iinc 3 1, 3) := by decide +kernel
theorem dL_lamps_247 : decode cL_lamps 247 = .ok (.goto (-114), 3) := by decide +kernel
theorem dL_lamps_250 : decode cL_lamps 250 = .ok (.iconst 0, 1) := by decide +kernel
theorem dL_lamps_251 : decode cL_lamps 251 = .ok (.istore_n 3, 1) := by decide +kernel
theorem dL_lamps_252 : decode cL_lamps 252 = .ok (.iload_n 3, 1) := by decide +kernel
theorem dL_lamps_253 : decode cL_lamps 253 = .ok (.aload_n 0, 1) := by decide +kernel
theorem dL_lamps_254 : decode cL_lamps 254 = .ok (.invokevirtual 274, 3) := by decide +kernel
theorem dL_lamps_257 : decode cL_lamps 257 = .ok (.if_icmp .ge 43, 3) := by decide +kernel
theorem dL_lamps_260 : decode cL_lamps 260 = .ok (.aload_n 0, 1) := by decide +kernel
theorem dL_lamps_261 : decode cL_lamps 261 = .ok (.aload_n 0, 1) := by decide +kernel
theorem dL_lamps_262 : decode cL_lamps 262 = .ok (.iload_n 3, 1) := by decide +kernel
theorem dL_lamps_263 : decode cL_lamps 263 = .ok (.invokestatic 277, 3) := by decide +kernel
theorem dL_lamps_266 : decode cL_lamps 266 = .ok (.invokestatic 237, 3) := by decide +kernel
theorem dL_lamps_269 : decode cL_lamps 269 = .ok (.iconst 1, 1) := by decide +kernel
theorem dL_lamps_270 : decode cL_lamps 270 = .ok (.if_icmp .ne 22, 3) := by decide +kernel
theorem dL_lamps_273 : decode cL_lamps 273 = .ok (.aload_n 0, 1) := by decide +kernel
theorem dL_lamps_274 : decode cL_lamps 274 = .ok (.iload_n 3, 1) := by decide +kernel
theorem dL_lamps_275 : decode cL_lamps 275 = .ok (.invokestatic 280, 3) := by decide +kernel
theorem dL_lamps_278 : decode cL_lamps 278 = .ok (.iconst 1, 1) := by decide +kernel
theorem dL_lamps_279 : decode cL_lamps 279 = .ok (.if_icmp .lt 13, 3) := by decide +kernel
theorem dL_lamps_282 : decode cL_lamps 282 = .ok (.aload_n 0, 1) := by decide +kernel
theorem dL_lamps_283 : decode cL_lamps 283 = .ok (.iload_n 3, 1) := by decide +kernel
theorem dL_lamps_284 : decode cL_lamps 284 = .ok (.invokestatic 280, 3) := by decide +kernel
theorem dL_lamps_287 : decode cL_lamps 287 = .ok (.bipush 24, 2) := by decide +kernel
theorem dL_lamps_289 : decode cL_lamps 289 = .ok (.if_icmp .le 5, 3) := by decide +kernel
theorem dL_lamps_292 : decode cL_lamps 292 = .ok (.iconst 0, 1) := by decide +kernel
theorem dL_lamps_293 : decode cL_lamps 293 = .ok (.ireturn, 1) := by decide +kernel
theorem dL_lamps_294 : decode cL_lamps 294 = .ok (.iinc 3 1, 3) := by decide +kernel
theorem dL_lamps_297 : decode cL_lamps 297 = .ok (.goto (-45), 3) := by decide +kernel
theorem dL_lamps_300 : decode cL_lamps 300 = .ok (.aload_n 0, 1) := by decide +kernel
theorem dL_lamps_301 : decode cL_lamps 301 = .ok (.invokevirtual 274, 3) := by decide +kernel
theorem dL_lamps_304 : decode cL_lamps 304 = .ok (.istore_n 3, 1) := by decide +kernel
theorem dL_lamps_305 : decode cL_lamps 305 = .ok (.aload_n 0, 1) := by decide +kernel
theorem dL_lamps_306 : decode cL_lamps 306 = .ok (.invokevirtual 283, 3) := by decide +kernel
theorem dL_lamps_309 : decode cL_lamps 309 = .ok (.iload_n 2, 1) := by decide +kernel
theorem dL_lamps_310 : decode cL_lamps 310 = .ok (.if_icmp .ne 130, 3) := by decide +kernel
theorem dL_lamps_313 : decode cL_lamps 313 = .ok (.aload_n 0, 1) := by decide +kernel
theorem dL_lamps_314 : decode cL_lamps 314 = .ok (.invokevirtual 286, 3) := by decide +kernel
theorem dL_lamps_317 : decode cL_lamps 317 = .ok (.iload_n 2, 1) := by decide +kernel
theorem dL_lamps_318 : decode cL_lamps 318 = .ok (.i2f, 1) := by decide +kernel
theorem dL_lamps_319 : decode cL_lamps 319 = .ok (.iload_n 1, 1) := by decide +kernel
theorem dL_lamps_320 : decode cL_lamps 320 = .ok (.i2f, 1) := by decide +kernel
theorem dL_lamps_321 : decode cL_lamps 321 = .ok (.fdiv, 1) := by decide +kernel
theorem dL_lamps_322 : decode cL_lamps 322 = .ok (.fcmp .l, 1) := by decide +kernel
theorem dL_lamps_323 : decode cL_lamps 323 = .ok (.ifCond .ne 117, 3) := by decide +kernel
theorem dL_lamps_326 : decode cL_lamps 326 = .ok (.aload_n 0, 1) := by decide +kernel
theorem dL_lamps_327 : decode cL_lamps 327 = .ok (.iload_n 2, 1) := by decide +kernel
theorem dL_lamps_328 : decode cL_lamps 328 = .ok (.invokestatic 271, 3) := by decide +kernel
theorem dL_lamps_331 : decode cL_lamps 331 = .ok (.bipush (-13), 2) := by decide +kernel
theorem dL_lamps_333 : decode cL_lamps 333 = .ok (.if_icmp .ne 107, 3) := by decide +kernel
theorem dL_lamps_336 : decode cL_lamps 336 = .ok (.aload_n 0, 1) := by decide +kernel
theorem dL_lamps_337 : decode cL_lamps 337 = .ok (.iconst (-1), 1) := by decide +kernel
theorem dL_lamps_338 : decode cL_lamps 338 = .ok (.invokestatic 271, 3) := by decide +kernel
theorem dL_lamps_341 : decode cL_lamps 341 = .ok (.bipush (-13), 2) := by decide +kernel
theorem dL_lamps_343 : decode cL_lamps 343 = .ok (.if_icmp .ne 97, 3) := by decide +kernel
theorem dL_lamps_346 : decode cL_lamps 346 = .ok (.aload_n 0, 1) := by decide +kernel
theorem dL_lamps_347 : decode cL_lamps 347 = .ok (.iload_n 3, 1) := by decide +kernel
theorem dL_lamps_348 : decode cL_lamps 348 = .ok (.invokestatic 277, 3) := by decide +kernel
theorem dL_lamps_351 : decode cL_lamps 351 = .ok (.bipush (-13), 2) := by decide +kernel
theorem dL_lamps_353 : decode cL_lamps 353 = .ok (.if_icmp .ne 87, 3) := by decide +kernel
theorem dL_lamps_356 : decode cL_lamps 356 = .ok (.aload_n 0, 1) := by decide +kernel
theorem dL_lamps_357 : decode cL_lamps 357 = .ok (.iload_n 3, 1) := by decide +kernel
theorem dL_lamps_358 : decode cL_lamps 358 = .ok (.invokestatic 280, 3) := by decide +kernel
theorem dL_lamps_361 : decode cL_lamps 361 = .ok (.bipush (-13), 2) := by decide +kernel
theorem dL_lamps_363 : decode cL_lamps 363 = .ok (.if_icmp .ne 77, 3) := by decide +kernel
theorem dL_lamps_366 : decode cL_lamps 366 = .ok (.aload_n 0, 1) := by decide +kernel
theorem dL_lamps_367 : decode cL_lamps 367 = .ok (.iconst (-1), 1) := by decide +kernel
theorem dL_lamps_368 : decode cL_lamps 368 = .ok (.invokestatic 277, 3) := by decide +kernel
theorem dL_lamps_371 : decode cL_lamps 371 = .ok (.bipush (-13), 2) := by decide +kernel
theorem dL_lamps_373 : decode cL_lamps 373 = .ok (.if_icmp .ne 67, 3) := by decide +kernel
theorem dL_lamps_376 : decode cL_lamps 376 = .ok (.aload_n 0, 1) := by decide +kernel
theorem dL_lamps_377 : decode cL_lamps 377 = .ok (.iload_n 1, 1) := by decide +kernel
theorem dL_lamps_378 : decode cL_lamps 378 = .ok (.invokestatic 239, 3) := by decide +kernel
theorem dL_lamps_381 : decode cL_lamps 381 = .ok (.bipush (-11), 2) := by decide +kernel
theorem dL_lamps_383 : decode cL_lamps 383 = .ok (.if_icmp .ne 57, 3) := by decide +kernel
theorem dL_lamps_386 : decode cL_lamps 386 = .ok (.aload_n 0, 1) := by decide +kernel
theorem dL_lamps_387 : decode cL_lamps 387 = .ok (.iload_n 1, 1) := by decide +kernel
theorem dL_lamps_388 : decode cL_lamps 388 = .ok (.invokestatic 237, 3) := by decide +kernel
theorem dL_lamps_391 : decode cL_lamps 391 = .ok (.bipush (-11), 2) := by decide +kernel
theorem dL_lamps_393 : decode cL_lamps 393 = .ok (.if_icmp .ne 47, 3) := by decide +kernel
theorem dL_lamps_396 : decode cL_lamps 396 = .ok (.aload_n 0, 1) := by decide +kernel
theorem dL_lamps_397 : decode cL_lamps 397 = .ok (.iload_n 1, 1) := by decide +kernel
theorem dL_lamps_398 : decode cL_lamps 398 = .ok (.invokestatic 201, 3) := by decide +kernel
theorem dL_lamps_401 : decode cL_lamps 401 = .ok (.bipush (-11), 2) := by decide +kernel
theorem dL_lamps_403 : decode cL_lamps 403 = .ok (.if_icmp .ne 37, 3) := by decide +kernel
theorem dL_lamps_406 : decode cL_lamps 406 = .ok (.aload_n 0, 1) := by decide +kernel
theorem dL_lamps_407 : decode cL_lamps 407 = .ok (.iconst (-1), 1) := by decide +kernel
theorem dL_lamps_408 : decode cL_lamps 408 = .ok (.invokestatic 231, 3) := by decide +kernel
theorem dL_lamps_411 : decode cL_lamps 411 = .ok (.bipush (-11), 2) := by decide +kernel
theorem dL_lamps_413 : decode cL_lamps 413 = .ok (.if_icmp .ne 27, 3) := by decide +kernel
theorem dL_lamps_416 : decode cL_lamps 416 = .ok (.aload_n 0, 1) := by decide +kernel
theorem dL_lamps_417 : decode cL_lamps 417 = .ok (.iload_n 1, 1) := by decide +kernel
theorem dL_lamps_418 : decode cL_lamps 418 = .ok (.invokestatic 265, 3) := by decide +kernel
theorem dL_lamps_421 : decode cL_lamps 421 = .ok (.bipush (-11), 2) := by decide +kernel
theorem dL_lamps_423 : decode cL_lamps 423 = .ok (.if_icmp .ne 17, 3) := by decide +kernel
theorem dL_lamps_426 : decode cL_lamps 426 = .ok (.aload_n 0, 1) := by decide +kernel
theorem dL_lamps_427 : decode cL_lamps 427 = .ok (.iload_n 1, 1) := by decide +kernel
theorem dL_lamps_428 : decode cL_lamps 428 = .ok (.invokestatic 268, 3) := by decide +kernel
theorem dL_lamps_431 : decode cL_lamps 431 = .ok (.bipush (-11), 2) := by decide +kernel
theorem dL_lamps_433 : decode cL_lamps 433 = .ok (.if_icmp .ne 7, 3) := by decide +kernel
theorem dL_lamps_436 : decode cL_lamps 436 = .ok (.iconst 1, 1) := by decide +kernel
theorem dL_lamps_437 : decode cL_lamps 437 = .ok (.goto 4, 3) := by decide +kernel
theorem dL_lamps_440 : decode cL_lamps 440 = .ok (.iconst 0, 1) := by decide +kernel
theorem dL_lamps_441 : decode cL_lamps 441 = .ok (.ireturn, 1) := by decide +kernel
theorem dL_sum_0 : decode cL_sum 0 = .ok (.ldc2_w 328, 3) := by decide +kernel
theorem dL_sum_3 : decode cL_sum 3 = .ok (.aload_n 0, 1) := by decide +kernel
theorem dL_sum_4 : decode cL_sum 4 = .ok (.invokevirtual 234, 3) := by decide +kernel
theorem dL_sum_7 : decode cL_sum 7 = .ok (.i2l, 1) := by decide +kernel
theorem dL_sum_8 : decode cL_sum 8 = .ok (.ladd, 1) := by decide +kernel
theorem dL_sum_9 : decode cL_sum 9 = .ok (.lstore_n 1, 1) := by decide +kernel
theorem dL_sum_10 : decode cL_sum 10 = .ok (.ldc2_w 330, 3) := by decide +kernel
theorem dL_sum_13 : decode cL_sum 13 = .ok (.lload_n 1, 1) := by decide +kernel
theorem dL_sum_14 : decode cL_sum 14 = .ok (.lmul, 1) := by decide +kernel
theorem dL_sum_15 : decode cL_sum 15 = .ok (.aload_n 0, 1) := by decide +kernel
theorem dL_sum_16 : decode cL_sum 16 = .ok (.invokevirtual 168, 3) := by decide +kernel
theorem dL_sum_19 : decode cL_sum 19 = .ok (.i2l, 1) := by decide +kernel
theorem dL_sum_20 : decode cL_sum 20 = .ok (.ladd, 1) := by decide +kernel
theorem dL_sum_21 : decode cL_sum 21 = .ok (.lstore_n 1, 1) := by decide +kernel
theorem dL_sum_22 : decode cL_sum 22 = .ok (.ldc2_w 330, 3) := by decide +kernel
theorem dL_sum_25 : decode cL_sum 25 = .ok (.lload_n 1, 1) := by decide +kernel
theorem dL_sum_26 : decode cL_sum 26 = .ok (.lmul, 1) := by decide +kernel
theorem dL_sum_27 : decode cL_sum 27 = .ok (.sipush 1000, 3) := by decide +kernel
theorem dL_sum_30 : decode cL_sum 30 = .ok (.aload_n 0, 1) := by decide +kernel
theorem dL_sum_31 : decode cL_sum 31 = .ok (.invokevirtual 332, 3) := by decide +kernel
theorem dL_sum_34 : decode cL_sum 34 = .ok (.imul, 1) := by decide +kernel
theorem dL_sum_35 : decode cL_sum 35 = .ok (.i2l, 1) := by decide +kernel
theorem dL_sum_36 : decode cL_sum 36 = .ok (.ladd, 1) := by decide +kernel
theorem dL_sum_37 : decode cL_sum 37 = .ok (.aload_n 0, 1) := by decide +kernel
theorem dL_sum_38 : decode cL_sum 38 = .ok (.invokevirtual 221, 3) := by decide +kernel
theorem dL_sum_41 : decode cL_sum 41 = .ok (.i2l, 1) := by decide +kernel
theorem dL_sum_42 : decode cL_sum 42 = .ok (.ladd, 1) := by decide +kernel
theorem dL_sum_43 : decode cL_sum 43 = .ok (.lstore_n 1, 1) := by decide +kernel
theorem dL_sum_44 : decode cL_sum 44 = .ok (.iconst 0, 1) := by decide +kernel
theorem dL_sum_45 : decode cL_sum 45 = .ok (.istore_n 3, 1) := by decide +kernel
theorem dL_sum_46 : decode cL_sum 46 = .ok (.iload_n 3, 1) := by decide +kernel
theorem dL_sum_47 : decode cL_sum 47 = .ok (.aload_n 0, 1) := by decide +kernel
theorem dL_sum_48 : decode cL_sum 48 = .ok (.invokevirtual 195, 3) := by decide +kernel
theorem dL_sum_51 : decode cL_sum 51 = .ok (.if_icmp .ge 46, 3) := by decide +kernel
theorem dL_sum_54 : decode cL_sum 54 = .ok (.ldc2_w 335, 3) := by decide +kernel
theorem dL_sum_57 : decode cL_sum 57 = .ok (.lload_n 1, 1) := by decide +kernel
theorem dL_sum_58 : decode cL_sum 58 = .ok (.lmul, 1) := by decide +kernel
theorem dL_sum_59 : decode cL_sum 59 = .ok (.sipush 1000, 3) := by decide +kernel
theorem dL_sum_62 : decode cL_sum 62 = .ok (.aload_n 0, 1) := by decide +kernel
theorem dL_sum_63 : decode cL_sum 63 = .ok (.iload_n 3, 1) := by decide +kernel
theorem dL_sum_64 : decode cL_sum 64 = .ok (.invokevirtual 45, 3) := by decide +kernel
theorem dL_sum_67 : decode cL_sum 67 = .ok (.imul, 1) := by decide +kernel
theorem dL_sum_68 : decode cL_sum 68 = .ok (.i2l, 1) := by decide +kernel
theorem dL_sum_69 : decode cL_sum 69 = .ok (.ladd, 1) := by decide +kernel
theorem dL_sum_70 : decode cL_sum 70 = .ok (.aload_n 0, 1) := by decide +kernel
theorem dL_sum_71 : decode cL_sum 71 = .ok (.iload_n 3, 1) := by decide +kernel
theorem dL_sum_72 : decode cL_sum 72 = .ok (.invokevirtual 48, 3) := by decide +kernel
theorem dL_sum_75 : decode cL_sum 75 = .ok (.i2l, 1) := by decide +kernel
theorem dL_sum_76 : decode cL_sum 76 = .ok (.ladd, 1) := by decide +kernel
theorem dL_sum_77 : decode cL_sum 77 = .ok (.lstore_n 1, 1) := by decide +kernel
theorem dL_sum_78 : decode cL_sum 78 = .ok (.ldc2_w 337, 3) := by decide +kernel
theorem dL_sum_81 : decode cL_sum 81 = .ok (.lload_n 1, 1) := by decide +kernel
theorem dL_sum_82 : decode cL_sum 82 = .ok (.lmul, 1) := by decide +kernel
theorem dL_sum_83 : decode cL_sum 83 = .ok (.aload_n 0, 1) := by decide +kernel
theorem dL_sum_84 : decode cL_sum 84 = .ok (.iload_n 3, 1) := by decide +kernel
theorem dL_sum_85 : decode cL_sum 85 = .ok (.invokevirtual 51, 3) := by decide +kernel
theorem dL_sum_88 : decode cL_sum 88 = .ok (.i2l, 1) := by decide +kernel
theorem dL_sum_89 : decode cL_sum 89 = .ok (.ladd, 1) := by decide +kernel
theorem dL_sum_90 : decode cL_sum 90 = .ok (.lstore_n 1, 1) := by decide +kernel
theorem dL_sum_91 : decode cL_sum 91 = .ok (.iinc 3 1, 3) := by decide +kernel
theorem dL_sum_94 : decode cL_sum 94 = .ok (.goto (-48), 3) := by decide +kernel
theorem dL_sum_97 : decode cL_sum 97 = .ok (.iconst 0, 1) := by decide +kernel
theorem dL_sum_98 : decode cL_sum 98 = .ok (.istore_n 3, 1) := by decide +kernel
theorem dL_sum_99 : decode cL_sum 99 = .ok (.iload_n 3, 1) := by decide +kernel
theorem dL_sum_100 : decode cL_sum 100 = .ok (.aload_n 0, 1) := by decide +kernel
theorem dL_sum_101 : decode cL_sum 101 = .ok (.invokevirtual 171, 3) := by decide +kernel
theorem dL_sum_104 : decode cL_sum 104 = .ok (.if_icmp .ge 77, 3) := by decide +kernel
theorem dL_sum_107 : decode cL_sum 107 = .ok (.ldc2_w 339, 3) := by decide +kernel
theorem dL_sum_110 : decode cL_sum 110 = .ok (.lload_n 1, 1) := by decide +kernel
theorem dL_sum_111 : decode cL_sum 111 = .ok (.lmul, 1) := by decide +kernel
theorem dL_sum_112 : decode cL_sum 112 = .ok (.bipush 10, 2) := by decide +kernel
theorem dL_sum_114 : decode cL_sum 114 = .ok (.aload_n 0, 1) := by decide +kernel
theorem dL_sum_115 : decode cL_sum 115 = .ok (.iload_n 3, 1) := by decide +kernel
theorem dL_sum_116 : decode cL_sum 116 = .ok (.invokevirtual 60, 3) := by decide +kernel
theorem dL_sum_119 : decode cL_sum 119 = .ok (.imul, 1) := by decide +kernel
theorem dL_sum_120 : decode cL_sum 120 = .ok (.i2l, 1) := by decide +kernel
theorem dL_sum_121 : decode cL_sum 121 = .ok (.ladd, 1) := by decide +kernel
theorem dL_sum_122 : decode cL_sum 122 = .ok (.aload_n 0, 1) := by decide +kernel
theorem dL_sum_123 : decode cL_sum 123 = .ok (.iload_n 3, 1) := by decide +kernel
theorem dL_sum_124 : decode cL_sum 124 = .ok (.invokestatic 201, 3) := by decide +kernel
theorem dL_sum_127 : decode cL_sum 127 = .ok (.i2l, 1) := by decide +kernel
theorem dL_sum_128 : decode cL_sum 128 = .ok (.ladd, 1) := by decide +kernel
theorem dL_sum_129 : decode cL_sum 129 = .ok (.lstore_n 1, 1) := by decide +kernel
theorem dL_sum_130 : decode cL_sum 130 = .ok (.ldc2_w 341, 3) := by decide +kernel
theorem dL_sum_133 : decode cL_sum 133 = .ok (.lload_n 1, 1) := by decide +kernel
theorem dL_sum_134 : decode cL_sum 134 = .ok (.lmul, 1) := by decide +kernel
theorem dL_sum_135 : decode cL_sum 135 = .ok (.sipush 1000, 3) := by decide +kernel
theorem dL_sum_138 : decode cL_sum 138 = .ok (.aload_n 0, 1) := by decide +kernel
theorem dL_sum_139 : decode cL_sum 139 = .ok (.iload_n 3, 1) := by decide +kernel
theorem dL_sum_140 : decode cL_sum 140 = .ok (.invokestatic 231, 3) := by decide +kernel
theorem dL_sum_143 : decode cL_sum 143 = .ok (.imul, 1) := by decide +kernel
theorem dL_sum_144 : decode cL_sum 144 = .ok (.i2l, 1) := by decide +kernel
theorem dL_sum_145 : decode cL_sum 145 = .ok (.ladd, 1) := by decide +kernel
theorem dL_sum_146 : decode cL_sum 146 = .ok (.aload_n 0, 1) := by decide +kernel
theorem dL_sum_147 : decode cL_sum 147 = .ok (.iload_n 3, 1) := by decide +kernel
theorem dL_sum_148 : decode cL_sum 148 = .ok (.invokevirtual 73, 3) := by decide +kernel
theorem dL_sum_151 : decode cL_sum 151 = .ok (.i2l, 1) := by decide +kernel
theorem dL_sum_152 : decode cL_sum 152 = .ok (.ladd, 1) := by decide +kernel
theorem dL_sum_153 : decode cL_sum 153 = .ok (.lstore_n 1, 1) := by decide +kernel
theorem dL_sum_154 : decode cL_sum 154 = .ok (.ldc2_w 343, 3) := by decide +kernel
theorem dL_sum_157 : decode cL_sum 157 = .ok (.lload_n 1, 1) := by decide +kernel
theorem dL_sum_158 : decode cL_sum 158 = .ok (.lmul, 1) := by decide +kernel
theorem dL_sum_159 : decode cL_sum 159 = .ok (.aload_n 0, 1) := by decide +kernel
theorem dL_sum_160 : decode cL_sum 160 = .ok (.iload_n 3, 1) := by decide +kernel
theorem dL_sum_161 : decode cL_sum 161 = .ok (.invokevirtual 76, 3) := by decide +kernel
theorem dL_sum_164 : decode cL_sum 164 = .ok (.ifCond .eq 7, 3) := by decide +kernel
theorem dL_sum_167 : decode cL_sum 167 = .ok (.iconst 1, 1) := by decide +kernel
theorem dL_sum_168 : decode cL_sum 168 = .ok (.goto 4, 3) := by decide +kernel
theorem dL_sum_171 : decode cL_sum 171 = .ok (.iconst 0, 1) := by decide +kernel
theorem dL_sum_172 : decode cL_sum 172 = .ok (.i2l, 1) := by decide +kernel
theorem dL_sum_173 : decode cL_sum 173 = .ok (.ladd, 1) := by decide +kernel
theorem dL_sum_174 : decode cL_sum 174 = .ok (.lstore_n 1, 1) := by decide +kernel
theorem dL_sum_175 : decode cL_sum 175 = .ok (.iinc 3 1, 3) := by decide +kernel
theorem dL_sum_178 : decode cL_sum 178 = .ok (.goto (-79), 3) := by decide +kernel
theorem dL_sum_181 : decode cL_sum 181 = .ok (.iconst 0, 1) := by decide +kernel
theorem dL_sum_182 : decode cL_sum 182 = .ok (.istore_n 3, 1) := by decide +kernel
theorem dL_sum_183 : decode cL_sum 183 = .ok (.iload_n 3, 1) := by decide +kernel
theorem dL_sum_184 : decode cL_sum 184 = .ok (.aload_n 0, 1) := by decide +kernel
theorem dL_sum_185 : decode cL_sum 185 = .ok (.invokevirtual 274, 3) := by decide +kernel
theorem dL_sum_188 : decode cL_sum 188 = .ok (.if_icmp .ge 32, 3) := by decide +kernel
theorem dL_sum_191 : decode cL_sum 191 = .ok (.ldc2_w 345, 3) := by decide +kernel
theorem dL_sum_194 : decode cL_sum 194 = .ok (.lload_n 1, 1) := by decide +kernel
theorem dL_sum_195 : decode cL_sum 195 = .ok (.lmul, 1) := by decide +kernel
theorem dL_sum_196 : decode cL_sum 196 = .ok (.bipush 100, 2) := by decide +kernel
theorem dL_sum_198 : decode cL_sum 198 = .ok (.aload_n 0, 1) := by decide +kernel
theorem dL_sum_199 : decode cL_sum 199 = .ok (.iload_n 3, 1) := by decide +kernel
theorem dL_sum_200 : decode cL_sum 200 = .ok (.invokevirtual 91, 3) := by decide +kernel
theorem dL_sum_203 : decode cL_sum 203 = .ok (.imul, 1) := by decide +kernel
theorem dL_sum_204 : decode cL_sum 204 = .ok (.i2l, 1) := by decide +kernel
theorem dL_sum_205 : decode cL_sum 205 = .ok (.ladd, 1) := by decide +kernel
theorem dL_sum_206 : decode cL_sum 206 = .ok (.aload_n 0, 1) := by decide +kernel
theorem dL_sum_207 : decode cL_sum 207 = .ok (.iload_n 3, 1) := by decide +kernel
theorem dL_sum_208 : decode cL_sum 208 = .ok (.invokevirtual 94, 3) := by decide +kernel
theorem dL_sum_211 : decode cL_sum 211 = .ok (.i2l, 1) := by decide +kernel
theorem dL_sum_212 : decode cL_sum 212 = .ok (.ladd, 1) := by decide +kernel
theorem dL_sum_213 : decode cL_sum 213 = .ok (.lstore_n 1, 1) := by decide +kernel
theorem dL_sum_214 : decode cL_sum 214 = .ok (.iinc 3 1, 3) := by decide +kernel
theorem dL_sum_217 : decode cL_sum 217 = .ok (.goto (-34), 3) := by decide +kernel
theorem dL_sum_220 : decode cL_sum 220 = .ok (.lload_n 1, 1) := by decide +kernel
theorem dL_sum_221 : decode cL_sum 221 = .ok (.lreturn, 1) := by decide +kernel
theorem dL_undone_0 : decode cL_undone 0 = .ok (.bipush 9, 2) := by decide +kernel
theorem dL_undone_2 : decode cL_undone 2 = .ok (.newarray .long, 2) := by decide +kernel
theorem dL_undone_4 : decode cL_undone 4 = .ok (.astore_n 2, 1) := by decide +kernel
theorem dL_undone_5 : decode cL_undone 5 = .ok (.iconst 0, 1) := by decide +kernel
theorem dL_undone_6 : decode cL_undone 6 = .ok (.istore_n 3, 1) := by decide +kernel
theorem dL_undone_7 : decode cL_undone 7 = .ok (.iconst 0, 1) := by decide +kernel
theorem dL_undone_8 : decode cL_undone 8 = .ok (.istore 4, 2) := by decide +kernel
theorem dL_undone_10 : decode cL_undone 10 = .ok (.iload 4, 2) := by decide +kernel
theorem dL_undone_12 : decode cL_undone 12 = .ok (.bipush 7, 2) := by decide +kernel
theorem dL_undone_14 : decode cL_undone 14 = .ok (.if_icmp .ge 375, 3) := by decide +kernel
theorem dL_undone_17 : decode cL_undone 17 = .ok (.aload_n 0, 1) := by decide +kernel
theorem dL_undone_18 : decode cL_undone 18 = .ok (.bipush 12, 2) := by decide +kernel
theorem dL_undone_20 : decode cL_undone 20 = .ok (.iload 4, 2) := by decide +kernel
theorem dL_undone_22 : decode cL_undone 22 = .ok (.iadd, 1) := by decide +kernel
theorem dL_undone_23 : decode cL_undone 23 = .ok (.invokestatic 145, 3) := by decide +kernel
theorem dL_undone_26 : decode cL_undone 26 = .ok (.iconst 1, 1) := by decide +kernel
theorem dL_undone_27 : decode cL_undone 27 = .ok (.iushr, 1) := by decide +kernel
theorem dL_undone_28 : decode cL_undone 28 = .ok (.istore 5, 2) := by decide +kernel
theorem dL_undone_30 : decode cL_undone 30 = .ok (.iload 5, 2) := by decide +kernel
theorem dL_undone_32 : decode cL_undone 32 = .ok (.iconst 4, 1) := by decide +kernel
theorem dL_undone_33 : decode cL_undone 33 = .ok (.iushr, 1) := by decide +kernel
theorem dL_undone_34 : decode cL_undone 34 = .ok (.istore 6, 2) := by decide +kernel
theorem dL_undone_36 : decode cL_undone 36 = .ok (.aload_n 2, 1) := by decide +kernel
theorem dL_undone_37 : decode cL_undone 37 = .ok (.iload_n 3, 1) := by decide +kernel
theorem dL_undone_38 : decode cL_undone 38 = .ok (.aload_n 1, 1) := by decide +kernel
theorem dL_undone_39 : decode cL_undone 39 = .ok (.invokestatic 347, 3) := by decide +kernel
theorem dL_undone_42 : decode cL_undone 42 = .ok (.lastore, 1) := by decide +kernel
theorem dL_undone_43 : decode cL_undone 43 = .ok (.iload 5, 2) := by decide +kernel
theorem dL_undone_45 : decode cL_undone 45 = .ok (.bipush 9, 2) := by decide +kernel
theorem dL_undone_47 : decode cL_undone 47 = .ok (.irem, 1) := by decide +kernel
theorem dL_undone_48 : decode cL_undone 48 = .ok (.tableswitch 221 0 7 #[48, 77, 92, 92, 121, 142, 156, 170], 48) := by decide +kernel
theorem dL_undone_96 : decode cL_undone 96 = .ok (.iload 6, 2) := by decide +kernel
theorem dL_undone_98 : decode cL_undone 98 = .ok (.iconst 2, 1) := by decide +kernel
theorem dL_undone_99 : decode cL_undone 99 = .ok (.irem, 1) := by decide +kernel
theorem dL_undone_100 : decode cL_undone 100 = .ok (.ifCond .ne 10, 3) := by decide +kernel
theorem dL_undone_103 : decode cL_undone 103 = .ok (.aload_n 1, 1) := by decide +kernel
theorem dL_undone_104 : decode cL_undone 104 = .ok (.invokestatic 149, 3) := by decide +kernel
theorem dL_undone_107 : decode cL_undone 107 = .ok (.goto 13, 3) := by decide +kernel
theorem dL_undone_110 : decode cL_undone 110 = .ok (.aload_n 1, 1) := by decide +kernel
theorem dL_undone_111 : decode cL_undone 111 = .ok (.iload 6, 2) := by decide +kernel
theorem dL_undone_113 : decode cL_undone 113 = .ok (.iconst 1, 1) := by decide +kernel
theorem dL_undone_114 : decode cL_undone 114 = .ok (.iushr, 1) := by decide +kernel
theorem dL_undone_115 : decode cL_undone 115 = .ok (.iconst 5, 1) := by decide +kernel
theorem dL_undone_116 : decode cL_undone 116 = .ok (.irem, 1) := by decide +kernel
theorem dL_undone_117 : decode cL_undone 117 = .ok (.invokestatic 151, 3) := by decide +kernel
theorem dL_undone_120 : decode cL_undone 120 = .ok (.istore 7, 2) := by decide +kernel
theorem dL_undone_122 : decode cL_undone 122 = .ok (.goto 230, 3) := by decide +kernel
theorem dL_undone_125 : decode cL_undone 125 = .ok (.aload_n 1, 1) := by decide +kernel
theorem dL_undone_126 : decode cL_undone 126 = .ok (.iload 6, 2) := by decide +kernel
theorem dL_undone_128 : decode cL_undone 128 = .ok (.sipush 202, 3) := by decide +kernel
theorem dL_undone_131 : decode cL_undone 131 = .ok (.irem, 1) := by decide +kernel
theorem dL_undone_132 : decode cL_undone 132 = .ok (.invokestatic 154, 3) := by decide +kernel
theorem dL_undone_135 : decode cL_undone 135 = .ok (.istore 7, 2) := by decide +kernel
theorem dL_undone_137 : decode cL_undone 137 = .ok (.goto 215, 3) := by decide +kernel
theorem dL_undone_140 : decode cL_undone 140 = .ok (.aload_n 1, 1) := by decide +kernel
theorem dL_undone_141 : decode cL_undone 141 = .ok (.iload 6, 2) := by decide +kernel
theorem dL_undone_143 : decode cL_undone 143 = .ok (.bipush 6, 2) := by decide +kernel
theorem dL_undone_145 : decode cL_undone 145 = .ok (.irem, 1) := by decide +kernel
theorem dL_undone_146 : decode cL_undone 146 = .ok (.iload 6, 2) := by decide +kernel
theorem dL_undone_148 : decode cL_undone 148 = .ok (.iconst 3, 1) := by decide +kernel
theorem dL_undone_149 : decode cL_undone 149 = .ok (.iushr, 1) := by decide +kernel
theorem dL_undone_150 : decode cL_undone 150 = .ok (.bipush 9, 2) := by decide +kernel
theorem dL_undone_152 : decode cL_undone 152 = .ok (.irem, 1) := by decide +kernel
theorem dL_undone_153 : decode cL_undone 153 = .ok (.iload 6, 2) := by decide +kernel
theorem dL_undone_155 : decode cL_undone 155 = .ok (.bipush 7, 2) := by decide +kernel
theorem dL_undone_157 : decode cL_undone 157 = .ok (.iushr, 1) := by decide +kernel
theorem dL_undone_158 : decode cL_undone 158 = .ok (.bipush 26, 2) := by decide +kernel
theorem dL_undone_160 : decode cL_undone 160 = .ok (.irem, 1) := by decide +kernel
theorem dL_undone_161 : decode cL_undone 161 = .ok (.invokestatic 156, 3) := by decide +kernel
theorem dL_undone_164 : decode cL_undone 164 = .ok (.istore 7, 2) := by decide +kernel
theorem dL_undone_166 : decode cL_undone 166 = .ok (.goto 186, 3) := by decide +kernel
theorem dL_undone_169 : decode cL_undone 169 = .ok (.aload_n 1, 1) := by decide +kernel
theorem dL_undone_170 : decode cL_undone 170 = .ok (.iload 6, 2) := by decide +kernel
theorem dL_undone_172 : decode cL_undone 172 = .ok (.bipush 9, 2) := by decide +kernel
theorem dL_undone_174 : decode cL_undone 174 = .ok (.irem, 1) := by decide +kernel
theorem dL_undone_175 : decode cL_undone 175 = .ok (.iload 6, 2) := by decide +kernel
theorem dL_undone_177 : decode cL_undone 177 = .ok (.iconst 4, 1) := by decide +kernel
theorem dL_undone_178 : decode cL_undone 178 = .ok (.iushr, 1) := by decide +kernel
theorem dL_undone_179 : decode cL_undone 179 = .ok (.bipush 26, 2) := by decide +kernel
theorem dL_undone_181 : decode cL_undone 181 = .ok (.irem, 1) := by decide +kernel
theorem dL_undone_182 : decode cL_undone 182 = .ok (.invokestatic 159, 3) := by decide +kernel
theorem dL_undone_185 : decode cL_undone 185 = .ok (.istore 7, 2) := by decide +kernel
theorem dL_undone_187 : decode cL_undone 187 = .ok (.goto 165, 3) := by decide +kernel
theorem dL_undone_190 : decode cL_undone 190 = .ok (.aload_n 1, 1) := by decide +kernel
theorem dL_undone_191 : decode cL_undone 191 = .ok (.iload 6, 2) := by decide +kernel
theorem dL_undone_193 : decode cL_undone 193 = .ok (.bipush 9, 2) := by decide +kernel
theorem dL_undone_195 : decode cL_undone 195 = .ok (.irem, 1) := by decide +kernel
theorem dL_undone_196 : decode cL_undone 196 = .ok (.invokestatic 166, 3) := by decide +kernel
theorem dL_undone_199 : decode cL_undone 199 = .ok (.istore 7, 2) := by decide +kernel
theorem dL_undone_201 : decode cL_undone 201 = .ok (.goto 151, 3) := by decide +kernel
theorem dL_undone_204 : decode cL_undone 204 = .ok (.aload_n 1, 1) := by decide +kernel
theorem dL_undone_205 : decode cL_undone 205 = .ok (.iload 6, 2) := by decide +kernel
theorem dL_undone_207 : decode cL_undone 207 = .ok (.bipush 50, 2) := by decide +kernel
theorem dL_undone_209 : decode cL_undone 209 = .ok (.irem, 1) := by decide +kernel
theorem dL_undone_210 : decode cL_undone 210 = .ok (.invokestatic 163, 3) := by decide +kernel
theorem dL_undone_213 : decode cL_undone 213 = .ok (.istore 7, 2) := by decide +kernel
theorem dL_undone_215 : decode cL_undone 215 = .ok (.goto 137, 3) := by decide +kernel
theorem dL_undone_218 : decode cL_undone 218 = .ok (.aload_n 1, 1) := by decide +kernel
theorem dL_undone_219 : decode cL_undone 219 = .ok (.new 295, 3) := by decide +kernel
theorem dL_undone_222 : decode cL_undone 222 = .ok (.dup, 1) := by decide +kernel
theorem dL_undone_223 : decode cL_undone 223 = .ok (.invokespecial 297, 3) := by decide +kernel
theorem dL_undone_226 : decode cL_undone 226 = .ok (.ldc_w 351, 3) := by decide +kernel
theorem dL_undone_229 : decode cL_undone 229 = .ok (.invokevirtual 298, 3) := by decide +kernel
theorem dL_undone_232 : decode cL_undone 232 = .ok (.iload 6, 2) := by decide +kernel
theorem dL_undone_234 : decode cL_undone 234 = .ok (.sipush 210, 3) := by decide +kernel
theorem dL_undone_237 : decode cL_undone 237 = .ok (.irem, 1) := by decide +kernel
theorem dL_undone_238 : decode cL_undone 238 = .ok (.invokevirtual 304, 3) := by decide +kernel
theorem dL_undone_241 : decode cL_undone 241 = .ok (.ldc_w 353, 3) := by decide +kernel
theorem dL_undone_244 : decode cL_undone 244 = .ok (.invokevirtual 298, 3) := by decide +kernel
theorem dL_undone_247 : decode cL_undone 247 = .ok (.iload 6, 2) := by decide +kernel
theorem dL_undone_249 : decode cL_undone 249 = .ok (.bipush 8, 2) := by decide +kernel
theorem dL_undone_251 : decode cL_undone 251 = .ok (.iushr, 1) := by decide +kernel
theorem dL_undone_252 : decode cL_undone 252 = .ok (.bipush 9, 2) := by decide +kernel
theorem dL_undone_254 : decode cL_undone 254 = .ok (.irem, 1) := by decide +kernel
theorem dL_undone_255 : decode cL_undone 255 = .ok (.invokevirtual 304, 3) := by decide +kernel
theorem dL_undone_258 : decode cL_undone 258 = .ok (.invokevirtual 311, 3) := by decide +kernel
theorem dL_undone_261 : decode cL_undone 261 = .ok (.invokestatic 355, 3) := by decide +kernel
theorem dL_undone_264 : decode cL_undone 264 = .ok (.istore 7, 2) := by decide +kernel
theorem dL_undone_266 : decode cL_undone 266 = .ok (.goto 86, 3) := by decide +kernel
theorem dL_undone_269 : decode cL_undone 269 = .ok (.aload_n 1, 1) := by decide +kernel
theorem dL_undone_270 : decode cL_undone 270 = .ok (.new 295, 3) := by decide +kernel
theorem dL_undone_273 : decode cL_undone 273 = .ok (.dup, 1) := by decide +kernel
theorem dL_undone_274 : decode cL_undone 274 = .ok (.invokespecial 297, 3) := by decide +kernel
theorem dL_undone_277 : decode cL_undone 277 = .ok (.ldc_w 359, 3) := by decide +kernel
theorem dL_undone_280 : decode cL_undone 280 = .ok (.invokevirtual 298, 3) := by decide +kernel
theorem dL_undone_283 : decode cL_undone 283 = .ok (.iload 6, 2) := by decide +kernel
theorem dL_undone_285 : decode cL_undone 285 = .ok (.iconst 4, 1) := by decide +kernel
theorem dL_undone_286 : decode cL_undone 286 = .ok (.irem, 1) := by decide +kernel
theorem dL_undone_287 : decode cL_undone 287 = .ok (.invokevirtual 304, 3) := by decide +kernel
theorem dL_undone_290 : decode cL_undone 290 = .ok (.ldc_w 361, 3) := by decide +kernel
theorem dL_undone_293 : decode cL_undone 293 = .ok (.invokevirtual 298, 3) := by decide +kernel
theorem dL_undone_296 : decode cL_undone 296 = .ok (.iload 6, 2) := by decide +kernel
theorem dL_undone_298 : decode cL_undone 298 = .ok (.iconst 2, 1) := by decide +kernel
theorem dL_undone_299 : decode cL_undone 299 = .ok (.iushr, 1) := by decide +kernel
theorem dL_undone_300 : decode cL_undone 300 = .ok (.bipush 6, 2) := by decide +kernel
theorem dL_undone_302 : decode cL_undone 302 = .ok (.irem, 1) := by decide +kernel
theorem dL_undone_303 : decode cL_undone 303 = .ok (.invokevirtual 304, 3) := by decide +kernel
theorem dL_undone_306 : decode cL_undone 306 = .ok (.ldc_w 302, 3) := by decide +kernel
theorem dL_undone_309 : decode cL_undone 309 = .ok (.invokevirtual 298, 3) := by decide +kernel
theorem dL_undone_312 : decode cL_undone 312 = .ok (.iload 6, 2) := by decide +kernel
theorem dL_undone_314 : decode cL_undone 314 = .ok (.iconst 5, 1) := by decide +kernel
theorem dL_undone_315 : decode cL_undone 315 = .ok (.iushr, 1) := by decide +kernel
theorem dL_undone_316 : decode cL_undone 316 = .ok (.bipush 8, 2) := by decide +kernel
theorem dL_undone_318 : decode cL_undone 318 = .ok (.irem, 1) := by decide +kernel
theorem dL_undone_319 : decode cL_undone 319 = .ok (.invokevirtual 304, 3) := by decide +kernel
theorem dL_undone_322 : decode cL_undone 322 = .ok (.ldc_w 363, 3) := by decide +kernel
theorem dL_undone_325 : decode cL_undone 325 = .ok (.invokevirtual 298, 3) := by decide +kernel
theorem dL_undone_328 : decode cL_undone 328 = .ok (.iload 6, 2) := by decide +kernel
theorem dL_undone_330 : decode cL_undone 330 = .ok (.iconst 5, 1) := by decide +kernel
theorem dL_undone_331 : decode cL_undone 331 = .ok (.iushr, 1) := by decide +kernel
theorem dL_undone_332 : decode cL_undone 332 = .ok (.bipush 8, 2) := by decide +kernel
theorem dL_undone_334 : decode cL_undone 334 = .ok (.irem, 1) := by decide +kernel
theorem dL_undone_335 : decode cL_undone 335 = .ok (.invokevirtual 304, 3) := by decide +kernel
theorem dL_undone_338 : decode cL_undone 338 = .ok (.ldc_w 365, 3) := by decide +kernel
theorem dL_undone_341 : decode cL_undone 341 = .ok (.invokevirtual 298, 3) := by decide +kernel
theorem dL_undone_344 : decode cL_undone 344 = .ok (.invokevirtual 311, 3) := by decide +kernel
theorem dL_undone_347 : decode cL_undone 347 = .ok (.invokestatic 355, 3) := by decide +kernel
theorem dL_undone_350 : decode cL_undone 350 = .ok (.istore 7, 2) := by decide +kernel
theorem dL_undone_352 : decode cL_undone 352 = .ok (.iload 7, 2) := by decide +kernel
theorem dL_undone_354 : decode cL_undone 354 = .ok (.ifCond .ge 16, 3) := by decide +kernel
theorem dL_undone_357 : decode cL_undone 357 = .ok (.aload_n 1, 1) := by decide +kernel
theorem dL_undone_358 : decode cL_undone 358 = .ok (.invokestatic 347, 3) := by decide +kernel
theorem dL_undone_361 : decode cL_undone 361 = .ok (.aload_n 2, 1) := by decide +kernel
theorem dL_undone_362 : decode cL_undone 362 = .ok (.iload_n 3, 1) := by decide +kernel
theorem dL_undone_363 : decode cL_undone 363 = .ok (.laload, 1) := by decide +kernel
theorem dL_undone_364 : decode cL_undone 364 = .ok (.lcmp, 1) := by decide +kernel
theorem dL_undone_365 : decode cL_undone 365 = .ok (.ifCond .eq 5, 3) := by decide +kernel
theorem dL_undone_368 : decode cL_undone 368 = .ok (.iconst 0, 1) := by decide +kernel
theorem dL_undone_369 : decode cL_undone 369 = .ok (.ireturn, 1) := by decide +kernel
theorem dL_undone_370 : decode cL_undone 370 = .ok (.iload_n 3, 1) := by decide +kernel
theorem dL_undone_371 : decode cL_undone 371 = .ok (.iload 7, 2) := by decide +kernel
theorem dL_undone_373 : decode cL_undone 373 = .ok (.ifCond .ge 7, 3) := by decide +kernel
theorem dL_undone_376 : decode cL_undone 376 = .ok (.iconst 0, 1) := by decide +kernel
theorem dL_undone_377 : decode cL_undone 377 = .ok (.goto 4, 3) := by decide +kernel
theorem dL_undone_380 : decode cL_undone 380 = .ok (.iconst 1, 1) := by decide +kernel
theorem dL_undone_381 : decode cL_undone 381 = .ok (.iadd, 1) := by decide +kernel
theorem dL_undone_382 : decode cL_undone 382 = .ok (.istore_n 3, 1) := by decide +kernel
theorem dL_undone_383 : decode cL_undone 383 = .ok (.iinc 4 1, 3) := by decide +kernel
theorem dL_undone_386 : decode cL_undone 386 = .ok (.goto (-376), 3) := by decide +kernel
theorem dL_undone_389 : decode cL_undone 389 = .ok (.aload_n 1, 1) := by decide +kernel
theorem dL_undone_390 : decode cL_undone 390 = .ok (.invokevirtual 367, 3) := by decide +kernel
theorem dL_undone_393 : decode cL_undone 393 = .ok (.istore 4, 2) := by decide +kernel
theorem dL_undone_395 : decode cL_undone 395 = .ok (.iload_n 3, 1) := by decide +kernel
theorem dL_undone_396 : decode cL_undone 396 = .ok (.iconst 1, 1) := by decide +kernel
theorem dL_undone_397 : decode cL_undone 397 = .ok (.isub, 1) := by decide +kernel
theorem dL_undone_398 : decode cL_undone 398 = .ok (.istore 5, 2) := by decide +kernel
theorem dL_undone_400 : decode cL_undone 400 = .ok (.iload 5, 2) := by decide +kernel
theorem dL_undone_402 : decode cL_undone 402 = .ok (.ifCond .lt 35, 3) := by decide +kernel
theorem dL_undone_405 : decode cL_undone 405 = .ok (.iinc 4 (-1), 3) := by decide +kernel
theorem dL_undone_408 : decode cL_undone 408 = .ok (.aload_n 1, 1) := by decide +kernel
theorem dL_undone_409 : decode cL_undone 409 = .ok (.invokestatic 370, 3) := by decide +kernel
theorem dL_undone_412 : decode cL_undone 412 = .ok (.iload 4, 2) := by decide +kernel
theorem dL_undone_414 : decode cL_undone 414 = .ok (.if_icmp .ne 15, 3) := by decide +kernel
theorem dL_undone_417 : decode cL_undone 417 = .ok (.aload_n 1, 1) := by decide +kernel
theorem dL_undone_418 : decode cL_undone 418 = .ok (.invokestatic 347, 3) := by decide +kernel
theorem dL_undone_421 : decode cL_undone 421 = .ok (.aload_n 2, 1) := by decide +kernel
theorem dL_undone_422 : decode cL_undone 422 = .ok (.iload 5, 2) := by decide +kernel
theorem dL_undone_424 : decode cL_undone 424 = .ok (.laload, 1) := by decide +kernel
theorem dL_undone_425 : decode cL_undone 425 = .ok (.lcmp, 1) := by decide +kernel
theorem dL_undone_426 : decode cL_undone 426 = .ok (.ifCond .eq 5, 3) := by decide +kernel
theorem dL_undone_429 : decode cL_undone 429 = .ok (.iconst 0, 1) := by decide +kernel
theorem dL_undone_430 : decode cL_undone 430 = .ok (.ireturn, 1) := by decide +kernel
theorem dL_undone_431 : decode cL_undone 431 = .ok (.iinc 5 (-1), 3) := by decide +kernel
theorem dL_undone_434 : decode cL_undone 434 = .ok (.goto (-34), 3) := by decide +kernel
theorem dL_undone_437 : decode cL_undone 437 = .ok (.iconst 1, 1) := by decide +kernel
theorem dL_undone_438 : decode cL_undone 438 = .ok (.ireturn, 1) := by decide +kernel
