section
theorem dL_dice_0 : decode cL_dice 0 = .ok (.iload_n 1, 1) := by decide +kernel
theorem dL_dice_1 : decode cL_dice 1 = .ok (.aload_n 0, 1) := by decide +kernel
theorem dL_dice_2 : decode cL_dice 2 = .ok (.arraylength, 1) := by decide +kernel
theorem dL_dice_3 : decode cL_dice 3 = .ok (.if_icmp .ge 9, 3) := by decide +kernel
theorem dL_dice_6 : decode cL_dice 6 = .ok (.aload_n 0, 1) := by decide +kernel
theorem dL_dice_7 : decode cL_dice 7 = .ok (.iload_n 1, 1) := by decide +kernel
theorem dL_dice_8 : decode cL_dice 8 = .ok (.iaload, 1) := by decide +kernel
theorem dL_dice_9 : decode cL_dice 9 = .ok (.goto 23, 3) := by decide +kernel
theorem dL_dice_12 : decode cL_dice 12 = .ok (.ldc 7, 2) := by decide +kernel
theorem dL_dice_14 : decode cL_dice 14 = .ok (.iload_n 1, 1) := by decide +kernel
theorem dL_dice_15 : decode cL_dice 15 = .ok (.sipush 337, 3) := by decide +kernel
theorem dL_dice_18 : decode cL_dice 18 = .ok (.iadd, 1) := by decide +kernel
theorem dL_dice_19 : decode cL_dice 19 = .ok (.imul, 1) := by decide +kernel
theorem dL_dice_20 : decode cL_dice 20 = .ok (.sipush 729, 3) := by decide +kernel
theorem dL_dice_23 : decode cL_dice 23 = .ok (.iload_n 1, 1) := by decide +kernel
theorem dL_dice_24 : decode cL_dice 24 = .ok (.imul, 1) := by decide +kernel
theorem dL_dice_25 : decode cL_dice 25 = .ok (.iload_n 1, 1) := by decide +kernel
theorem dL_dice_26 : decode cL_dice 26 = .ok (.imul, 1) := by decide +kernel
theorem dL_dice_27 : decode cL_dice 27 = .ok (.iadd, 1) := by decide +kernel
theorem dL_dice_28 : decode cL_dice 28 = .ok (.sipush 229, 3) := by decide +kernel
theorem dL_dice_31 : decode cL_dice 31 = .ok (.iadd, 1) := by decide +kernel
theorem dL_dice_32 : decode cL_dice 32 = .ok (.ldc 8, 2) := by decide +kernel
theorem dL_dice_34 : decode cL_dice 34 = .ok (.iand, 1) := by decide +kernel
theorem dL_dice_35 : decode cL_dice 35 = .ok (.ireturn, 1) := by decide +kernel
theorem dL_act_0 : decode cL_act 0 = .ok (.iload_n 1, 1) := by decide +kernel
theorem dL_act_1 : decode cL_act 1 = .ok (.ifCond .ne 12, 3) := by decide +kernel
theorem dL_act_4 : decode cL_act 4 = .ok (.aload_n 0, 1) := by decide +kernel
theorem dL_act_5 : decode cL_act 5 = .ok (.iload_n 2, 1) := by decide +kernel
theorem dL_act_6 : decode cL_act 6 = .ok (.iload_n 3, 1) := by decide +kernel
theorem dL_act_7 : decode cL_act 7 = .ok (.invokevirtual 9, 3) := by decide +kernel
theorem dL_act_10 : decode cL_act 10 = .ok (.goto 325, 3) := by decide +kernel
theorem dL_act_13 : decode cL_act 13 = .ok (.iload_n 1, 1) := by decide +kernel
theorem dL_act_14 : decode cL_act 14 = .ok (.iconst 1, 1) := by decide +kernel
theorem dL_act_15 : decode cL_act 15 = .ok (.if_icmp .ne 29, 3) := by decide +kernel
theorem dL_act_18 : decode cL_act 18 = .ok (.aload_n 0, 1) := by decide +kernel
theorem dL_act_19 : decode cL_act 19 = .ok (.iload_n 2, 1) := by decide +kernel
theorem dL_act_20 : decode cL_act 20 = .ok (.iload_n 3, 1) := by decide +kernel
theorem dL_act_21 : decode cL_act 21 = .ok (.iload 4, 2) := by decide +kernel
theorem dL_act_23 : decode cL_act 23 = .ok (.iload 5, 2) := by decide +kernel
theorem dL_act_25 : decode cL_act 25 = .ok (.iload 6, 2) := by decide +kernel
theorem dL_act_27 : decode cL_act 27 = .ok (.iload 7, 2) := by decide +kernel
theorem dL_act_29 : decode cL_act 29 = .ok (.iconst 1, 1) := by decide +kernel
theorem dL_act_30 : decode cL_act 30 = .ok (.if_icmp .ne 7, 3) := by decide +kernel
theorem dL_act_33 : decode cL_act 33 = .ok (.iconst 1, 1) := by decide +kernel
theorem dL_act_34 : decode cL_act 34 = .ok (.goto 4, 3) := by decide +kernel
theorem dL_act_37 : decode cL_act 37 = .ok (.iconst 0, 1) := by decide +kernel
theorem dL_act_38 : decode cL_act 38 = .ok (.invokevirtual 15, 3) := by decide +kernel
theorem dL_act_41 : decode cL_act 41 = .ok (.goto 294, 3) := by decide +kernel
theorem dL_act_44 : decode cL_act 44 = .ok (.iload_n 1, 1) := by decide +kernel
theorem dL_act_45 : decode cL_act 45 = .ok (.iconst 2, 1) := by decide +kernel
theorem dL_act_46 : decode cL_act 46 = .ok (.if_icmp .ne 25, 3) := by decide +kernel
theorem dL_act_49 : decode cL_act 49 = .ok (.aload_n 0, 1) := by decide +kernel
theorem dL_act_50 : decode cL_act 50 = .ok (.iload_n 2, 1) := by decide +kernel
theorem dL_act_51 : decode cL_act 51 = .ok (.iload_n 3, 1) := by decide +kernel
theorem dL_act_52 : decode cL_act 52 = .ok (.iload 4, 2) := by decide +kernel
theorem dL_act_54 : decode cL_act 54 = .ok (.iload 5, 2) := by decide +kernel
theorem dL_act_56 : decode cL_act 56 = .ok (.iconst 1, 1) := by decide +kernel
theorem dL_act_57 : decode cL_act 57 = .ok (.if_icmp .ne 7, 3) := by decide +kernel
theorem dL_act_60 : decode cL_act 60 = .ok (.iconst 1, 1) := by decide +kernel
theorem dL_act_61 : decode cL_act 61 = .ok (.goto 4, 3) := by decide +kernel
theorem dL_act_64 : decode cL_act 64 = .ok (.iconst 0, 1) := by decide +kernel
theorem dL_act_65 : decode cL_act 65 = .ok (.invokevirtual 19, 3) := by decide +kernel
theorem dL_act_68 : decode cL_act 68 = .ok (.goto 267, 3) := by decide +kernel
theorem dL_act_71 : decode cL_act 71 = .ok (.iload_n 1, 1) := by decide +kernel
theorem dL_act_72 : decode cL_act 72 = .ok (.iconst 3, 1) := by decide +kernel
theorem dL_act_73 : decode cL_act 73 = .ok (.if_icmp .ne 12, 3) := by decide +kernel
theorem dL_act_76 : decode cL_act 76 = .ok (.aload_n 0, 1) := by decide +kernel
theorem dL_act_77 : decode cL_act 77 = .ok (.iload_n 2, 1) := by decide +kernel
theorem dL_act_78 : decode cL_act 78 = .ok (.iload_n 3, 1) := by decide +kernel
theorem dL_act_79 : decode cL_act 79 = .ok (.invokevirtual 23, 3) := by decide +kernel
theorem dL_act_82 : decode cL_act 82 = .ok (.goto 253, 3) := by decide +kernel
theorem dL_act_85 : decode cL_act 85 = .ok (.iload_n 1, 1) := by decide +kernel
theorem dL_act_86 : decode cL_act 86 = .ok (.iconst 4, 1) := by decide +kernel
theorem dL_act_87 : decode cL_act 87 = .ok (.if_icmp .ne 29, 3) := by decide +kernel
theorem dL_act_90 : decode cL_act 90 = .ok (.aload_n 0, 1) := by decide +kernel
theorem dL_act_91 : decode cL_act 91 = .ok (.iload_n 2, 1) := by decide +kernel
theorem dL_act_92 : decode cL_act 92 = .ok (.iload_n 3, 1) := by decide +kernel
theorem dL_act_93 : decode cL_act 93 = .ok (.iconst 1, 1) := by decide +kernel
theorem dL_act_94 : decode cL_act 94 = .ok (.if_icmp .ne 7, 3) := by decide +kernel
theorem dL_act_97 : decode cL_act 97 = .ok (.iconst 1, 1) := by decide +kernel
theorem dL_act_98 : decode cL_act 98 = .ok (.goto 4, 3) := by decide +kernel
theorem dL_act_101 : decode cL_act 101 = .ok (.iconst 0, 1) := by decide +kernel
theorem dL_act_102 : decode cL_act 102 = .ok (.invokevirtual 26, 3) := by decide +kernel
theorem dL_act_105 : decode cL_act 105 = .ok (.ifCond .eq 7, 3) := by decide +kernel
theorem dL_act_108 : decode cL_act 108 = .ok (.iconst 1, 1) := by decide +kernel
theorem dL_act_109 : decode cL_act 109 = .ok (.goto 226, 3) := by decide +kernel
theorem dL_act_112 : decode cL_act 112 = .ok (.iconst 0, 1) := by decide +kernel
theorem dL_act_113 : decode cL_act 113 = .ok (.goto 222, 3) := by decide +kernel
theorem dL_act_116 : decode cL_act 116 = .ok (.iload_n 1, 1) := by decide +kernel
theorem dL_act_117 : decode cL_act 117 = .ok (.iconst 5, 1) := by decide +kernel
theorem dL_act_118 : decode cL_act 118 = .ok (.if_icmp .ne 21, 3) := by decide +kernel
theorem dL_act_121 : decode cL_act 121 = .ok (.aload_n 0, 1) := by decide +kernel
theorem dL_act_122 : decode cL_act 122 = .ok (.iload_n 2, 1) := by decide +kernel
theorem dL_act_123 : decode cL_act 123 = .ok (.iload_n 3, 1) := by decide +kernel
theorem dL_act_124 : decode cL_act 124 = .ok (.iconst 1, 1) := by decide +kernel
theorem dL_act_125 : decode cL_act 125 = .ok (.if_icmp .ne 7, 3) := by decide +kernel
theorem dL_act_128 : decode cL_act 128 = .ok (.iconst 1, 1) := by decide +kernel
theorem dL_act_129 : decode cL_act 129 = .ok (.goto 4, 3) := by decide +kernel
theorem dL_act_132 : decode cL_act 132 = .ok (.iconst 0, 1) := by decide +kernel
theorem dL_act_133 : decode cL_act 133 = .ok (.invokevirtual 30, 3) := by decide +kernel
theorem dL_act_136 : decode cL_act 136 = .ok (.goto 199, 3) := by decide +kernel
theorem dL_act_139 : decode cL_act 139 = .ok (.iload_n 1, 1) := by decide +kernel
theorem dL_act_140 : decode cL_act 140 = .ok (.bipush 6, 2) := by decide +kernel
theorem dL_act_142 : decode cL_act 142 = .ok (.if_icmp .ne 20, 3) := by decide +kernel
theorem dL_act_145 : decode cL_act 145 = .ok (.aload_n 0, 1) := by decide +kernel
theorem dL_act_146 : decode cL_act 146 = .ok (.iload_n 2, 1) := by decide +kernel
theorem dL_act_147 : decode cL_act 147 = .ok (.iload_n 3, 1) := by decide +kernel
theorem dL_act_148 : decode cL_act 148 = .ok (.iload 4, 2) := by decide +kernel
theorem dL_act_150 : decode cL_act 150 = .ok (.iload 5, 2) := by decide +kernel
theorem dL_act_152 : decode cL_act 152 = .ok (.iload 6, 2) := by decide +kernel
theorem dL_act_154 : decode cL_act 154 = .ok (.iload 7, 2) := by decide +kernel
theorem dL_act_156 : decode cL_act 156 = .ok (.invokevirtual 34, 3) := by decide +kernel
theorem dL_act_159 : decode cL_act 159 = .ok (.goto 176, 3) := by decide +kernel
theorem dL_act_162 : decode cL_act 162 = .ok (.iload_n 1, 1) := by decide +kernel
theorem dL_act_163 : decode cL_act 163 = .ok (.bipush 7, 2) := by decide +kernel
theorem dL_act_165 : decode cL_act 165 = .ok (.if_icmp .ne 14, 3) := by decide +kernel
theorem dL_act_168 : decode cL_act 168 = .ok (.aload_n 0, 1) := by decide +kernel
theorem dL_act_169 : decode cL_act 169 = .ok (.iload_n 2, 1) := by decide +kernel
theorem dL_act_170 : decode cL_act 170 = .ok (.iload_n 3, 1) := by decide +kernel
theorem dL_act_171 : decode cL_act 171 = .ok (.iload 4, 2) := by decide +kernel
theorem dL_act_173 : decode cL_act 173 = .ok (.invokevirtual 38, 3) := by decide +kernel
theorem dL_act_176 : decode cL_act 176 = .ok (.goto 159, 3) := by decide +kernel
theorem dL_act_179 : decode cL_act 179 = .ok (.iload_n 1, 1) := by decide +kernel
theorem dL_act_180 : decode cL_act 180 = .ok (.bipush 8, 2) := by decide +kernel
theorem dL_act_182 : decode cL_act 182 = .ok (.if_icmp .ne 11, 3) := by decide +kernel
theorem dL_act_185 : decode cL_act 185 = .ok (.aload_n 0, 1) := by decide +kernel
theorem dL_act_186 : decode cL_act 186 = .ok (.iload_n 2, 1) := by decide +kernel
theorem dL_act_187 : decode cL_act 187 = .ok (.invokevirtual 42, 3) := by decide +kernel
theorem dL_act_190 : decode cL_act 190 = .ok (.goto 145, 3) := by decide +kernel
theorem dL_act_193 : decode cL_act 193 = .ok (.iload_n 1, 1) := by decide +kernel
theorem dL_act_194 : decode cL_act 194 = .ok (.bipush 9, 2) := by decide +kernel
theorem dL_act_196 : decode cL_act 196 = .ok (.if_icmp .ne 12, 3) := by decide +kernel
theorem dL_act_199 : decode cL_act 199 = .ok (.aload_n 0, 1) := by decide +kernel
theorem dL_act_200 : decode cL_act 200 = .ok (.iload_n 2, 1) := by decide +kernel
theorem dL_act_201 : decode cL_act 201 = .ok (.iload_n 3, 1) := by decide +kernel
theorem dL_act_202 : decode cL_act 202 = .ok (.invokevirtual 46, 3) := by decide +kernel
theorem dL_act_205 : decode cL_act 205 = .ok (.goto 130, 3) := by decide +kernel
theorem dL_act_208 : decode cL_act 208 = .ok (.iload_n 1, 1) := by decide +kernel
theorem dL_act_209 : decode cL_act 209 = .ok (.bipush 10, 2) := by decide +kernel
theorem dL_act_211 : decode cL_act 211 = .ok (.if_icmp .ne 11, 3) := by decide +kernel
theorem dL_act_214 : decode cL_act 214 = .ok (.aload_n 0, 1) := by decide +kernel
theorem dL_act_215 : decode cL_act 215 = .ok (.iload_n 2, 1) := by decide +kernel
theorem dL_act_216 : decode cL_act 216 = .ok (.invokevirtual 49, 3) := by decide +kernel
theorem dL_act_219 : decode cL_act 219 = .ok (.goto 116, 3) := by decide +kernel
theorem dL_act_222 : decode cL_act 222 = .ok (.iload_n 1, 1) := by decide +kernel
theorem dL_act_223 : decode cL_act 223 = .ok (.bipush 11, 2) := by decide +kernel
theorem dL_act_225 : decode cL_act 225 = .ok (.if_icmp .ne 11, 3) := by decide +kernel
theorem dL_act_228 : decode cL_act 228 = .ok (.aload_n 0, 1) := by decide +kernel
theorem dL_act_229 : decode cL_act 229 = .ok (.iload_n 2, 1) := by decide +kernel
theorem dL_act_230 : decode cL_act 230 = .ok (.invokevirtual 52, 3) := by decide +kernel
theorem dL_act_233 : decode cL_act 233 = .ok (.goto 102, 3) := by decide +kernel
theorem dL_act_236 : decode cL_act 236 = .ok (.iload_n 1, 1) := by decide +kernel
theorem dL_act_237 : decode cL_act 237 = .ok (.bipush 12, 2) := by decide +kernel
theorem dL_act_239 : decode cL_act 239 = .ok (.if_icmp .ne 12, 3) := by decide +kernel
theorem dL_act_242 : decode cL_act 242 = .ok (.aload_n 0, 1) := by decide +kernel
theorem dL_act_243 : decode cL_act 243 = .ok (.iload_n 2, 1) := by decide +kernel
theorem dL_act_244 : decode cL_act 244 = .ok (.iload_n 3, 1) := by decide +kernel
theorem dL_act_245 : decode cL_act 245 = .ok (.invokevirtual 55, 3) := by decide +kernel
theorem dL_act_248 : decode cL_act 248 = .ok (.goto 87, 3) := by decide +kernel
theorem dL_act_251 : decode cL_act 251 = .ok (.iload_n 1, 1) := by decide +kernel
theorem dL_act_252 : decode cL_act 252 = .ok (.bipush 13, 2) := by decide +kernel
theorem dL_act_254 : decode cL_act 254 = .ok (.if_icmp .ne 11, 3) := by decide +kernel
theorem dL_act_257 : decode cL_act 257 = .ok (.aload_n 0, 1) := by decide +kernel
theorem dL_act_258 : decode cL_act 258 = .ok (.iload_n 2, 1) := by decide +kernel
theorem dL_act_259 : decode cL_act 259 = .ok (.invokevirtual 58, 3) := by decide +kernel
theorem dL_act_262 : decode cL_act 262 = .ok (.goto 73, 3) := by decide +kernel
theorem dL_act_265 : decode cL_act 265 = .ok (.iload_n 1, 1) := by decide +kernel
theorem dL_act_266 : decode cL_act 266 = .ok (.bipush 14, 2) := by decide +kernel
theorem dL_act_268 : decode cL_act 268 = .ok (.if_icmp .ne 11, 3) := by decide +kernel
theorem dL_act_271 : decode cL_act 271 = .ok (.aload_n 0, 1) := by decide +kernel
theorem dL_act_272 : decode cL_act 272 = .ok (.iload_n 2, 1) := by decide +kernel
theorem dL_act_273 : decode cL_act 273 = .ok (.invokevirtual 61, 3) := by decide +kernel
theorem dL_act_276 : decode cL_act 276 = .ok (.goto 59, 3) := by decide +kernel
theorem dL_act_279 : decode cL_act 279 = .ok (.iload_n 1, 1) := by decide +kernel
theorem dL_act_280 : decode cL_act 280 = .ok (.bipush 15, 2) := by decide +kernel
theorem dL_act_282 : decode cL_act 282 = .ok (.if_icmp .ne 11, 3) := by decide +kernel
theorem dL_act_285 : decode cL_act 285 = .ok (.aload_n 0, 1) := by decide +kernel
theorem dL_act_286 : decode cL_act 286 = .ok (.iload_n 2, 1) := by decide +kernel
theorem dL_act_287 : decode cL_act 287 = .ok (.invokevirtual 64, 3) := by decide +kernel
theorem dL_act_290 : decode cL_act 290 = .ok (.goto 45, 3) := by decide +kernel
theorem dL_act_293 : decode cL_act 293 = .ok (.iload_n 1, 1) := by decide +kernel
theorem dL_act_294 : decode cL_act 294 = .ok (.bipush 16, 2) := by decide +kernel
theorem dL_act_296 : decode cL_act 296 = .ok (.if_icmp .ne 19, 3) := by decide +kernel
theorem dL_act_299 : decode cL_act 299 = .ok (.aload_n 0, 1) := by decide +kernel
theorem dL_act_300 : decode cL_act 300 = .ok (.iload_n 2, 1) := by decide +kernel
theorem dL_act_301 : decode cL_act 301 = .ok (.invokevirtual 67, 3) := by decide +kernel
theorem dL_act_304 : decode cL_act 304 = .ok (.ifCond .eq 7, 3) := by decide +kernel
theorem dL_act_307 : decode cL_act 307 = .ok (.iconst 1, 1) := by decide +kernel
theorem dL_act_308 : decode cL_act 308 = .ok (.goto 27, 3) := by decide +kernel
theorem dL_act_311 : decode cL_act 311 = .ok (.iconst 0, 1) := by decide +kernel
theorem dL_act_312 : decode cL_act 312 = .ok (.goto 23, 3) := by decide +kernel
theorem dL_act_315 : decode cL_act 315 = .ok (.iload_n 1, 1) := by decide +kernel
theorem dL_act_316 : decode cL_act 316 = .ok (.bipush 17, 2) := by decide +kernel
theorem dL_act_318 : decode cL_act 318 = .ok (.if_icmp .ne 12, 3) := by decide +kernel
theorem dL_act_321 : decode cL_act 321 = .ok (.aload_n 0, 1) := by decide +kernel
theorem dL_act_322 : decode cL_act 322 = .ok (.iload_n 2, 1) := by decide +kernel
theorem dL_act_323 : decode cL_act 323 = .ok (.iload_n 3, 1) := by decide +kernel
theorem dL_act_324 : decode cL_act 324 = .ok (.invokevirtual 71, 3) := by decide +kernel
theorem dL_act_327 : decode cL_act 327 = .ok (.goto 8, 3) := by decide +kernel
theorem dL_act_330 : decode cL_act 330 = .ok (.aload_n 0, 1) := by decide +kernel
theorem dL_act_331 : decode cL_act 331 = .ok (.iload_n 2, 1) := by decide +kernel
theorem dL_act_332 : decode cL_act 332 = .ok (.invokevirtual 74, 3) := by decide +kernel
theorem dL_act_335 : decode cL_act 335 = .ok (.ireturn, 1) := by decide +kernel
theorem dL_act_336 : decode cL_act 336 = .ok (.astore 8, 2) := by decide +kernel
theorem dL_act_338 : decode cL_act 338 = .ok (.sipush (-1271), 3) := by decide +kernel
theorem dL_act_341 : decode cL_act 341 = .ok (.ireturn, 1) := by decide +kernel
theorem dL_act_342 : decode cL_act 342 = .ok (.astore 8, 2) := by decide +kernel
theorem dL_act_344 : decode cL_act 344 = .ok (.sipush (-1272), 3) := by decide +kernel
theorem dL_act_347 : decode cL_act 347 = .ok (.ireturn, 1) := by decide +kernel
theorem dL_act_348 : decode cL_act 348 = .ok (.astore 8, 2) := by decide +kernel
theorem dL_act_350 : decode cL_act 350 = .ok (.sipush (-1273), 3) := by decide +kernel
theorem dL_act_353 : decode cL_act 353 = .ok (.ireturn, 1) := by decide +kernel
theorem dL_of_0 : decode cL_of 0 = .ok (.iload_n 1, 1) := by decide +kernel
theorem dL_of_1 : decode cL_of 1 = .ok (.ifCond .ne 11, 3) := by decide +kernel
theorem dL_of_4 : decode cL_of 4 = .ok (.aload_n 0, 1) := by decide +kernel
theorem dL_of_5 : decode cL_of 5 = .ok (.iload_n 2, 1) := by decide +kernel
theorem dL_of_6 : decode cL_of 6 = .ok (.invokevirtual 83, 3) := by decide +kernel
theorem dL_of_9 : decode cL_of 9 = .ok (.goto 247, 3) := by decide +kernel
theorem dL_of_12 : decode cL_of 12 = .ok (.iload_n 1, 1) := by decide +kernel
theorem dL_of_13 : decode cL_of 13 = .ok (.iconst 1, 1) := by decide +kernel
theorem dL_of_14 : decode cL_of 14 = .ok (.if_icmp .ne 12, 3) := by decide +kernel
theorem dL_of_17 : decode cL_of 17 = .ok (.aload_n 0, 1) := by decide +kernel
theorem dL_of_18 : decode cL_of 18 = .ok (.iload_n 2, 1) := by decide +kernel
theorem dL_of_19 : decode cL_of 19 = .ok (.iload_n 3, 1) := by decide +kernel
theorem dL_of_20 : decode cL_of 20 = .ok (.invokevirtual 86, 3) := by decide +kernel
theorem dL_of_23 : decode cL_of 23 = .ok (.goto 233, 3) := by decide +kernel
theorem dL_of_26 : decode cL_of 26 = .ok (.iload_n 1, 1) := by decide +kernel
theorem dL_of_27 : decode cL_of 27 = .ok (.iconst 2, 1) := by decide +kernel
theorem dL_of_28 : decode cL_of 28 = .ok (.if_icmp .ne 12, 3) := by decide +kernel
theorem dL_of_31 : decode cL_of 31 = .ok (.aload_n 0, 1) := by decide +kernel
theorem dL_of_32 : decode cL_of 32 = .ok (.iload_n 2, 1) := by decide +kernel
theorem dL_of_33 : decode cL_of 33 = .ok (.iload_n 3, 1) := by decide +kernel
theorem dL_of_34 : decode cL_of 34 = .ok (.invokevirtual 89, 3) := by decide +kernel
theorem dL_of_37 : decode cL_of 37 = .ok (.goto 219, 3) := by decide +kernel
theorem dL_of_40 : decode cL_of 40 = .ok (.iload_n 1, 1) := by decide +kernel
theorem dL_of_41 : decode cL_of 41 = .ok (.iconst 3, 1) := by decide +kernel
theorem dL_of_42 : decode cL_of 42 = .ok (.if_icmp .ne 11, 3) := by decide +kernel
theorem dL_of_45 : decode cL_of 45 = .ok (.aload_n 0, 1) := by decide +kernel
theorem dL_of_46 : decode cL_of 46 = .ok (.iload_n 2, 1) := by decide +kernel
theorem dL_of_47 : decode cL_of 47 = .ok (.invokevirtual 92, 3) := by decide +kernel
theorem dL_of_50 : decode cL_of 50 = .ok (.goto 206, 3) := by decide +kernel
theorem dL_of_53 : decode cL_of 53 = .ok (.iload_n 1, 1) := by decide +kernel
theorem dL_of_54 : decode cL_of 54 = .ok (.iconst 4, 1) := by decide +kernel
theorem dL_of_55 : decode cL_of 55 = .ok (.if_icmp .ne 11, 3) := by decide +kernel
theorem dL_of_58 : decode cL_of 58 = .ok (.aload_n 0, 1) := by decide +kernel
theorem dL_of_59 : decode cL_of 59 = .ok (.iload_n 2, 1) := by decide +kernel
theorem dL_of_60 : decode cL_of 60 = .ok (.invokevirtual 95, 3) := by decide +kernel
theorem dL_of_63 : decode cL_of 63 = .ok (.goto 193, 3) := by decide +kernel
theorem dL_of_66 : decode cL_of 66 = .ok (.iload_n 1, 1) := by decide +kernel
theorem dL_of_67 : decode cL_of 67 = .ok (.iconst 5, 1) := by decide +kernel
theorem dL_of_68 : decode cL_of 68 = .ok (.if_icmp .ne 11, 3) := by decide +kernel
theorem dL_of_71 : decode cL_of 71 = .ok (.aload_n 0, 1) := by decide +kernel
theorem dL_of_72 : decode cL_of 72 = .ok (.iload_n 2, 1) := by decide +kernel
theorem dL_of_73 : decode cL_of 73 = .ok (.invokevirtual 98, 3) := by decide +kernel
theorem dL_of_76 : decode cL_of 76 = .ok (.goto 180, 3) := by decide +kernel
theorem dL_of_79 : decode cL_of 79 = .ok (.iload_n 1, 1) := by decide +kernel
theorem dL_of_80 : decode cL_of 80 = .ok (.bipush 6, 2) := by decide +kernel
theorem dL_of_82 : decode cL_of 82 = .ok (.if_icmp .ne 11, 3) := by decide +kernel
theorem dL_of_85 : decode cL_of 85 = .ok (.aload_n 0, 1) := by decide +kernel
theorem dL_of_86 : decode cL_of 86 = .ok (.iload_n 2, 1) := by decide +kernel
theorem dL_of_87 : decode cL_of 87 = .ok (.invokevirtual 101, 3) := by decide +kernel
theorem dL_of_90 : decode cL_of 90 = .ok (.goto 166, 3) := by decide +kernel
theorem dL_of_93 : decode cL_of 93 = .ok (.iload_n 1, 1) := by decide +kernel
theorem dL_of_94 : decode cL_of 94 = .ok (.bipush 7, 2) := by decide +kernel
theorem dL_of_96 : decode cL_of 96 = .ok (.if_icmp .ne 11, 3) := by decide +kernel
theorem dL_of_99 : decode cL_of 99 = .ok (.aload_n 0, 1) := by decide +kernel
theorem dL_of_100 : decode cL_of 100 = .ok (.iload_n 2, 1) := by decide +kernel
theorem dL_of_101 : decode cL_of 101 = .ok (.invokevirtual 104, 3) := by decide +kernel
theorem dL_of_104 : decode cL_of 104 = .ok (.goto 152, 3) := by decide +kernel
theorem dL_of_107 : decode cL_of 107 = .ok (.iload_n 1, 1) := by decide +kernel
theorem dL_of_108 : decode cL_of 108 = .ok (.bipush 8, 2) := by decide +kernel
theorem dL_of_110 : decode cL_of 110 = .ok (.if_icmp .ne 11, 3) := by decide +kernel
theorem dL_of_113 : decode cL_of 113 = .ok (.aload_n 0, 1) := by decide +kernel
theorem dL_of_114 : decode cL_of 114 = .ok (.iload_n 2, 1) := by decide +kernel
theorem dL_of_115 : decode cL_of 115 = .ok (.invokevirtual 107, 3) := by decide +kernel
theorem dL_of_118 : decode cL_of 118 = .ok (.goto 138, 3) := by decide +kernel
theorem dL_of_121 : decode cL_of 121 = .ok (.iload_n 1, 1) := by decide +kernel
theorem dL_of_122 : decode cL_of 122 = .ok (.bipush 9, 2) := by decide +kernel
theorem dL_of_124 : decode cL_of 124 = .ok (.if_icmp .ne 19, 3) := by decide +kernel
theorem dL_of_127 : decode cL_of 127 = .ok (.aload_n 0, 1) := by decide +kernel
theorem dL_of_128 : decode cL_of 128 = .ok (.iload_n 2, 1) := by decide +kernel
theorem dL_of_129 : decode cL_of 129 = .ok (.invokevirtual 110, 3) := by decide +kernel
theorem dL_of_132 : decode cL_of 132 = .ok (.ifCond .eq 7, 3) := by decide +kernel
theorem dL_of_135 : decode cL_of 135 = .ok (.iconst 1, 1) := by decide +kernel
theorem dL_of_136 : decode cL_of 136 = .ok (.goto 120, 3) := by decide +kernel
theorem dL_of_139 : decode cL_of 139 = .ok (.iconst 0, 1) := by decide +kernel
theorem dL_of_140 : decode cL_of 140 = .ok (.goto 116, 3) := by decide +kernel
theorem dL_of_143 : decode cL_of 143 = .ok (.iload_n 1, 1) := by decide +kernel
theorem dL_of_144 : decode cL_of 144 = .ok (.bipush 10, 2) := by decide +kernel
theorem dL_of_146 : decode cL_of 146 = .ok (.if_icmp .ne 20, 3) := by decide +kernel
theorem dL_of_149 : decode cL_of 149 = .ok (.aload_n 0, 1) := by decide +kernel
theorem dL_of_150 : decode cL_of 150 = .ok (.iload_n 2, 1) := by decide +kernel
theorem dL_of_151 : decode cL_of 151 = .ok (.iload_n 3, 1) := by decide +kernel
theorem dL_of_152 : decode cL_of 152 = .ok (.invokevirtual 113, 3) := by decide +kernel
theorem dL_of_155 : decode cL_of 155 = .ok (.ifCond .eq 7, 3) := by decide +kernel
theorem dL_of_158 : decode cL_of 158 = .ok (.iconst 1, 1) := by decide +kernel
theorem dL_of_159 : decode cL_of 159 = .ok (.goto 97, 3) := by decide +kernel
theorem dL_of_162 : decode cL_of 162 = .ok (.iconst 0, 1) := by decide +kernel
theorem dL_of_163 : decode cL_of 163 = .ok (.goto 93, 3) := by decide +kernel
theorem dL_of_166 : decode cL_of 166 = .ok (.iload_n 1, 1) := by decide +kernel
theorem dL_of_167 : decode cL_of 167 = .ok (.bipush 11, 2) := by decide +kernel
theorem dL_of_169 : decode cL_of 169 = .ok (.if_icmp .ne 21, 3) := by decide +kernel
theorem dL_of_172 : decode cL_of 172 = .ok (.aload_n 0, 1) := by decide +kernel
theorem dL_of_173 : decode cL_of 173 = .ok (.iload_n 2, 1) := by decide +kernel
theorem dL_of_174 : decode cL_of 174 = .ok (.iload_n 3, 1) := by decide +kernel
theorem dL_of_175 : decode cL_of 175 = .ok (.iconst 1, 1) := by decide +kernel
theorem dL_of_176 : decode cL_of 176 = .ok (.if_icmp .ne 7, 3) := by decide +kernel
theorem dL_of_179 : decode cL_of 179 = .ok (.iconst 1, 1) := by decide +kernel
theorem dL_of_180 : decode cL_of 180 = .ok (.goto 4, 3) := by decide +kernel
theorem dL_of_183 : decode cL_of 183 = .ok (.iconst 0, 1) := by decide +kernel
theorem dL_of_184 : decode cL_of 184 = .ok (.invokevirtual 117, 3) := by decide +kernel
theorem dL_of_187 : decode cL_of 187 = .ok (.goto 69, 3) := by decide +kernel
theorem dL_of_190 : decode cL_of 190 = .ok (.iload_n 1, 1) := by decide +kernel
theorem dL_of_191 : decode cL_of 191 = .ok (.bipush 12, 2) := by decide +kernel
theorem dL_of_193 : decode cL_of 193 = .ok (.if_icmp .ne 11, 3) := by decide +kernel
theorem dL_of_196 : decode cL_of 196 = .ok (.aload_n 0, 1) := by decide +kernel
theorem dL_of_197 : decode cL_of 197 = .ok (.iload_n 2, 1) := by decide +kernel
theorem dL_of_198 : decode cL_of 198 = .ok (.invokevirtual 120, 3) := by decide +kernel
theorem dL_of_201 : decode cL_of 201 = .ok (.goto 55, 3) := by decide +kernel
theorem dL_of_204 : decode cL_of 204 = .ok (.iload_n 1, 1) := by decide +kernel
theorem dL_of_205 : decode cL_of 205 = .ok (.bipush 13, 2) := by decide +kernel
theorem dL_of_207 : decode cL_of 207 = .ok (.if_icmp .ne 11, 3) := by decide +kernel
theorem dL_of_210 : decode cL_of 210 = .ok (.aload_n 0, 1) := by decide +kernel
theorem dL_of_211 : decode cL_of 211 = .ok (.iload_n 2, 1) := by decide +kernel
theorem dL_of_212 : decode cL_of 212 = .ok (.invokevirtual 123, 3) := by decide +kernel
theorem dL_of_215 : decode cL_of 215 = .ok (.goto 41, 3) := by decide +kernel
theorem dL_of_218 : decode cL_of 218 = .ok (.iload_n 1, 1) := by decide +kernel
theorem dL_of_219 : decode cL_of 219 = .ok (.bipush 14, 2) := by decide +kernel
theorem dL_of_221 : decode cL_of 221 = .ok (.if_icmp .ne 12, 3) := by decide +kernel
theorem dL_of_224 : decode cL_of 224 = .ok (.aload_n 0, 1) := by decide +kernel
theorem dL_of_225 : decode cL_of 225 = .ok (.iload_n 2, 1) := by decide +kernel
theorem dL_of_226 : decode cL_of 226 = .ok (.iload_n 3, 1) := by decide +kernel
theorem dL_of_227 : decode cL_of 227 = .ok (.invokevirtual 126, 3) := by decide +kernel
theorem dL_of_230 : decode cL_of 230 = .ok (.goto 26, 3) := by decide +kernel
theorem dL_of_233 : decode cL_of 233 = .ok (.iload_n 1, 1) := by decide +kernel
theorem dL_of_234 : decode cL_of 234 = .ok (.bipush 15, 2) := by decide +kernel
theorem dL_of_236 : decode cL_of 236 = .ok (.if_icmp .ne 12, 3) := by decide +kernel
theorem dL_of_239 : decode cL_of 239 = .ok (.aload_n 0, 1) := by decide +kernel
theorem dL_of_240 : decode cL_of 240 = .ok (.iload_n 2, 1) := by decide +kernel
theorem dL_of_241 : decode cL_of 241 = .ok (.iload_n 3, 1) := by decide +kernel
theorem dL_of_242 : decode cL_of 242 = .ok (.invokevirtual 129, 3) := by decide +kernel
theorem dL_of_245 : decode cL_of 245 = .ok (.goto 11, 3) := by decide +kernel
theorem dL_of_248 : decode cL_of 248 = .ok (.aload_n 0, 1) := by decide +kernel
theorem dL_of_249 : decode cL_of 249 = .ok (.iload_n 2, 1) := by decide +kernel
theorem dL_of_250 : decode cL_of 250 = .ok (.iload_n 3, 1) := by decide +kernel
theorem dL_of_251 : decode cL_of 251 = .ok (.iload 4, 2) := by decide +kernel
theorem dL_of_253 : decode cL_of 253 = .ok (.invokevirtual 132, 3) := by decide +kernel
theorem dL_of_256 : decode cL_of 256 = .ok (.ireturn, 1) := by decide +kernel
theorem dL_of_257 : decode cL_of 257 = .ok (.astore 5, 2) := by decide +kernel
theorem dL_of_259 : decode cL_of 259 = .ok (.sipush (-1271), 3) := by decide +kernel
theorem dL_of_262 : decode cL_of 262 = .ok (.ireturn, 1) := by decide +kernel
theorem dL_of_263 : decode cL_of 263 = .ok (.astore 5, 2) := by decide +kernel
theorem dL_of_265 : decode cL_of 265 = .ok (.sipush (-1272), 3) := by decide +kernel
theorem dL_of_268 : decode cL_of 268 = .ok (.ireturn, 1) := by decide +kernel
theorem dL_like_0 : decode cL_like 0 = .ok (.aload_n 0, 1) := by decide +kernel
theorem dL_like_1 : decode cL_like 1 = .ok (.iload_n 1, 1) := by decide +kernel
theorem dL_like_2 : decode cL_like 2 = .ok (.invokevirtual 83, 3) := by decide +kernel
theorem dL_like_5 : decode cL_like 5 = .ok (.i2l, 1) := by decide +kernel
theorem dL_like_6 : decode cL_like 6 = .ok (.ldc2_w 135, 3) := by decide +kernel
theorem dL_like_9 : decode cL_like 9 = .ok (.aload_n 0, 1) := by decide +kernel
theorem dL_like_10 : decode cL_like 10 = .ok (.iload_n 1, 1) := by decide +kernel
theorem dL_like_11 : decode cL_like 11 = .ok (.invokevirtual 98, 3) := by decide +kernel
theorem dL_like_14 : decode cL_like 14 = .ok (.i2l, 1) := by decide +kernel
theorem dL_like_15 : decode cL_like 15 = .ok (.lmul, 1) := by decide +kernel
theorem dL_like_16 : decode cL_like 16 = .ok (.ladd, 1) := by decide +kernel
theorem dL_like_17 : decode cL_like 17 = .ok (.ldc2_w 137, 3) := by decide +kernel
theorem dL_like_20 : decode cL_like 20 = .ok (.aload_n 0, 1) := by decide +kernel
theorem dL_like_21 : decode cL_like 21 = .ok (.iload_n 1, 1) := by decide +kernel
theorem dL_like_22 : decode cL_like 22 = .ok (.invokevirtual 101, 3) := by decide +kernel
theorem dL_like_25 : decode cL_like 25 = .ok (.i2l, 1) := by decide +kernel
theorem dL_like_26 : decode cL_like 26 = .ok (.lmul, 1) := by decide +kernel
theorem dL_like_27 : decode cL_like 27 = .ok (.ladd, 1) := by decide +kernel
theorem dL_like_28 : decode cL_like 28 = .ok (.lstore_n 2, 1) := by decide +kernel
theorem dL_like_29 : decode cL_like 29 = .ok (.iconst 0, 1) := by decide +kernel
theorem dL_like_30 : decode cL_like 30 = .ok (.istore 4, 2) := by decide +kernel
theorem dL_like_32 : decode cL_like 32 = .ok (.iload 4, 2) := by decide +kernel
theorem dL_like_34 : decode cL_like 34 = .ok (.bipush 11, 2) := by decide +kernel
theorem dL_like_36 : decode cL_like 36 = .ok (.if_icmp .ge 41, 3) := by decide +kernel
theorem dL_like_39 : decode cL_like 39 = .ok (.ldc2_w 139, 3) := by decide +kernel
theorem dL_like_42 : decode cL_like 42 = .ok (.lload_n 2, 1) := by decide +kernel
theorem dL_like_43 : decode cL_like 43 = .ok (.lmul, 1) := by decide +kernel
theorem dL_like_44 : decode cL_like 44 = .ok (.aload_n 0, 1) := by decide +kernel
theorem dL_like_45 : decode cL_like 45 = .ok (.iconst 1, 1) := by decide +kernel
theorem dL_like_46 : decode cL_like 46 = .ok (.iload_n 1, 1) := by decide +kernel
theorem dL_like_47 : decode cL_like 47 = .ok (.iload 4, 2) := by decide +kernel
theorem dL_like_49 : decode cL_like 49 = .ok (.iconst 0, 1) := by decide +kernel
theorem dL_like_50 : decode cL_like 50 = .ok (.invokestatic 141, 3) := by decide +kernel
theorem dL_like_53 : decode cL_like 53 = .ok (.i2l, 1) := by decide +kernel
theorem dL_like_54 : decode cL_like 54 = .ok (.ladd, 1) := by decide +kernel
theorem dL_like_55 : decode cL_like 55 = .ok (.ldc2_w 147, 3) := by decide +kernel
theorem dL_like_58 : decode cL_like 58 = .ok (.aload_n 0, 1) := by decide +kernel
theorem dL_like_59 : decode cL_like 59 = .ok (.iconst 2, 1) := by decide +kernel
theorem dL_like_60 : decode cL_like 60 = .ok (.iload_n 1, 1) := by decide +kernel
theorem dL_like_61 : decode cL_like 61 = .ok (.iload 4, 2) := by decide +kernel
theorem dL_like_63 : decode cL_like 63 = .ok (.iconst 0, 1) := by decide +kernel
theorem dL_like_64 : decode cL_like 64 = .ok (.invokestatic 141, 3) := by decide +kernel
theorem dL_like_67 : decode cL_like 67 = .ok (.i2l, 1) := by decide +kernel
theorem dL_like_68 : decode cL_like 68 = .ok (.lmul, 1) := by decide +kernel
theorem dL_like_69 : decode cL_like 69 = .ok (.ladd, 1) := by decide +kernel
theorem dL_like_70 : decode cL_like 70 = .ok (.lstore_n 2, 1) := by decide +kernel
theorem dL_like_71 : decode cL_like 71 = .ok (.iinc 4 1, 3) := by decide +kernel
theorem dL_like_74 : decode cL_like 74 = .ok (.goto (-42), 3) := by decide +kernel
theorem dL_like_77 : decode cL_like 77 = .ok (.aload_n 0, 1) := by decide +kernel
theorem dL_like_78 : decode cL_like 78 = .ok (.iload_n 1, 1) := by decide +kernel
theorem dL_like_79 : decode cL_like 79 = .ok (.invokevirtual 83, 3) := by decide +kernel
theorem dL_like_82 : decode cL_like 82 = .ok (.iconst 2, 1) := by decide +kernel
theorem dL_like_83 : decode cL_like 83 = .ok (.if_icmp .ne 29, 3) := by decide +kernel
theorem dL_like_86 : decode cL_like 86 = .ok (.ldc2_w 147, 3) := by decide +kernel
theorem dL_like_89 : decode cL_like 89 = .ok (.lload_n 2, 1) := by decide +kernel
theorem dL_like_90 : decode cL_like 90 = .ok (.lmul, 1) := by decide +kernel
theorem dL_like_91 : decode cL_like 91 = .ok (.aload_n 0, 1) := by decide +kernel
theorem dL_like_92 : decode cL_like 92 = .ok (.iload_n 1, 1) := by decide +kernel
theorem dL_like_93 : decode cL_like 93 = .ok (.invokevirtual 104, 3) := by decide +kernel
theorem dL_like_96 : decode cL_like 96 = .ok (.i2l, 1) := by decide +kernel
theorem dL_like_97 : decode cL_like 97 = .ok (.ladd, 1) := by decide +kernel
theorem dL_like_98 : decode cL_like 98 = .ok (.ldc2_w 135, 3) := by decide +kernel
theorem dL_like_101 : decode cL_like 101 = .ok (.aload_n 0, 1) := by decide +kernel
theorem dL_like_102 : decode cL_like 102 = .ok (.iload_n 1, 1) := by decide +kernel
theorem dL_like_103 : decode cL_like 103 = .ok (.invokevirtual 107, 3) := by decide +kernel
theorem dL_like_106 : decode cL_like 106 = .ok (.i2l, 1) := by decide +kernel
theorem dL_like_107 : decode cL_like 107 = .ok (.lmul, 1) := by decide +kernel
theorem dL_like_108 : decode cL_like 108 = .ok (.ladd, 1) := by decide +kernel
theorem dL_like_109 : decode cL_like 109 = .ok (.goto 29, 3) := by decide +kernel
theorem dL_like_112 : decode cL_like 112 = .ok (.aload_n 0, 1) := by decide +kernel
theorem dL_like_113 : decode cL_like 113 = .ok (.iload_n 1, 1) := by decide +kernel
theorem dL_like_114 : decode cL_like 114 = .ok (.invokevirtual 83, 3) := by decide +kernel
theorem dL_like_117 : decode cL_like 117 = .ok (.iconst 4, 1) := by decide +kernel
theorem dL_like_118 : decode cL_like 118 = .ok (.if_icmp .ne 19, 3) := by decide +kernel
theorem dL_like_121 : decode cL_like 121 = .ok (.aload_n 0, 1) := by decide +kernel
theorem dL_like_122 : decode cL_like 122 = .ok (.iload_n 1, 1) := by decide +kernel
theorem dL_like_123 : decode cL_like 123 = .ok (.invokevirtual 110, 3) := by decide +kernel
theorem dL_like_126 : decode cL_like 126 = .ok (.ifCond .eq 11, 3) := by decide +kernel
theorem dL_like_129 : decode cL_like 129 = .ok (.lload_n 2, 1) := by decide +kernel
theorem dL_like_130 : decode cL_like 130 = .ok (.ldc2_w 149, 3) := by decide +kernel
theorem dL_like_133 : decode cL_like 133 = .ok (.ladd, 1) := by decide +kernel
theorem dL_like_134 : decode cL_like 134 = .ok (.goto 4, 3) := by decide +kernel
theorem dL_like_137 : decode cL_like 137 = .ok (.lload_n 2, 1) := by decide +kernel
theorem dL_like_138 : decode cL_like 138 = .ok (.lreturn, 1) := by decide +kernel
theorem dL_all_0 : decode cL_all 0 = .ok (.aload_n 0, 1) := by decide +kernel
theorem dL_all_1 : decode cL_all 1 = .ok (.invokevirtual 151, 3) := by decide +kernel
theorem dL_all_4 : decode cL_all 4 = .ok (.i2l, 1) := by decide +kernel
theorem dL_all_5 : decode cL_all 5 = .ok (.ldc2_w 147, 3) := by decide +kernel
theorem dL_all_8 : decode cL_all 8 = .ok (.aload_n 0, 1) := by decide +kernel
theorem dL_all_9 : decode cL_all 9 = .ok (.invokevirtual 155, 3) := by decide +kernel
theorem dL_all_12 : decode cL_all 12 = .ok (.i2l, 1) := by decide +kernel
theorem dL_all_13 : decode cL_all 13 = .ok (.lmul, 1) := by decide +kernel
theorem dL_all_14 : decode cL_all 14 = .ok (.ladd, 1) := by decide +kernel
theorem dL_all_15 : decode cL_all 15 = .ok (.lstore_n 1, 1) := by decide +kernel
theorem dL_all_16 : decode cL_all 16 = .ok (.iconst 0, 1) := by decide +kernel
theorem dL_all_17 : decode cL_all 17 = .ok (.istore_n 3, 1) := by decide +kernel
theorem dL_all_18 : decode cL_all 18 = .ok (.iload_n 3, 1) := by decide +kernel
theorem dL_all_19 : decode cL_all 19 = .ok (.aload_n 0, 1) := by decide +kernel
theorem dL_all_20 : decode cL_all 20 = .ok (.invokevirtual 155, 3) := by decide +kernel
theorem dL_all_23 : decode cL_all 23 = .ok (.if_icmp .ge 32, 3) := by decide +kernel
theorem dL_all_26 : decode cL_all 26 = .ok (.ldc2_w 139, 3) := by decide +kernel
theorem dL_all_29 : decode cL_all 29 = .ok (.lload_n 1, 1) := by decide +kernel
theorem dL_all_30 : decode cL_all 30 = .ok (.lmul, 1) := by decide +kernel
theorem dL_all_31 : decode cL_all 31 = .ok (.aload_n 0, 1) := by decide +kernel
theorem dL_all_32 : decode cL_all 32 = .ok (.iload_n 3, 1) := by decide +kernel
theorem dL_all_33 : decode cL_all 33 = .ok (.invokestatic 158, 3) := by decide +kernel
theorem dL_all_36 : decode cL_all 36 = .ok (.ladd, 1) := by decide +kernel
theorem dL_all_37 : decode cL_all 37 = .ok (.ldc2_w 135, 3) := by decide +kernel
theorem dL_all_40 : decode cL_all 40 = .ok (.aload_n 0, 1) := by decide +kernel
theorem dL_all_41 : decode cL_all 41 = .ok (.iload_n 3, 1) := by decide +kernel
theorem dL_all_42 : decode cL_all 42 = .ok (.invokevirtual 95, 3) := by decide +kernel
theorem dL_all_45 : decode cL_all 45 = .ok (.i2l, 1) := by decide +kernel
theorem dL_all_46 : decode cL_all 46 = .ok (.lmul, 1) := by decide +kernel
theorem dL_all_47 : decode cL_all 47 = .ok (.ladd, 1) := by decide +kernel
theorem dL_all_48 : decode cL_all 48 = .ok (.lstore_n 1, 1) := by decide +kernel
theorem dL_all_49 : decode cL_all 49 = .ok (.iinc 3 1, 3) := by decide +kernel
theorem dL_all_52 : decode cL_all 52 = .ok (.goto (-34), 3) := by decide +kernel
theorem dL_all_55 : decode cL_all 55 = .ok (.iconst 0, 1) := by decide +kernel
theorem dL_all_56 : decode cL_all 56 = .ok (.istore_n 3, 1) := by decide +kernel
theorem dL_all_57 : decode cL_all 57 = .ok (.iload_n 3, 1) := by decide +kernel
theorem dL_all_58 : decode cL_all 58 = .ok (.bipush 8, 2) := by decide +kernel
theorem dL_all_60 : decode cL_all 60 = .ok (.if_icmp .ge 46, 3) := by decide +kernel
theorem dL_all_63 : decode cL_all 63 = .ok (.ldc2_w 147, 3) := by decide +kernel
theorem dL_all_66 : decode cL_all 66 = .ok (.lload_n 1, 1) := by decide +kernel
theorem dL_all_67 : decode cL_all 67 = .ok (.lmul, 1) := by decide +kernel
theorem dL_all_68 : decode cL_all 68 = .ok (.aload_n 0, 1) := by decide +kernel
theorem dL_all_69 : decode cL_all 69 = .ok (.iload_n 3, 1) := by decide +kernel
theorem dL_all_70 : decode cL_all 70 = .ok (.invokevirtual 123, 3) := by decide +kernel
theorem dL_all_73 : decode cL_all 73 = .ok (.i2l, 1) := by decide +kernel
theorem dL_all_74 : decode cL_all 74 = .ok (.ladd, 1) := by decide +kernel
theorem dL_all_75 : decode cL_all 75 = .ok (.ldc2_w 135, 3) := by decide +kernel
theorem dL_all_78 : decode cL_all 78 = .ok (.aload_n 0, 1) := by decide +kernel
theorem dL_all_79 : decode cL_all 79 = .ok (.iload_n 3, 1) := by decide +kernel
theorem dL_all_80 : decode cL_all 80 = .ok (.iconst 0, 1) := by decide +kernel
theorem dL_all_81 : decode cL_all 81 = .ok (.invokevirtual 126, 3) := by decide +kernel
theorem dL_all_84 : decode cL_all 84 = .ok (.i2l, 1) := by decide +kernel
theorem dL_all_85 : decode cL_all 85 = .ok (.lmul, 1) := by decide +kernel
theorem dL_all_86 : decode cL_all 86 = .ok (.ladd, 1) := by decide +kernel
theorem dL_all_87 : decode cL_all 87 = .ok (.ldc2_w 162, 3) := by decide +kernel
theorem dL_all_90 : decode cL_all 90 = .ok (.aload_n 0, 1) := by decide +kernel
theorem dL_all_91 : decode cL_all 91 = .ok (.iload_n 3, 1) := by decide +kernel
theorem dL_all_92 : decode cL_all 92 = .ok (.iconst 2, 1) := by decide +kernel
theorem dL_all_93 : decode cL_all 93 = .ok (.invokevirtual 126, 3) := by decide +kernel
theorem dL_all_96 : decode cL_all 96 = .ok (.i2l, 1) := by decide +kernel
theorem dL_all_97 : decode cL_all 97 = .ok (.lmul, 1) := by decide +kernel
theorem dL_all_98 : decode cL_all 98 = .ok (.ladd, 1) := by decide +kernel
theorem dL_all_99 : decode cL_all 99 = .ok (.lstore_n 1, 1) := by decide +kernel
theorem dL_all_100 : decode cL_all 100 = .ok (.iinc 3 1, 3) := by decide +kernel
theorem dL_all_103 : decode cL_all 103 = .ok (.goto (-46), 3) := by decide +kernel
theorem dL_all_106 : decode cL_all 106 = .ok (.lload_n 1, 1) := by decide +kernel
theorem dL_all_107 : decode cL_all 107 = .ok (.lreturn, 1) := by decide +kernel
theorem dL_areVersions_0 : decode cL_areVersions 0 = .ok (.aload_n 0, 1) := by decide +kernel
theorem dL_areVersions_1 : decode cL_areVersions 1 = .ok (.bipush 12, 2) := by decide +kernel
theorem dL_areVersions_3 : decode cL_areVersions 3 = .ok (.iconst 0, 1) := by decide +kernel
theorem dL_areVersions_4 : decode cL_areVersions 4 = .ok (.iconst 0, 1) := by decide +kernel
theorem dL_areVersions_5 : decode cL_areVersions 5 = .ok (.iconst 0, 1) := by decide +kernel
theorem dL_areVersions_6 : decode cL_areVersions 6 = .ok (.invokestatic 141, 3) := by decide +kernel
theorem dL_areVersions_9 : decode cL_areVersions 9 = .ok (.sipush (-1271), 3) := by decide +kernel
theorem dL_areVersions_12 : decode cL_areVersions 12 = .ok (.if_icmp .ne 27, 3) := by decide +kernel
theorem dL_areVersions_15 : decode cL_areVersions 15 = .ok (.aload_n 0, 1) := by decide +kernel
theorem dL_areVersions_16 : decode cL_areVersions 16 = .ok (.bipush 12, 2) := by decide +kernel
theorem dL_areVersions_18 : decode cL_areVersions 18 = .ok (.aload_n 0, 1) := by decide +kernel
theorem dL_areVersions_19 : decode cL_areVersions 19 = .ok (.invokevirtual 151, 3) := by decide +kernel
theorem dL_areVersions_22 : decode cL_areVersions 22 = .ok (.iconst 1, 1) := by decide +kernel
theorem dL_areVersions_23 : decode cL_areVersions 23 = .ok (.iadd, 1) := by decide +kernel
theorem dL_areVersions_24 : decode cL_areVersions 24 = .ok (.iconst 0, 1) := by decide +kernel
theorem dL_areVersions_25 : decode cL_areVersions 25 = .ok (.iconst 0, 1) := by decide +kernel
theorem dL_areVersions_26 : decode cL_areVersions 26 = .ok (.invokestatic 141, 3) := by decide +kernel
theorem dL_areVersions_29 : decode cL_areVersions 29 = .ok (.sipush (-1271), 3) := by decide +kernel
theorem dL_areVersions_32 : decode cL_areVersions 32 = .ok (.if_icmp .ne 7, 3) := by decide +kernel
theorem dL_areVersions_35 : decode cL_areVersions 35 = .ok (.iconst 1, 1) := by decide +kernel
theorem dL_areVersions_36 : decode cL_areVersions 36 = .ok (.goto 4, 3) := by decide +kernel
theorem dL_areVersions_39 : decode cL_areVersions 39 = .ok (.iconst 0, 1) := by decide +kernel
theorem dL_areVersions_40 : decode cL_areVersions 40 = .ok (.istore_n 2, 1) := by decide +kernel
theorem dL_areVersions_41 : decode cL_areVersions 41 = .ok (.iconst 0, 1) := by decide +kernel
theorem dL_areVersions_42 : decode cL_areVersions 42 = .ok (.istore_n 3, 1) := by decide +kernel
theorem dL_areVersions_43 : decode cL_areVersions 43 = .ok (.iload_n 3, 1) := by decide +kernel
theorem dL_areVersions_44 : decode cL_areVersions 44 = .ok (.aload_n 0, 1) := by decide +kernel
theorem dL_areVersions_45 : decode cL_areVersions 45 = .ok (.invokevirtual 155, 3) := by decide +kernel
theorem dL_areVersions_48 : decode cL_areVersions 48 = .ok (.if_icmp .ge 13, 3) := by decide +kernel
theorem dL_areVersions_51 : decode cL_areVersions 51 = .ok (.aload_n 1, 1) := by decide +kernel
theorem dL_areVersions_52 : decode cL_areVersions 52 = .ok (.iload_n 3, 1) := by decide +kernel
theorem dL_areVersions_53 : decode cL_areVersions 53 = .ok (.iconst 0, 1) := by decide +kernel
theorem dL_areVersions_54 : decode cL_areVersions 54 = .ok (.iastore, 1) := by decide +kernel
theorem dL_areVersions_55 : decode cL_areVersions 55 = .ok (.iinc 3 1, 3) := by decide +kernel
theorem dL_areVersions_58 : decode cL_areVersions 58 = .ok (.goto (-15), 3) := by decide +kernel
theorem dL_areVersions_61 : decode cL_areVersions 61 = .ok (.iconst 1, 1) := by decide +kernel
theorem dL_areVersions_62 : decode cL_areVersions 62 = .ok (.istore_n 3, 1) := by decide +kernel
theorem dL_areVersions_63 : decode cL_areVersions 63 = .ok (.iload_n 3, 1) := by decide +kernel
theorem dL_areVersions_64 : decode cL_areVersions 64 = .ok (.aload_n 0, 1) := by decide +kernel
theorem dL_areVersions_65 : decode cL_areVersions 65 = .ok (.invokevirtual 151, 3) := by decide +kernel
theorem dL_areVersions_68 : decode cL_areVersions 68 = .ok (.if_icmp .gt 21, 3) := by decide +kernel
theorem dL_areVersions_71 : decode cL_areVersions 71 = .ok (.iload_n 2, 1) := by decide +kernel
theorem dL_areVersions_72 : decode cL_areVersions 72 = .ok (.ifCond .eq 17, 3) := by decide +kernel
theorem dL_areVersions_75 : decode cL_areVersions 75 = .ok (.aload_n 1, 1) := by decide +kernel
theorem dL_areVersions_76 : decode cL_areVersions 76 = .ok (.aload_n 0, 1) := by decide +kernel
theorem dL_areVersions_77 : decode cL_areVersions 77 = .ok (.iload_n 3, 1) := by decide +kernel
theorem dL_areVersions_78 : decode cL_areVersions 78 = .ok (.invokevirtual 120, 3) := by decide +kernel
theorem dL_areVersions_81 : decode cL_areVersions 81 = .ok (.iload_n 3, 1) := by decide +kernel
theorem dL_areVersions_82 : decode cL_areVersions 82 = .ok (.iastore, 1) := by decide +kernel
theorem dL_areVersions_83 : decode cL_areVersions 83 = .ok (.iinc 3 1, 3) := by decide +kernel
theorem dL_areVersions_86 : decode cL_areVersions 86 = .ok (.goto (-23), 3) := by decide +kernel
theorem dL_areVersions_89 : decode cL_areVersions 89 = .ok (.iconst 0, 1) := by decide +kernel
theorem dL_areVersions_90 : decode cL_areVersions 90 = .ok (.istore_n 3, 1) := by decide +kernel
theorem dL_areVersions_91 : decode cL_areVersions 91 = .ok (.iload_n 3, 1) := by decide +kernel
theorem dL_areVersions_92 : decode cL_areVersions 92 = .ok (.aload_n 0, 1) := by decide +kernel
theorem dL_areVersions_93 : decode cL_areVersions 93 = .ok (.invokevirtual 155, 3) := by decide +kernel
theorem dL_areVersions_96 : decode cL_areVersions 96 = .ok (.if_icmp .ge 36, 3) := by decide +kernel
theorem dL_areVersions_99 : decode cL_areVersions 99 = .ok (.iload_n 2, 1) := by decide +kernel
theorem dL_areVersions_100 : decode cL_areVersions 100 = .ok (.ifCond .eq 32, 3) := by decide +kernel
theorem dL_areVersions_103 : decode cL_areVersions 103 = .ok (.aload_n 1, 1) := by decide +kernel
theorem dL_areVersions_104 : decode cL_areVersions 104 = .ok (.iload_n 3, 1) := by decide +kernel
theorem dL_areVersions_105 : decode cL_areVersions 105 = .ok (.iaload, 1) := by decide +kernel
theorem dL_areVersions_106 : decode cL_areVersions 106 = .ok (.ifCond .le 18, 3) := by decide +kernel
theorem dL_areVersions_109 : decode cL_areVersions 109 = .ok (.aload_n 0, 1) := by decide +kernel
theorem dL_areVersions_110 : decode cL_areVersions 110 = .ok (.iload_n 3, 1) := by decide +kernel
theorem dL_areVersions_111 : decode cL_areVersions 111 = .ok (.invokevirtual 95, 3) := by decide +kernel
theorem dL_areVersions_114 : decode cL_areVersions 114 = .ok (.aload_n 1, 1) := by decide +kernel
theorem dL_areVersions_115 : decode cL_areVersions 115 = .ok (.iload_n 3, 1) := by decide +kernel
theorem dL_areVersions_116 : decode cL_areVersions 116 = .ok (.iaload, 1) := by decide +kernel
theorem dL_areVersions_117 : decode cL_areVersions 117 = .ok (.if_icmp .ne 7, 3) := by decide +kernel
theorem dL_areVersions_120 : decode cL_areVersions 120 = .ok (.iconst 1, 1) := by decide +kernel
theorem dL_areVersions_121 : decode cL_areVersions 121 = .ok (.goto 4, 3) := by decide +kernel
theorem dL_areVersions_124 : decode cL_areVersions 124 = .ok (.iconst 0, 1) := by decide +kernel
theorem dL_areVersions_125 : decode cL_areVersions 125 = .ok (.istore_n 2, 1) := by decide +kernel
theorem dL_areVersions_126 : decode cL_areVersions 126 = .ok (.iinc 3 1, 3) := by decide +kernel
theorem dL_areVersions_129 : decode cL_areVersions 129 = .ok (.goto (-38), 3) := by decide +kernel
theorem dL_areVersions_132 : decode cL_areVersions 132 = .ok (.iload_n 2, 1) := by decide +kernel
theorem dL_areVersions_133 : decode cL_areVersions 133 = .ok (.ireturn, 1) := by decide +kernel
theorem dL_areQueues_0 : decode cL_areQueues 0 = .ok (.iconst 1, 1) := by decide +kernel
theorem dL_areQueues_1 : decode cL_areQueues 1 = .ok (.istore_n 1, 1) := by decide +kernel
theorem dL_areQueues_2 : decode cL_areQueues 2 = .ok (.iconst 1, 1) := by decide +kernel
theorem dL_areQueues_3 : decode cL_areQueues 3 = .ok (.istore_n 2, 1) := by decide +kernel
theorem dL_areQueues_4 : decode cL_areQueues 4 = .ok (.iconst 0, 1) := by decide +kernel
theorem dL_areQueues_5 : decode cL_areQueues 5 = .ok (.istore_n 3, 1) := by decide +kernel
theorem dL_areQueues_6 : decode cL_areQueues 6 = .ok (.iload_n 3, 1) := by decide +kernel
theorem dL_areQueues_7 : decode cL_areQueues 7 = .ok (.bipush 8, 2) := by decide +kernel
theorem dL_areQueues_9 : decode cL_areQueues 9 = .ok (.if_icmp .ge 275, 3) := by decide +kernel
theorem dL_areQueues_12 : decode cL_areQueues 12 = .ok (.iload_n 1, 1) := by decide +kernel
theorem dL_areQueues_13 : decode cL_areQueues 13 = .ok (.ifCond .eq 271, 3) := by decide +kernel
theorem dL_areQueues_16 : decode cL_areQueues 16 = .ok (.lconst 0, 1) := by decide +kernel
theorem dL_areQueues_17 : decode cL_areQueues 17 = .ok (.lstore 4, 2) := by decide +kernel
theorem dL_areQueues_19 : decode cL_areQueues 19 = .ok (.iconst 0, 1) := by decide +kernel
theorem dL_areQueues_20 : decode cL_areQueues 20 = .ok (.istore 6, 2) := by decide +kernel
theorem dL_areQueues_22 : decode cL_areQueues 22 = .ok (.iload_n 1, 1) := by decide +kernel
theorem dL_areQueues_23 : decode cL_areQueues 23 = .ok (.ifCond .eq 125, 3) := by decide +kernel
theorem dL_areQueues_26 : decode cL_areQueues 26 = .ok (.aload_n 0, 1) := by decide +kernel
theorem dL_areQueues_27 : decode cL_areQueues 27 = .ok (.iload_n 3, 1) := by decide +kernel
theorem dL_areQueues_28 : decode cL_areQueues 28 = .ok (.iload 6, 2) := by decide +kernel
theorem dL_areQueues_30 : decode cL_areQueues 30 = .ok (.invokevirtual 126, 3) := by decide +kernel
theorem dL_areQueues_33 : decode cL_areQueues 33 = .ok (.ifCond .lt 115, 3) := by decide +kernel
theorem dL_areQueues_36 : decode cL_areQueues 36 = .ok (.aload_n 0, 1) := by decide +kernel
theorem dL_areQueues_37 : decode cL_areQueues 37 = .ok (.iload_n 3, 1) := by decide +kernel
theorem dL_areQueues_38 : decode cL_areQueues 38 = .ok (.iload 6, 2) := by decide +kernel
theorem dL_areQueues_40 : decode cL_areQueues 40 = .ok (.invokevirtual 126, 3) := by decide +kernel
theorem dL_areQueues_43 : decode cL_areQueues 43 = .ok (.istore 7, 2) := by decide +kernel
theorem dL_areQueues_45 : decode cL_areQueues 45 = .ok (.iload_n 3, 1) := by decide +kernel
theorem dL_areQueues_46 : decode cL_areQueues 46 = .ok (.ifCond .eq 9, 3) := by decide +kernel
theorem dL_areQueues_49 : decode cL_areQueues 49 = .ok (.iload_n 3, 1) := by decide +kernel
theorem dL_areQueues_50 : decode cL_areQueues 50 = .ok (.bipush 7, 2) := by decide +kernel
theorem dL_areQueues_52 : decode cL_areQueues 52 = .ok (.if_icmp .ne 7, 3) := by decide +kernel
theorem dL_areQueues_55 : decode cL_areQueues 55 = .ok (.iconst 0, 1) := by decide +kernel
theorem dL_areQueues_56 : decode cL_areQueues 56 = .ok (.goto 46, 3) := by decide +kernel
theorem dL_areQueues_59 : decode cL_areQueues 59 = .ok (.iload_n 3, 1) := by decide +kernel
theorem dL_areQueues_60 : decode cL_areQueues 60 = .ok (.iconst 1, 1) := by decide +kernel
theorem dL_areQueues_61 : decode cL_areQueues 61 = .ok (.if_icmp .ne 7, 3) := by decide +kernel
theorem dL_areQueues_64 : decode cL_areQueues 64 = .ok (.iconst 1, 1) := by decide +kernel
theorem dL_areQueues_65 : decode cL_areQueues 65 = .ok (.goto 37, 3) := by decide +kernel
theorem dL_areQueues_68 : decode cL_areQueues 68 = .ok (.iload_n 3, 1) := by decide +kernel
theorem dL_areQueues_69 : decode cL_areQueues 69 = .ok (.iconst 2, 1) := by decide +kernel
theorem dL_areQueues_70 : decode cL_areQueues 70 = .ok (.if_icmp .ne 7, 3) := by decide +kernel
theorem dL_areQueues_73 : decode cL_areQueues 73 = .ok (.iconst 3, 1) := by decide +kernel
theorem dL_areQueues_74 : decode cL_areQueues 74 = .ok (.goto 28, 3) := by decide +kernel
theorem dL_areQueues_77 : decode cL_areQueues 77 = .ok (.iload_n 3, 1) := by decide +kernel
theorem dL_areQueues_78 : decode cL_areQueues 78 = .ok (.bipush 6, 2) := by decide +kernel
theorem dL_areQueues_80 : decode cL_areQueues 80 = .ok (.if_icmp .ne 7, 3) := by decide +kernel
theorem dL_areQueues_83 : decode cL_areQueues 83 = .ok (.iconst 5, 1) := by decide +kernel
theorem dL_areQueues_84 : decode cL_areQueues 84 = .ok (.goto 18, 3) := by decide +kernel
theorem dL_areQueues_87 : decode cL_areQueues 87 = .ok (.iload_n 3, 1) := by decide +kernel
theorem dL_areQueues_88 : decode cL_areQueues 88 = .ok (.iconst 5, 1) := by decide +kernel
theorem dL_areQueues_89 : decode cL_areQueues 89 = .ok (.if_icmp .ne 12, 3) := by decide +kernel
theorem dL_areQueues_92 : decode cL_areQueues 92 = .ok (.aload_n 0, 1) := by decide +kernel
theorem dL_areQueues_93 : decode cL_areQueues 93 = .ok (.iload 7, 2) := by decide +kernel
theorem dL_areQueues_95 : decode cL_areQueues 95 = .ok (.invokevirtual 83, 3) := by decide +kernel
theorem dL_areQueues_98 : decode cL_areQueues 98 = .ok (.goto 4, 3) := by decide +kernel
theorem dL_areQueues_101 : decode cL_areQueues 101 = .ok (.iconst 2, 1) := by decide +kernel
theorem dL_areQueues_102 : decode cL_areQueues 102 = .ok (.istore 8, 2) := by decide +kernel
theorem dL_areQueues_104 : decode cL_areQueues 104 = .ok (.lload 4, 2) := by decide +kernel
theorem dL_areQueues_106 : decode cL_areQueues 106 = .ok (.iload 7, 2) := by decide +kernel
theorem dL_areQueues_108 : decode cL_areQueues 108 = .ok (.lshr, 1) := by decide +kernel
theorem dL_areQueues_109 : decode cL_areQueues 109 = .ok (.lconst 1, 1) := by decide +kernel
theorem dL_areQueues_110 : decode cL_areQueues 110 = .ok (.land, 1) := by decide +kernel
theorem dL_areQueues_111 : decode cL_areQueues 111 = .ok (.lconst 0, 1) := by decide +kernel
theorem dL_areQueues_112 : decode cL_areQueues 112 = .ok (.lcmp, 1) := by decide +kernel
theorem dL_areQueues_113 : decode cL_areQueues 113 = .ok (.ifCond .ne 18, 3) := by decide +kernel
theorem dL_areQueues_116 : decode cL_areQueues 116 = .ok (.aload_n 0, 1) := by decide +kernel
theorem dL_areQueues_117 : decode cL_areQueues 117 = .ok (.iload 7, 2) := by decide +kernel
theorem dL_areQueues_119 : decode cL_areQueues 119 = .ok (.invokevirtual 83, 3) := by decide +kernel
theorem dL_areQueues_122 : decode cL_areQueues 122 = .ok (.iload 8, 2) := by decide +kernel
theorem dL_areQueues_124 : decode cL_areQueues 124 = .ok (.if_icmp .ne 7, 3) := by decide +kernel
theorem dL_areQueues_127 : decode cL_areQueues 127 = .ok (.iconst 1, 1) := by decide +kernel
theorem dL_areQueues_128 : decode cL_areQueues 128 = .ok (.goto 4, 3) := by decide +kernel
theorem dL_areQueues_131 : decode cL_areQueues 131 = .ok (.iconst 0, 1) := by decide +kernel
theorem dL_areQueues_132 : decode cL_areQueues 132 = .ok (.istore_n 1, 1) := by decide +kernel
theorem dL_areQueues_133 : decode cL_areQueues 133 = .ok (.lload 4, 2) := by decide +kernel
theorem dL_areQueues_135 : decode cL_areQueues 135 = .ok (.lconst 1, 1) := by decide +kernel
theorem dL_areQueues_136 : decode cL_areQueues 136 = .ok (.iload 7, 2) := by decide +kernel
theorem dL_areQueues_138 : decode cL_areQueues 138 = .ok (.lshl, 1) := by decide +kernel
theorem dL_areQueues_139 : decode cL_areQueues 139 = .ok (.lor, 1) := by decide +kernel
theorem dL_areQueues_140 : decode cL_areQueues 140 = .ok (.lstore 4, 2) := by decide +kernel
theorem dL_areQueues_142 : decode cL_areQueues 142 = .ok (.iinc 6 1, 3) := by decide +kernel
theorem dL_areQueues_145 : decode cL_areQueues 145 = .ok (.goto (-123), 3) := by decide +kernel
theorem dL_areQueues_148 : decode cL_areQueues 148 = .ok (.iload_n 2, 1) := by decide +kernel
theorem dL_areQueues_149 : decode cL_areQueues 149 = .ok (.ifCond .eq 24, 3) := by decide +kernel
theorem dL_areQueues_152 : decode cL_areQueues 152 = .ok (.iload 6, 2) := by decide +kernel
theorem dL_areQueues_154 : decode cL_areQueues 154 = .ok (.ifCond .ne 19, 3) := by decide +kernel
theorem dL_areQueues_157 : decode cL_areQueues 157 = .ok (.aload_n 0, 1) := by decide +kernel
theorem dL_areQueues_158 : decode cL_areQueues 158 = .ok (.iload_n 3, 1) := by decide +kernel
theorem dL_areQueues_159 : decode cL_areQueues 159 = .ok (.invokevirtual 123, 3) := by decide +kernel
theorem dL_areQueues_162 : decode cL_areQueues 162 = .ok (.aload_n 0, 1) := by decide +kernel
theorem dL_areQueues_163 : decode cL_areQueues 163 = .ok (.invokevirtual 151, 3) := by decide +kernel
theorem dL_areQueues_166 : decode cL_areQueues 166 = .ok (.if_icmp .ne 7, 3) := by decide +kernel
theorem dL_areQueues_169 : decode cL_areQueues 169 = .ok (.iconst 1, 1) := by decide +kernel
theorem dL_areQueues_170 : decode cL_areQueues 170 = .ok (.goto 4, 3) := by decide +kernel
theorem dL_areQueues_173 : decode cL_areQueues 173 = .ok (.iconst 0, 1) := by decide +kernel
theorem dL_areQueues_174 : decode cL_areQueues 174 = .ok (.istore_n 2, 1) := by decide +kernel
theorem dL_areQueues_175 : decode cL_areQueues 175 = .ok (.iload_n 1, 1) := by decide +kernel
theorem dL_areQueues_176 : decode cL_areQueues 176 = .ok (.ifCond .eq 40, 3) := by decide +kernel
theorem dL_areQueues_179 : decode cL_areQueues 179 = .ok (.aload_n 0, 1) := by decide +kernel
theorem dL_areQueues_180 : decode cL_areQueues 180 = .ok (.iload_n 3, 1) := by decide +kernel
theorem dL_areQueues_181 : decode cL_areQueues 181 = .ok (.iload 6, 2) := by decide +kernel
theorem dL_areQueues_183 : decode cL_areQueues 183 = .ok (.iconst 1, 1) := by decide +kernel
theorem dL_areQueues_184 : decode cL_areQueues 184 = .ok (.iadd, 1) := by decide +kernel
theorem dL_areQueues_185 : decode cL_areQueues 185 = .ok (.invokevirtual 126, 3) := by decide +kernel
theorem dL_areQueues_188 : decode cL_areQueues 188 = .ok (.iconst (-1), 1) := by decide +kernel
theorem dL_areQueues_189 : decode cL_areQueues 189 = .ok (.if_icmp .ne 27, 3) := by decide +kernel
theorem dL_areQueues_192 : decode cL_areQueues 192 = .ok (.aload_n 0, 1) := by decide +kernel
theorem dL_areQueues_193 : decode cL_areQueues 193 = .ok (.iload_n 3, 1) := by decide +kernel
theorem dL_areQueues_194 : decode cL_areQueues 194 = .ok (.invokevirtual 123, 3) := by decide +kernel
theorem dL_areQueues_197 : decode cL_areQueues 197 = .ok (.ifCond .lt 19, 3) := by decide +kernel
theorem dL_areQueues_200 : decode cL_areQueues 200 = .ok (.aload_n 0, 1) := by decide +kernel
theorem dL_areQueues_201 : decode cL_areQueues 201 = .ok (.iload_n 3, 1) := by decide +kernel
theorem dL_areQueues_202 : decode cL_areQueues 202 = .ok (.invokevirtual 123, 3) := by decide +kernel
theorem dL_areQueues_205 : decode cL_areQueues 205 = .ok (.aload_n 0, 1) := by decide +kernel
theorem dL_areQueues_206 : decode cL_areQueues 206 = .ok (.invokevirtual 151, 3) := by decide +kernel
theorem dL_areQueues_209 : decode cL_areQueues 209 = .ok (.if_icmp .gt 7, 3) := by decide +kernel
theorem dL_areQueues_212 : decode cL_areQueues 212 = .ok (.iconst 1, 1) := by decide +kernel
theorem dL_areQueues_213 : decode cL_areQueues 213 = .ok (.goto 4, 3) := by decide +kernel
theorem dL_areQueues_216 : decode cL_areQueues 216 = .ok (.iconst 0, 1) := by decide +kernel
theorem dL_areQueues_217 : decode cL_areQueues 217 = .ok (.istore_n 1, 1) := by decide +kernel
theorem dL_areQueues_218 : decode cL_areQueues 218 = .ok (.iconst 0, 1) := by decide +kernel
theorem dL_areQueues_219 : decode cL_areQueues 219 = .ok (.istore 7, 2) := by decide +kernel
theorem dL_areQueues_221 : decode cL_areQueues 221 = .ok (.iload 7, 2) := by decide +kernel
theorem dL_areQueues_223 : decode cL_areQueues 223 = .ok (.aload_n 0, 1) := by decide +kernel
theorem dL_areQueues_224 : decode cL_areQueues 224 = .ok (.invokevirtual 155, 3) := by decide +kernel
theorem dL_areQueues_227 : decode cL_areQueues 227 = .ok (.if_icmp .ge 51, 3) := by decide +kernel
theorem dL_areQueues_230 : decode cL_areQueues 230 = .ok (.iload_n 1, 1) := by decide +kernel
theorem dL_areQueues_231 : decode cL_areQueues 231 = .ok (.ifCond .eq 47, 3) := by decide +kernel
theorem dL_areQueues_234 : decode cL_areQueues 234 = .ok (.aload_n 0, 1) := by decide +kernel
theorem dL_areQueues_235 : decode cL_areQueues 235 = .ok (.iload_n 3, 1) := by decide +kernel
theorem dL_areQueues_236 : decode cL_areQueues 236 = .ok (.iload 7, 2) := by decide +kernel
theorem dL_areQueues_238 : decode cL_areQueues 238 = .ok (.invokevirtual 129, 3) := by decide +kernel
theorem dL_areQueues_241 : decode cL_areQueues 241 = .ok (.ifCond .lt 29, 3) := by decide +kernel
theorem dL_areQueues_244 : decode cL_areQueues 244 = .ok (.aload_n 0, 1) := by decide +kernel
theorem dL_areQueues_245 : decode cL_areQueues 245 = .ok (.iload_n 3, 1) := by decide +kernel
theorem dL_areQueues_246 : decode cL_areQueues 246 = .ok (.iload 7, 2) := by decide +kernel
theorem dL_areQueues_248 : decode cL_areQueues 248 = .ok (.invokevirtual 129, 3) := by decide +kernel
theorem dL_areQueues_251 : decode cL_areQueues 251 = .ok (.ifCond .eq 15, 3) := by decide +kernel
theorem dL_areQueues_254 : decode cL_areQueues 254 = .ok (.lload 4, 2) := by decide +kernel
theorem dL_areQueues_256 : decode cL_areQueues 256 = .ok (.iload 7, 2) := by decide +kernel
theorem dL_areQueues_258 : decode cL_areQueues 258 = .ok (.lshr, 1) := by decide +kernel
theorem dL_areQueues_259 : decode cL_areQueues 259 = .ok (.lconst 1, 1) := by decide +kernel
theorem dL_areQueues_260 : decode cL_areQueues 260 = .ok (.land, 1) := by decide +kernel
theorem dL_areQueues_261 : decode cL_areQueues 261 = .ok (.lconst 1, 1) := by decide +kernel
theorem dL_areQueues_262 : decode cL_areQueues 262 = .ok (.lcmp, 1) := by decide +kernel
theorem dL_areQueues_263 : decode cL_areQueues 263 = .ok (.ifCond .ne 7, 3) := by decide +kernel
theorem dL_areQueues_266 : decode cL_areQueues 266 = .ok (.iconst 1, 1) := by decide +kernel
theorem dL_areQueues_267 : decode cL_areQueues 267 = .ok (.goto 4, 3) := by decide +kernel
theorem dL_areQueues_270 : decode cL_areQueues 270 = .ok (.iconst 0, 1) := by decide +kernel
theorem dL_areQueues_271 : decode cL_areQueues 271 = .ok (.istore_n 1, 1) := by decide +kernel
theorem dL_areQueues_272 : decode cL_areQueues 272 = .ok (.iinc 7 1, 3) := by decide +kernel
theorem dL_areQueues_275 : decode cL_areQueues 275 = .ok (.goto (-54), 3) := by decide +kernel
theorem dL_areQueues_278 : decode cL_areQueues 278 = .ok (.iinc 3 1, 3) := by decide +kernel
theorem dL_areQueues_281 : decode cL_areQueues 281 = .ok (.goto (-275), 3) := by decide +kernel
theorem dL_areQueues_284 : decode cL_areQueues 284 = .ok (.iload_n 1, 1) := by decide +kernel
theorem dL_areQueues_285 : decode cL_areQueues 285 = .ok (.ifCond .eq 15, 3) := by decide +kernel
theorem dL_areQueues_288 : decode cL_areQueues 288 = .ok (.aload_n 0, 1) := by decide +kernel
theorem dL_areQueues_289 : decode cL_areQueues 289 = .ok (.invokevirtual 164, 3) := by decide +kernel
theorem dL_areQueues_292 : decode cL_areQueues 292 = .ok (.iload_n 2, 1) := by decide +kernel
theorem dL_areQueues_293 : decode cL_areQueues 293 = .ok (.if_icmp .ne 7, 3) := by decide +kernel
theorem dL_areQueues_296 : decode cL_areQueues 296 = .ok (.iconst 1, 1) := by decide +kernel
theorem dL_areQueues_297 : decode cL_areQueues 297 = .ok (.goto 4, 3) := by decide +kernel
theorem dL_areQueues_300 : decode cL_areQueues 300 = .ok (.iconst 0, 1) := by decide +kernel
theorem dL_areQueues_301 : decode cL_areQueues 301 = .ok (.ireturn, 1) := by decide +kernel
end
