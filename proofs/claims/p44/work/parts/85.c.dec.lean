section
theorem dL_areObjects_0 : decode cL_areObjects 0 = .ok (.iconst 1, 1) := by decide +kernel
theorem dL_areObjects_1 : decode cL_areObjects 1 = .ok (.istore_n 1, 1) := by decide +kernel
theorem dL_areObjects_2 : decode cL_areObjects 2 = .ok (.iconst 0, 1) := by decide +kernel
theorem dL_areObjects_3 : decode cL_areObjects 3 = .ok (.istore_n 2, 1) := by decide +kernel
theorem dL_areObjects_4 : decode cL_areObjects 4 = .ok (.iload_n 2, 1) := by decide +kernel
theorem dL_areObjects_5 : decode cL_areObjects 5 = .ok (.aload_n 0, 1) := by decide +kernel
theorem dL_areObjects_6 : decode cL_areObjects 6 = .ok (.invokevirtual 155, 3) := by decide +kernel
theorem dL_areObjects_9 : decode cL_areObjects 9 = .ok (.if_icmp .ge 509, 3) := by decide +kernel
theorem dL_areObjects_12 : decode cL_areObjects 12 = .ok (.iload_n 1, 1) := by decide +kernel
theorem dL_areObjects_13 : decode cL_areObjects 13 = .ok (.ifCond .eq 505, 3) := by decide +kernel
theorem dL_areObjects_16 : decode cL_areObjects 16 = .ok (.aload_n 0, 1) := by decide +kernel
theorem dL_areObjects_17 : decode cL_areObjects 17 = .ok (.iload_n 2, 1) := by decide +kernel
theorem dL_areObjects_18 : decode cL_areObjects 18 = .ok (.invokevirtual 83, 3) := by decide +kernel
theorem dL_areObjects_21 : decode cL_areObjects 21 = .ok (.istore_n 3, 1) := by decide +kernel
theorem dL_areObjects_22 : decode cL_areObjects 22 = .ok (.aload_n 0, 1) := by decide +kernel
theorem dL_areObjects_23 : decode cL_areObjects 23 = .ok (.iload_n 2, 1) := by decide +kernel
theorem dL_areObjects_24 : decode cL_areObjects 24 = .ok (.invokevirtual 101, 3) := by decide +kernel
theorem dL_areObjects_27 : decode cL_areObjects 27 = .ok (.istore 4, 2) := by decide +kernel
theorem dL_areObjects_29 : decode cL_areObjects 29 = .ok (.iload 4, 2) := by decide +kernel
theorem dL_areObjects_31 : decode cL_areObjects 31 = .ok (.iload_n 2, 1) := by decide +kernel
theorem dL_areObjects_32 : decode cL_areObjects 32 = .ok (.if_icmp .ge 66, 3) := by decide +kernel
theorem dL_areObjects_35 : decode cL_areObjects 35 = .ok (.iload 4, 2) := by decide +kernel
theorem dL_areObjects_37 : decode cL_areObjects 37 = .ok (.iconst (-1), 1) := by decide +kernel
theorem dL_areObjects_38 : decode cL_areObjects 38 = .ok (.if_icmp .lt 60, 3) := by decide +kernel
theorem dL_areObjects_41 : decode cL_areObjects 41 = .ok (.iload 4, 2) := by decide +kernel
theorem dL_areObjects_43 : decode cL_areObjects 43 = .ok (.ifCond .lt 51, 3) := by decide +kernel
theorem dL_areObjects_46 : decode cL_areObjects 46 = .ok (.aload_n 0, 1) := by decide +kernel
theorem dL_areObjects_47 : decode cL_areObjects 47 = .ok (.iload_n 2, 1) := by decide +kernel
theorem dL_areObjects_48 : decode cL_areObjects 48 = .ok (.invokevirtual 98, 3) := by decide +kernel
theorem dL_areObjects_51 : decode cL_areObjects 51 = .ok (.iconst 4, 1) := by decide +kernel
theorem dL_areObjects_52 : decode cL_areObjects 52 = .ok (.if_icmp .ge 46, 3) := by decide +kernel
theorem dL_areObjects_55 : decode cL_areObjects 55 = .ok (.iload_n 3, 1) := by decide +kernel
theorem dL_areObjects_56 : decode cL_areObjects 56 = .ok (.iconst 1, 1) := by decide +kernel
theorem dL_areObjects_57 : decode cL_areObjects 57 = .ok (.if_icmp .ne 12, 3) := by decide +kernel
theorem dL_areObjects_60 : decode cL_areObjects 60 = .ok (.aload_n 0, 1) := by decide +kernel
theorem dL_areObjects_61 : decode cL_areObjects 61 = .ok (.iload 4, 2) := by decide +kernel
theorem dL_areObjects_63 : decode cL_areObjects 63 = .ok (.invokevirtual 83, 3) := by decide +kernel
theorem dL_areObjects_66 : decode cL_areObjects 66 = .ok (.ifCond .eq 28, 3) := by decide +kernel
theorem dL_areObjects_69 : decode cL_areObjects 69 = .ok (.iload_n 3, 1) := by decide +kernel
theorem dL_areObjects_70 : decode cL_areObjects 70 = .ok (.iconst 2, 1) := by decide +kernel
theorem dL_areObjects_71 : decode cL_areObjects 71 = .ok (.if_icmp .ne 27, 3) := by decide +kernel
theorem dL_areObjects_74 : decode cL_areObjects 74 = .ok (.aload_n 0, 1) := by decide +kernel
theorem dL_areObjects_75 : decode cL_areObjects 75 = .ok (.iload 4, 2) := by decide +kernel
theorem dL_areObjects_77 : decode cL_areObjects 77 = .ok (.invokevirtual 83, 3) := by decide +kernel
theorem dL_areObjects_80 : decode cL_areObjects 80 = .ok (.iconst 1, 1) := by decide +kernel
theorem dL_areObjects_81 : decode cL_areObjects 81 = .ok (.if_icmp .eq 13, 3) := by decide +kernel
theorem dL_areObjects_84 : decode cL_areObjects 84 = .ok (.aload_n 0, 1) := by decide +kernel
theorem dL_areObjects_85 : decode cL_areObjects 85 = .ok (.iload 4, 2) := by decide +kernel
theorem dL_areObjects_87 : decode cL_areObjects 87 = .ok (.invokevirtual 83, 3) := by decide +kernel
theorem dL_areObjects_90 : decode cL_areObjects 90 = .ok (.iconst 3, 1) := by decide +kernel
theorem dL_areObjects_91 : decode cL_areObjects 91 = .ok (.if_icmp .ne 7, 3) := by decide +kernel
theorem dL_areObjects_94 : decode cL_areObjects 94 = .ok (.iconst 1, 1) := by decide +kernel
theorem dL_areObjects_95 : decode cL_areObjects 95 = .ok (.goto 4, 3) := by decide +kernel
theorem dL_areObjects_98 : decode cL_areObjects 98 = .ok (.iconst 0, 1) := by decide +kernel
theorem dL_areObjects_99 : decode cL_areObjects 99 = .ok (.istore_n 1, 1) := by decide +kernel
theorem dL_areObjects_100 : decode cL_areObjects 100 = .ok (.iconst 0, 1) := by decide +kernel
theorem dL_areObjects_101 : decode cL_areObjects 101 = .ok (.istore 5, 2) := by decide +kernel
theorem dL_areObjects_103 : decode cL_areObjects 103 = .ok (.iload 5, 2) := by decide +kernel
theorem dL_areObjects_105 : decode cL_areObjects 105 = .ok (.bipush 11, 2) := by decide +kernel
theorem dL_areObjects_107 : decode cL_areObjects 107 = .ok (.if_icmp .ge 271, 3) := by decide +kernel
theorem dL_areObjects_110 : decode cL_areObjects 110 = .ok (.iload_n 1, 1) := by decide +kernel
theorem dL_areObjects_111 : decode cL_areObjects 111 = .ok (.ifCond .eq 267, 3) := by decide +kernel
theorem dL_areObjects_114 : decode cL_areObjects 114 = .ok (.iload_n 3, 1) := by decide +kernel
theorem dL_areObjects_115 : decode cL_areObjects 115 = .ok (.ifCond .ne 10, 3) := by decide +kernel
theorem dL_areObjects_118 : decode cL_areObjects 118 = .ok (.iload 5, 2) := by decide +kernel
theorem dL_areObjects_120 : decode cL_areObjects 120 = .ok (.bipush 7, 2) := by decide +kernel
theorem dL_areObjects_122 : decode cL_areObjects 122 = .ok (.if_icmp .lt 73, 3) := by decide +kernel
theorem dL_areObjects_125 : decode cL_areObjects 125 = .ok (.iload_n 3, 1) := by decide +kernel
theorem dL_areObjects_126 : decode cL_areObjects 126 = .ok (.iconst 1, 1) := by decide +kernel
theorem dL_areObjects_127 : decode cL_areObjects 127 = .ok (.if_icmp .ne 9, 3) := by decide +kernel
theorem dL_areObjects_130 : decode cL_areObjects 130 = .ok (.iload 5, 2) := by decide +kernel
theorem dL_areObjects_132 : decode cL_areObjects 132 = .ok (.iconst 2, 1) := by decide +kernel
theorem dL_areObjects_133 : decode cL_areObjects 133 = .ok (.if_icmp .lt 62, 3) := by decide +kernel
theorem dL_areObjects_136 : decode cL_areObjects 136 = .ok (.iload_n 3, 1) := by decide +kernel
theorem dL_areObjects_137 : decode cL_areObjects 137 = .ok (.iconst 2, 1) := by decide +kernel
theorem dL_areObjects_138 : decode cL_areObjects 138 = .ok (.if_icmp .ne 9, 3) := by decide +kernel
theorem dL_areObjects_141 : decode cL_areObjects 141 = .ok (.iload 5, 2) := by decide +kernel
theorem dL_areObjects_143 : decode cL_areObjects 143 = .ok (.iconst 1, 1) := by decide +kernel
theorem dL_areObjects_144 : decode cL_areObjects 144 = .ok (.if_icmp .eq 51, 3) := by decide +kernel
theorem dL_areObjects_147 : decode cL_areObjects 147 = .ok (.iload_n 3, 1) := by decide +kernel
theorem dL_areObjects_148 : decode cL_areObjects 148 = .ok (.iconst 3, 1) := by decide +kernel
theorem dL_areObjects_149 : decode cL_areObjects 149 = .ok (.if_icmp .ne 16, 3) := by decide +kernel
theorem dL_areObjects_152 : decode cL_areObjects 152 = .ok (.iload 5, 2) := by decide +kernel
theorem dL_areObjects_154 : decode cL_areObjects 154 = .ok (.iconst 2, 1) := by decide +kernel
theorem dL_areObjects_155 : decode cL_areObjects 155 = .ok (.if_icmp .lt 40, 3) := by decide +kernel
theorem dL_areObjects_158 : decode cL_areObjects 158 = .ok (.iload 5, 2) := by decide +kernel
theorem dL_areObjects_160 : decode cL_areObjects 160 = .ok (.bipush 10, 2) := by decide +kernel
theorem dL_areObjects_162 : decode cL_areObjects 162 = .ok (.if_icmp .eq 33, 3) := by decide +kernel
theorem dL_areObjects_165 : decode cL_areObjects 165 = .ok (.iload_n 3, 1) := by decide +kernel
theorem dL_areObjects_166 : decode cL_areObjects 166 = .ok (.iconst 4, 1) := by decide +kernel
theorem dL_areObjects_167 : decode cL_areObjects 167 = .ok (.if_icmp .ne 17, 3) := by decide +kernel
theorem dL_areObjects_170 : decode cL_areObjects 170 = .ok (.iload 5, 2) := by decide +kernel
theorem dL_areObjects_172 : decode cL_areObjects 172 = .ok (.bipush 6, 2) := by decide +kernel
theorem dL_areObjects_174 : decode cL_areObjects 174 = .ok (.if_icmp .le 10, 3) := by decide +kernel
theorem dL_areObjects_177 : decode cL_areObjects 177 = .ok (.iload 5, 2) := by decide +kernel
theorem dL_areObjects_179 : decode cL_areObjects 179 = .ok (.bipush 10, 2) := by decide +kernel
theorem dL_areObjects_181 : decode cL_areObjects 181 = .ok (.if_icmp .lt 14, 3) := by decide +kernel
theorem dL_areObjects_184 : decode cL_areObjects 184 = .ok (.iload_n 3, 1) := by decide +kernel
theorem dL_areObjects_185 : decode cL_areObjects 185 = .ok (.iconst 5, 1) := by decide +kernel
theorem dL_areObjects_186 : decode cL_areObjects 186 = .ok (.if_icmp .ne 13, 3) := by decide +kernel
theorem dL_areObjects_189 : decode cL_areObjects 189 = .ok (.iload 5, 2) := by decide +kernel
theorem dL_areObjects_191 : decode cL_areObjects 191 = .ok (.iconst 1, 1) := by decide +kernel
theorem dL_areObjects_192 : decode cL_areObjects 192 = .ok (.if_icmp .ne 7, 3) := by decide +kernel
theorem dL_areObjects_195 : decode cL_areObjects 195 = .ok (.iconst 1, 1) := by decide +kernel
theorem dL_areObjects_196 : decode cL_areObjects 196 = .ok (.goto 4, 3) := by decide +kernel
theorem dL_areObjects_199 : decode cL_areObjects 199 = .ok (.iconst 0, 1) := by decide +kernel
theorem dL_areObjects_200 : decode cL_areObjects 200 = .ok (.istore 6, 2) := by decide +kernel
theorem dL_areObjects_202 : decode cL_areObjects 202 = .ok (.aload_n 0, 1) := by decide +kernel
theorem dL_areObjects_203 : decode cL_areObjects 203 = .ok (.iconst 1, 1) := by decide +kernel
theorem dL_areObjects_204 : decode cL_areObjects 204 = .ok (.iload_n 2, 1) := by decide +kernel
theorem dL_areObjects_205 : decode cL_areObjects 205 = .ok (.iload 5, 2) := by decide +kernel
theorem dL_areObjects_207 : decode cL_areObjects 207 = .ok (.iconst 0, 1) := by decide +kernel
theorem dL_areObjects_208 : decode cL_areObjects 208 = .ok (.invokestatic 141, 3) := by decide +kernel
theorem dL_areObjects_211 : decode cL_areObjects 211 = .ok (.istore 7, 2) := by decide +kernel
theorem dL_areObjects_213 : decode cL_areObjects 213 = .ok (.iload 5, 2) := by decide +kernel
theorem dL_areObjects_215 : decode cL_areObjects 215 = .ok (.bipush 6, 2) := by decide +kernel
theorem dL_areObjects_217 : decode cL_areObjects 217 = .ok (.if_icmp .ne 8, 3) := by decide +kernel
theorem dL_areObjects_220 : decode cL_areObjects 220 = .ok (.bipush 99, 2) := by decide +kernel
theorem dL_areObjects_222 : decode cL_areObjects 222 = .ok (.goto 61, 3) := by decide +kernel
theorem dL_areObjects_225 : decode cL_areObjects 225 = .ok (.iload 5, 2) := by decide +kernel
theorem dL_areObjects_227 : decode cL_areObjects 227 = .ok (.iconst 1, 1) := by decide +kernel
theorem dL_areObjects_228 : decode cL_areObjects 228 = .ok (.if_icmp .eq 10, 3) := by decide +kernel
theorem dL_areObjects_231 : decode cL_areObjects 231 = .ok (.iload 5, 2) := by decide +kernel
theorem dL_areObjects_233 : decode cL_areObjects 233 = .ok (.bipush 7, 2) := by decide +kernel
theorem dL_areObjects_235 : decode cL_areObjects 235 = .ok (.if_icmp .ne 8, 3) := by decide +kernel
theorem dL_areObjects_238 : decode cL_areObjects 238 = .ok (.bipush 9, 2) := by decide +kernel
theorem dL_areObjects_240 : decode cL_areObjects 240 = .ok (.goto 43, 3) := by decide +kernel
theorem dL_areObjects_243 : decode cL_areObjects 243 = .ok (.iload 5, 2) := by decide +kernel
theorem dL_areObjects_245 : decode cL_areObjects 245 = .ok (.iconst 4, 1) := by decide +kernel
theorem dL_areObjects_246 : decode cL_areObjects 246 = .ok (.if_icmp .eq 10, 3) := by decide +kernel
theorem dL_areObjects_249 : decode cL_areObjects 249 = .ok (.iload 5, 2) := by decide +kernel
theorem dL_areObjects_251 : decode cL_areObjects 251 = .ok (.bipush 9, 2) := by decide +kernel
theorem dL_areObjects_253 : decode cL_areObjects 253 = .ok (.if_icmp .ne 7, 3) := by decide +kernel
theorem dL_areObjects_256 : decode cL_areObjects 256 = .ok (.iconst 1, 1) := by decide +kernel
theorem dL_areObjects_257 : decode cL_areObjects 257 = .ok (.goto 26, 3) := by decide +kernel
theorem dL_areObjects_260 : decode cL_areObjects 260 = .ok (.iload 5, 2) := by decide +kernel
theorem dL_areObjects_262 : decode cL_areObjects 262 = .ok (.ifCond .eq 16, 3) := by decide +kernel
theorem dL_areObjects_265 : decode cL_areObjects 265 = .ok (.iload 5, 2) := by decide +kernel
theorem dL_areObjects_267 : decode cL_areObjects 267 = .ok (.iconst 5, 1) := by decide +kernel
theorem dL_areObjects_268 : decode cL_areObjects 268 = .ok (.if_icmp .eq 10, 3) := by decide +kernel
theorem dL_areObjects_271 : decode cL_areObjects 271 = .ok (.iload 5, 2) := by decide +kernel
theorem dL_areObjects_273 : decode cL_areObjects 273 = .ok (.bipush 10, 2) := by decide +kernel
theorem dL_areObjects_275 : decode cL_areObjects 275 = .ok (.if_icmp .ne 7, 3) := by decide +kernel
theorem dL_areObjects_278 : decode cL_areObjects 278 = .ok (.iconst 5, 1) := by decide +kernel
theorem dL_areObjects_279 : decode cL_areObjects 279 = .ok (.goto 4, 3) := by decide +kernel
theorem dL_areObjects_282 : decode cL_areObjects 282 = .ok (.iconst 2, 1) := by decide +kernel
theorem dL_areObjects_283 : decode cL_areObjects 283 = .ok (.istore 8, 2) := by decide +kernel
theorem dL_areObjects_285 : decode cL_areObjects 285 = .ok (.iload 6, 2) := by decide +kernel
theorem dL_areObjects_287 : decode cL_areObjects 287 = .ok (.ifCond .eq 56, 3) := by decide +kernel
theorem dL_areObjects_290 : decode cL_areObjects 290 = .ok (.iload 7, 2) := by decide +kernel
theorem dL_areObjects_292 : decode cL_areObjects 292 = .ok (.iload 5, 2) := by decide +kernel
theorem dL_areObjects_294 : decode cL_areObjects 294 = .ok (.bipush 10, 2) := by decide +kernel
theorem dL_areObjects_296 : decode cL_areObjects 296 = .ok (.if_icmp .ne 7, 3) := by decide +kernel
theorem dL_areObjects_299 : decode cL_areObjects 299 = .ok (.iconst 1, 1) := by decide +kernel
theorem dL_areObjects_300 : decode cL_areObjects 300 = .ok (.goto 4, 3) := by decide +kernel
theorem dL_areObjects_303 : decode cL_areObjects 303 = .ok (.iconst 0, 1) := by decide +kernel
theorem dL_areObjects_304 : decode cL_areObjects 304 = .ok (.if_icmp .lt 35, 3) := by decide +kernel
theorem dL_areObjects_307 : decode cL_areObjects 307 = .ok (.iload 7, 2) := by decide +kernel
theorem dL_areObjects_309 : decode cL_areObjects 309 = .ok (.iload 8, 2) := by decide +kernel
theorem dL_areObjects_311 : decode cL_areObjects 311 = .ok (.if_icmp .gt 28, 3) := by decide +kernel
theorem dL_areObjects_314 : decode cL_areObjects 314 = .ok (.aload_n 0, 1) := by decide +kernel
theorem dL_areObjects_315 : decode cL_areObjects 315 = .ok (.iload_n 2, 1) := by decide +kernel
theorem dL_areObjects_316 : decode cL_areObjects 316 = .ok (.iload 5, 2) := by decide +kernel
theorem dL_areObjects_318 : decode cL_areObjects 318 = .ok (.invokevirtual 89, 3) := by decide +kernel
theorem dL_areObjects_321 : decode cL_areObjects 321 = .ok (.ifCond .lt 18, 3) := by decide +kernel
theorem dL_areObjects_324 : decode cL_areObjects 324 = .ok (.aload_n 0, 1) := by decide +kernel
theorem dL_areObjects_325 : decode cL_areObjects 325 = .ok (.iload_n 2, 1) := by decide +kernel
theorem dL_areObjects_326 : decode cL_areObjects 326 = .ok (.iload 5, 2) := by decide +kernel
theorem dL_areObjects_328 : decode cL_areObjects 328 = .ok (.invokevirtual 89, 3) := by decide +kernel
theorem dL_areObjects_331 : decode cL_areObjects 331 = .ok (.iconst 5, 1) := by decide +kernel
theorem dL_areObjects_332 : decode cL_areObjects 332 = .ok (.if_icmp .gt 7, 3) := by decide +kernel
theorem dL_areObjects_335 : decode cL_areObjects 335 = .ok (.iconst 1, 1) := by decide +kernel
theorem dL_areObjects_336 : decode cL_areObjects 336 = .ok (.goto 35, 3) := by decide +kernel
theorem dL_areObjects_339 : decode cL_areObjects 339 = .ok (.iconst 0, 1) := by decide +kernel
theorem dL_areObjects_340 : decode cL_areObjects 340 = .ok (.goto 31, 3) := by decide +kernel
theorem dL_areObjects_343 : decode cL_areObjects 343 = .ok (.iload 7, 2) := by decide +kernel
theorem dL_areObjects_345 : decode cL_areObjects 345 = .ok (.sipush (-1272), 3) := by decide +kernel
theorem dL_areObjects_348 : decode cL_areObjects 348 = .ok (.if_icmp .ne 22, 3) := by decide +kernel
theorem dL_areObjects_351 : decode cL_areObjects 351 = .ok (.aload_n 0, 1) := by decide +kernel
theorem dL_areObjects_352 : decode cL_areObjects 352 = .ok (.iconst 2, 1) := by decide +kernel
theorem dL_areObjects_353 : decode cL_areObjects 353 = .ok (.iload_n 2, 1) := by decide +kernel
theorem dL_areObjects_354 : decode cL_areObjects 354 = .ok (.iload 5, 2) := by decide +kernel
theorem dL_areObjects_356 : decode cL_areObjects 356 = .ok (.iconst 0, 1) := by decide +kernel
theorem dL_areObjects_357 : decode cL_areObjects 357 = .ok (.invokestatic 141, 3) := by decide +kernel
theorem dL_areObjects_360 : decode cL_areObjects 360 = .ok (.sipush (-1272), 3) := by decide +kernel
theorem dL_areObjects_363 : decode cL_areObjects 363 = .ok (.if_icmp .ne 7, 3) := by decide +kernel
theorem dL_areObjects_366 : decode cL_areObjects 366 = .ok (.iconst 1, 1) := by decide +kernel
theorem dL_areObjects_367 : decode cL_areObjects 367 = .ok (.goto 4, 3) := by decide +kernel
theorem dL_areObjects_370 : decode cL_areObjects 370 = .ok (.iconst 0, 1) := by decide +kernel
theorem dL_areObjects_371 : decode cL_areObjects 371 = .ok (.istore_n 1, 1) := by decide +kernel
theorem dL_areObjects_372 : decode cL_areObjects 372 = .ok (.iinc 5 1, 3) := by decide +kernel
theorem dL_areObjects_375 : decode cL_areObjects 375 = .ok (.goto (-272), 3) := by decide +kernel
theorem dL_areObjects_378 : decode cL_areObjects 378 = .ok (.iload_n 1, 1) := by decide +kernel
theorem dL_areObjects_379 : decode cL_areObjects 379 = .ok (.ifCond .eq 60, 3) := by decide +kernel
theorem dL_areObjects_382 : decode cL_areObjects 382 = .ok (.iload_n 3, 1) := by decide +kernel
theorem dL_areObjects_383 : decode cL_areObjects 383 = .ok (.ifCond .ne 56, 3) := by decide +kernel
theorem dL_areObjects_386 : decode cL_areObjects 386 = .ok (.aload_n 0, 1) := by decide +kernel
theorem dL_areObjects_387 : decode cL_areObjects 387 = .ok (.iload_n 2, 1) := by decide +kernel
theorem dL_areObjects_388 : decode cL_areObjects 388 = .ok (.invokevirtual 92, 3) := by decide +kernel
theorem dL_areObjects_391 : decode cL_areObjects 391 = .ok (.bipush 10, 2) := by decide +kernel
theorem dL_areObjects_393 : decode cL_areObjects 393 = .ok (.aload_n 0, 1) := by decide +kernel
theorem dL_areObjects_394 : decode cL_areObjects 394 = .ok (.iload_n 2, 1) := by decide +kernel
theorem dL_areObjects_395 : decode cL_areObjects 395 = .ok (.iconst 2, 1) := by decide +kernel
theorem dL_areObjects_396 : decode cL_areObjects 396 = .ok (.invokevirtual 86, 3) := by decide +kernel
theorem dL_areObjects_399 : decode cL_areObjects 399 = .ok (.imul, 1) := by decide +kernel
theorem dL_areObjects_400 : decode cL_areObjects 400 = .ok (.aload_n 0, 1) := by decide +kernel
theorem dL_areObjects_401 : decode cL_areObjects 401 = .ok (.iload_n 2, 1) := by decide +kernel
theorem dL_areObjects_402 : decode cL_areObjects 402 = .ok (.iconst 3, 1) := by decide +kernel
theorem dL_areObjects_403 : decode cL_areObjects 403 = .ok (.invokevirtual 86, 3) := by decide +kernel
theorem dL_areObjects_406 : decode cL_areObjects 406 = .ok (.iadd, 1) := by decide +kernel
theorem dL_areObjects_407 : decode cL_areObjects 407 = .ok (.if_icmp .ne 30, 3) := by decide +kernel
theorem dL_areObjects_410 : decode cL_areObjects 410 = .ok (.aload_n 0, 1) := by decide +kernel
theorem dL_areObjects_411 : decode cL_areObjects 411 = .ok (.iload_n 2, 1) := by decide +kernel
theorem dL_areObjects_412 : decode cL_areObjects 412 = .ok (.invokevirtual 92, 3) := by decide +kernel
theorem dL_areObjects_415 : decode cL_areObjects 415 = .ok (.ifCond .le 22, 3) := by decide +kernel
theorem dL_areObjects_418 : decode cL_areObjects 418 = .ok (.aload_n 0, 1) := by decide +kernel
theorem dL_areObjects_419 : decode cL_areObjects 419 = .ok (.iload_n 2, 1) := by decide +kernel
theorem dL_areObjects_420 : decode cL_areObjects 420 = .ok (.iconst 1, 1) := by decide +kernel
theorem dL_areObjects_421 : decode cL_areObjects 421 = .ok (.invokevirtual 117, 3) := by decide +kernel
theorem dL_areObjects_424 : decode cL_areObjects 424 = .ok (.aload_n 0, 1) := by decide +kernel
theorem dL_areObjects_425 : decode cL_areObjects 425 = .ok (.iload_n 2, 1) := by decide +kernel
theorem dL_areObjects_426 : decode cL_areObjects 426 = .ok (.iconst 0, 1) := by decide +kernel
theorem dL_areObjects_427 : decode cL_areObjects 427 = .ok (.invokevirtual 117, 3) := by decide +kernel
theorem dL_areObjects_430 : decode cL_areObjects 430 = .ok (.if_icmp .gt 7, 3) := by decide +kernel
theorem dL_areObjects_433 : decode cL_areObjects 433 = .ok (.iconst 1, 1) := by decide +kernel
theorem dL_areObjects_434 : decode cL_areObjects 434 = .ok (.goto 4, 3) := by decide +kernel
theorem dL_areObjects_437 : decode cL_areObjects 437 = .ok (.iconst 0, 1) := by decide +kernel
theorem dL_areObjects_438 : decode cL_areObjects 438 = .ok (.istore_n 1, 1) := by decide +kernel
theorem dL_areObjects_439 : decode cL_areObjects 439 = .ok (.iload_n 1, 1) := by decide +kernel
theorem dL_areObjects_440 : decode cL_areObjects 440 = .ok (.ifCond .eq 72, 3) := by decide +kernel
theorem dL_areObjects_443 : decode cL_areObjects 443 = .ok (.iload_n 3, 1) := by decide +kernel
theorem dL_areObjects_444 : decode cL_areObjects 444 = .ok (.iconst 2, 1) := by decide +kernel
theorem dL_areObjects_445 : decode cL_areObjects 445 = .ok (.if_icmp .ne 67, 3) := by decide +kernel
theorem dL_areObjects_448 : decode cL_areObjects 448 = .ok (.aload_n 0, 1) := by decide +kernel
theorem dL_areObjects_449 : decode cL_areObjects 449 = .ok (.iload_n 2, 1) := by decide +kernel
theorem dL_areObjects_450 : decode cL_areObjects 450 = .ok (.invokevirtual 107, 3) := by decide +kernel
theorem dL_areObjects_453 : decode cL_areObjects 453 = .ok (.istore 5, 2) := by decide +kernel
theorem dL_areObjects_455 : decode cL_areObjects 455 = .ok (.iload 5, 2) := by decide +kernel
theorem dL_areObjects_457 : decode cL_areObjects 457 = .ok (.iconst (-1), 1) := by decide +kernel
theorem dL_areObjects_458 : decode cL_areObjects 458 = .ok (.if_icmp .lt 52, 3) := by decide +kernel
theorem dL_areObjects_461 : decode cL_areObjects 461 = .ok (.iload 5, 2) := by decide +kernel
theorem dL_areObjects_463 : decode cL_areObjects 463 = .ok (.ifCond .lt 22, 3) := by decide +kernel
theorem dL_areObjects_466 : decode cL_areObjects 466 = .ok (.aload_n 0, 1) := by decide +kernel
theorem dL_areObjects_467 : decode cL_areObjects 467 = .ok (.iload 5, 2) := by decide +kernel
theorem dL_areObjects_469 : decode cL_areObjects 469 = .ok (.invokevirtual 83, 3) := by decide +kernel
theorem dL_areObjects_472 : decode cL_areObjects 472 = .ok (.iconst 4, 1) := by decide +kernel
theorem dL_areObjects_473 : decode cL_areObjects 473 = .ok (.if_icmp .ne 37, 3) := by decide +kernel
theorem dL_areObjects_476 : decode cL_areObjects 476 = .ok (.aload_n 0, 1) := by decide +kernel
theorem dL_areObjects_477 : decode cL_areObjects 477 = .ok (.iload_n 2, 1) := by decide +kernel
theorem dL_areObjects_478 : decode cL_areObjects 478 = .ok (.invokevirtual 98, 3) := by decide +kernel
theorem dL_areObjects_481 : decode cL_areObjects 481 = .ok (.iconst 4, 1) := by decide +kernel
theorem dL_areObjects_482 : decode cL_areObjects 482 = .ok (.if_icmp .ge 28, 3) := by decide +kernel
theorem dL_areObjects_485 : decode cL_areObjects 485 = .ok (.aload_n 0, 1) := by decide +kernel
theorem dL_areObjects_486 : decode cL_areObjects 486 = .ok (.iload_n 2, 1) := by decide +kernel
theorem dL_areObjects_487 : decode cL_areObjects 487 = .ok (.invokevirtual 104, 3) := by decide +kernel
theorem dL_areObjects_490 : decode cL_areObjects 490 = .ok (.ifCond .eq 16, 3) := by decide +kernel
theorem dL_areObjects_493 : decode cL_areObjects 493 = .ok (.iload 5, 2) := by decide +kernel
theorem dL_areObjects_495 : decode cL_areObjects 495 = .ok (.ifCond .ge 11, 3) := by decide +kernel
theorem dL_areObjects_498 : decode cL_areObjects 498 = .ok (.aload_n 0, 1) := by decide +kernel
theorem dL_areObjects_499 : decode cL_areObjects 499 = .ok (.iload_n 2, 1) := by decide +kernel
theorem dL_areObjects_500 : decode cL_areObjects 500 = .ok (.invokevirtual 98, 3) := by decide +kernel
theorem dL_areObjects_503 : decode cL_areObjects 503 = .ok (.ifCond .le 7, 3) := by decide +kernel
theorem dL_areObjects_506 : decode cL_areObjects 506 = .ok (.iconst 1, 1) := by decide +kernel
theorem dL_areObjects_507 : decode cL_areObjects 507 = .ok (.goto 4, 3) := by decide +kernel
theorem dL_areObjects_510 : decode cL_areObjects 510 = .ok (.iconst 0, 1) := by decide +kernel
theorem dL_areObjects_511 : decode cL_areObjects 511 = .ok (.istore_n 1, 1) := by decide +kernel
theorem dL_areObjects_512 : decode cL_areObjects 512 = .ok (.iinc 2 1, 3) := by decide +kernel
theorem dL_areObjects_515 : decode cL_areObjects 515 = .ok (.goto (-511), 3) := by decide +kernel
theorem dL_areObjects_518 : decode cL_areObjects 518 = .ok (.iload_n 1, 1) := by decide +kernel
theorem dL_areObjects_519 : decode cL_areObjects 519 = .ok (.ireturn, 1) := by decide +kernel
theorem dL_isAtRest_0 : decode cL_isAtRest 0 = .ok (.iconst 1, 1) := by decide +kernel
theorem dL_isAtRest_1 : decode cL_isAtRest 1 = .ok (.istore_n 1, 1) := by decide +kernel
theorem dL_isAtRest_2 : decode cL_isAtRest 2 = .ok (.iconst 0, 1) := by decide +kernel
theorem dL_isAtRest_3 : decode cL_isAtRest 3 = .ok (.istore_n 2, 1) := by decide +kernel
theorem dL_isAtRest_4 : decode cL_isAtRest 4 = .ok (.iload_n 2, 1) := by decide +kernel
theorem dL_isAtRest_5 : decode cL_isAtRest 5 = .ok (.aload_n 0, 1) := by decide +kernel
theorem dL_isAtRest_6 : decode cL_isAtRest 6 = .ok (.invokevirtual 155, 3) := by decide +kernel
theorem dL_isAtRest_9 : decode cL_isAtRest 9 = .ok (.if_icmp .ge 52, 3) := by decide +kernel
theorem dL_isAtRest_12 : decode cL_isAtRest 12 = .ok (.iload_n 1, 1) := by decide +kernel
theorem dL_isAtRest_13 : decode cL_isAtRest 13 = .ok (.ifCond .eq 48, 3) := by decide +kernel
theorem dL_isAtRest_16 : decode cL_isAtRest 16 = .ok (.aload_n 0, 1) := by decide +kernel
theorem dL_isAtRest_17 : decode cL_isAtRest 17 = .ok (.iload_n 2, 1) := by decide +kernel
theorem dL_isAtRest_18 : decode cL_isAtRest 18 = .ok (.invokevirtual 83, 3) := by decide +kernel
theorem dL_isAtRest_21 : decode cL_isAtRest 21 = .ok (.iconst 4, 1) := by decide +kernel
theorem dL_isAtRest_22 : decode cL_isAtRest 22 = .ok (.if_icmp .ne 27, 3) := by decide +kernel
theorem dL_isAtRest_25 : decode cL_isAtRest 25 = .ok (.aload_n 0, 1) := by decide +kernel
theorem dL_isAtRest_26 : decode cL_isAtRest 26 = .ok (.iload_n 2, 1) := by decide +kernel
theorem dL_isAtRest_27 : decode cL_isAtRest 27 = .ok (.invokevirtual 98, 3) := by decide +kernel
theorem dL_isAtRest_30 : decode cL_isAtRest 30 = .ok (.iconst 4, 1) := by decide +kernel
theorem dL_isAtRest_31 : decode cL_isAtRest 31 = .ok (.if_icmp .eq 18, 3) := by decide +kernel
theorem dL_isAtRest_34 : decode cL_isAtRest 34 = .ok (.aload_n 0, 1) := by decide +kernel
theorem dL_isAtRest_35 : decode cL_isAtRest 35 = .ok (.bipush 16, 2) := by decide +kernel
theorem dL_isAtRest_37 : decode cL_isAtRest 37 = .ok (.iload_n 2, 1) := by decide +kernel
theorem dL_isAtRest_38 : decode cL_isAtRest 38 = .ok (.iconst 0, 1) := by decide +kernel
theorem dL_isAtRest_39 : decode cL_isAtRest 39 = .ok (.iconst 0, 1) := by decide +kernel
theorem dL_isAtRest_40 : decode cL_isAtRest 40 = .ok (.iconst 0, 1) := by decide +kernel
theorem dL_isAtRest_41 : decode cL_isAtRest 41 = .ok (.iconst 0, 1) := by decide +kernel
theorem dL_isAtRest_42 : decode cL_isAtRest 42 = .ok (.iconst 0, 1) := by decide +kernel
theorem dL_isAtRest_43 : decode cL_isAtRest 43 = .ok (.invokestatic 168, 3) := by decide +kernel
theorem dL_isAtRest_46 : decode cL_isAtRest 46 = .ok (.ifCond .lt 7, 3) := by decide +kernel
theorem dL_isAtRest_49 : decode cL_isAtRest 49 = .ok (.iconst 1, 1) := by decide +kernel
theorem dL_isAtRest_50 : decode cL_isAtRest 50 = .ok (.goto 4, 3) := by decide +kernel
theorem dL_isAtRest_53 : decode cL_isAtRest 53 = .ok (.iconst 0, 1) := by decide +kernel
theorem dL_isAtRest_54 : decode cL_isAtRest 54 = .ok (.istore_n 1, 1) := by decide +kernel
theorem dL_isAtRest_55 : decode cL_isAtRest 55 = .ok (.iinc 2 1, 3) := by decide +kernel
theorem dL_isAtRest_58 : decode cL_isAtRest 58 = .ok (.goto (-54), 3) := by decide +kernel
theorem dL_isAtRest_61 : decode cL_isAtRest 61 = .ok (.iconst (-1), 1) := by decide +kernel
theorem dL_isAtRest_62 : decode cL_isAtRest 62 = .ok (.istore_n 2, 1) := by decide +kernel
theorem dL_isAtRest_63 : decode cL_isAtRest 63 = .ok (.iconst 0, 1) := by decide +kernel
theorem dL_isAtRest_64 : decode cL_isAtRest 64 = .ok (.istore_n 3, 1) := by decide +kernel
theorem dL_isAtRest_65 : decode cL_isAtRest 65 = .ok (.iload_n 3, 1) := by decide +kernel
theorem dL_isAtRest_66 : decode cL_isAtRest 66 = .ok (.bipush 12, 2) := by decide +kernel
theorem dL_isAtRest_68 : decode cL_isAtRest 68 = .ok (.if_icmp .ge 78, 3) := by decide +kernel
theorem dL_isAtRest_71 : decode cL_isAtRest 71 = .ok (.iload_n 1, 1) := by decide +kernel
theorem dL_isAtRest_72 : decode cL_isAtRest 72 = .ok (.ifCond .eq 74, 3) := by decide +kernel
theorem dL_isAtRest_75 : decode cL_isAtRest 75 = .ok (.iload_n 2, 1) := by decide +kernel
theorem dL_isAtRest_76 : decode cL_isAtRest 76 = .ok (.aload_n 0, 1) := by decide +kernel
theorem dL_isAtRest_77 : decode cL_isAtRest 77 = .ok (.invokevirtual 151, 3) := by decide +kernel
theorem dL_isAtRest_80 : decode cL_isAtRest 80 = .ok (.if_icmp .eq 66, 3) := by decide +kernel
theorem dL_isAtRest_83 : decode cL_isAtRest 83 = .ok (.aload_n 0, 1) := by decide +kernel
theorem dL_isAtRest_84 : decode cL_isAtRest 84 = .ok (.invokevirtual 151, 3) := by decide +kernel
theorem dL_isAtRest_87 : decode cL_isAtRest 87 = .ok (.sipush 330, 3) := by decide +kernel
theorem dL_isAtRest_90 : decode cL_isAtRest 90 = .ok (.if_icmp .ge 56, 3) := by decide +kernel
theorem dL_isAtRest_93 : decode cL_isAtRest 93 = .ok (.aload_n 0, 1) := by decide +kernel
theorem dL_isAtRest_94 : decode cL_isAtRest 94 = .ok (.invokevirtual 151, 3) := by decide +kernel
theorem dL_isAtRest_97 : decode cL_isAtRest 97 = .ok (.istore_n 2, 1) := by decide +kernel
theorem dL_isAtRest_98 : decode cL_isAtRest 98 = .ok (.aload_n 0, 1) := by decide +kernel
theorem dL_isAtRest_99 : decode cL_isAtRest 99 = .ok (.bipush 11, 2) := by decide +kernel
theorem dL_isAtRest_101 : decode cL_isAtRest 101 = .ok (.iconst 2, 1) := by decide +kernel
theorem dL_isAtRest_102 : decode cL_isAtRest 102 = .ok (.iconst 0, 1) := by decide +kernel
theorem dL_isAtRest_103 : decode cL_isAtRest 103 = .ok (.iconst 0, 1) := by decide +kernel
theorem dL_isAtRest_104 : decode cL_isAtRest 104 = .ok (.iconst 0, 1) := by decide +kernel
theorem dL_isAtRest_105 : decode cL_isAtRest 105 = .ok (.iconst 0, 1) := by decide +kernel
theorem dL_isAtRest_106 : decode cL_isAtRest 106 = .ok (.iconst 0, 1) := by decide +kernel
theorem dL_isAtRest_107 : decode cL_isAtRest 107 = .ok (.invokestatic 168, 3) := by decide +kernel
theorem dL_isAtRest_110 : decode cL_isAtRest 110 = .ok (.aload_n 0, 1) := by decide +kernel
theorem dL_isAtRest_111 : decode cL_isAtRest 111 = .ok (.invokevirtual 151, 3) := by decide +kernel
theorem dL_isAtRest_114 : decode cL_isAtRest 114 = .ok (.iload_n 2, 1) := by decide +kernel
theorem dL_isAtRest_115 : decode cL_isAtRest 115 = .ok (.isub, 1) := by decide +kernel
theorem dL_isAtRest_116 : decode cL_isAtRest 116 = .ok (.if_icmp .ne 22, 3) := by decide +kernel
theorem dL_isAtRest_119 : decode cL_isAtRest 119 = .ok (.aload_n 0, 1) := by decide +kernel
theorem dL_isAtRest_120 : decode cL_isAtRest 120 = .ok (.bipush 15, 2) := by decide +kernel
theorem dL_isAtRest_122 : decode cL_isAtRest 122 = .ok (.iconst 1, 1) := by decide +kernel
theorem dL_isAtRest_123 : decode cL_isAtRest 123 = .ok (.iconst 0, 1) := by decide +kernel
theorem dL_isAtRest_124 : decode cL_isAtRest 124 = .ok (.iconst 0, 1) := by decide +kernel
theorem dL_isAtRest_125 : decode cL_isAtRest 125 = .ok (.iconst 0, 1) := by decide +kernel
theorem dL_isAtRest_126 : decode cL_isAtRest 126 = .ok (.iconst 0, 1) := by decide +kernel
theorem dL_isAtRest_127 : decode cL_isAtRest 127 = .ok (.iconst 0, 1) := by decide +kernel
theorem dL_isAtRest_128 : decode cL_isAtRest 128 = .ok (.invokestatic 168, 3) := by decide +kernel
theorem dL_isAtRest_131 : decode cL_isAtRest 131 = .ok (.ifCond .le 7, 3) := by decide +kernel
theorem dL_isAtRest_134 : decode cL_isAtRest 134 = .ok (.iconst 1, 1) := by decide +kernel
theorem dL_isAtRest_135 : decode cL_isAtRest 135 = .ok (.goto 4, 3) := by decide +kernel
theorem dL_isAtRest_138 : decode cL_isAtRest 138 = .ok (.iconst 0, 1) := by decide +kernel
theorem dL_isAtRest_139 : decode cL_isAtRest 139 = .ok (.istore_n 1, 1) := by decide +kernel
theorem dL_isAtRest_140 : decode cL_isAtRest 140 = .ok (.iinc 3 1, 3) := by decide +kernel
theorem dL_isAtRest_143 : decode cL_isAtRest 143 = .ok (.goto (-78), 3) := by decide +kernel
theorem dL_isAtRest_146 : decode cL_isAtRest 146 = .ok (.iload_n 1, 1) := by decide +kernel
theorem dL_isAtRest_147 : decode cL_isAtRest 147 = .ok (.ifCond .eq 18, 3) := by decide +kernel
theorem dL_isAtRest_150 : decode cL_isAtRest 150 = .ok (.iload_n 2, 1) := by decide +kernel
theorem dL_isAtRest_151 : decode cL_isAtRest 151 = .ok (.aload_n 0, 1) := by decide +kernel
theorem dL_isAtRest_152 : decode cL_isAtRest 152 = .ok (.invokevirtual 151, 3) := by decide +kernel
theorem dL_isAtRest_155 : decode cL_isAtRest 155 = .ok (.if_icmp .ne 10, 3) := by decide +kernel
theorem dL_isAtRest_158 : decode cL_isAtRest 158 = .ok (.aload_n 0, 1) := by decide +kernel
theorem dL_isAtRest_159 : decode cL_isAtRest 159 = .ok (.invokevirtual 164, 3) := by decide +kernel
theorem dL_isAtRest_162 : decode cL_isAtRest 162 = .ok (.ifCond .ne 5, 3) := by decide +kernel
theorem dL_isAtRest_165 : decode cL_isAtRest 165 = .ok (.iload_n 1, 1) := by decide +kernel
theorem dL_isAtRest_166 : decode cL_isAtRest 166 = .ok (.ireturn, 1) := by decide +kernel
theorem dL_isAtRest_167 : decode cL_isAtRest 167 = .ok (.iconst 0, 1) := by decide +kernel
theorem dL_isAtRest_168 : decode cL_isAtRest 168 = .ok (.istore_n 3, 1) := by decide +kernel
theorem dL_isAtRest_169 : decode cL_isAtRest 169 = .ok (.iload_n 3, 1) := by decide +kernel
theorem dL_isAtRest_170 : decode cL_isAtRest 170 = .ok (.aload_n 0, 1) := by decide +kernel
theorem dL_isAtRest_171 : decode cL_isAtRest 171 = .ok (.invokevirtual 155, 3) := by decide +kernel
theorem dL_isAtRest_174 : decode cL_isAtRest 174 = .ok (.if_icmp .ge 347, 3) := by decide +kernel
theorem dL_isAtRest_177 : decode cL_isAtRest 177 = .ok (.iload_n 1, 1) := by decide +kernel
theorem dL_isAtRest_178 : decode cL_isAtRest 178 = .ok (.ifCond .eq 343, 3) := by decide +kernel
theorem dL_isAtRest_181 : decode cL_isAtRest 181 = .ok (.aload_n 0, 1) := by decide +kernel
theorem dL_isAtRest_182 : decode cL_isAtRest 182 = .ok (.iload_n 3, 1) := by decide +kernel
theorem dL_isAtRest_183 : decode cL_isAtRest 183 = .ok (.invokevirtual 83, 3) := by decide +kernel
theorem dL_isAtRest_186 : decode cL_isAtRest 186 = .ok (.istore 4, 2) := by decide +kernel
theorem dL_isAtRest_188 : decode cL_isAtRest 188 = .ok (.iconst 0, 1) := by decide +kernel
theorem dL_isAtRest_189 : decode cL_isAtRest 189 = .ok (.istore 5, 2) := by decide +kernel
theorem dL_isAtRest_191 : decode cL_isAtRest 191 = .ok (.iconst 0, 1) := by decide +kernel
theorem dL_isAtRest_192 : decode cL_isAtRest 192 = .ok (.istore 6, 2) := by decide +kernel
theorem dL_isAtRest_194 : decode cL_isAtRest 194 = .ok (.iconst 0, 1) := by decide +kernel
theorem dL_isAtRest_195 : decode cL_isAtRest 195 = .ok (.istore 7, 2) := by decide +kernel
theorem dL_isAtRest_197 : decode cL_isAtRest 197 = .ok (.iload 7, 2) := by decide +kernel
theorem dL_isAtRest_199 : decode cL_isAtRest 199 = .ok (.aload_n 0, 1) := by decide +kernel
theorem dL_isAtRest_200 : decode cL_isAtRest 200 = .ok (.invokevirtual 155, 3) := by decide +kernel
theorem dL_isAtRest_203 : decode cL_isAtRest 203 = .ok (.if_icmp .ge 165, 3) := by decide +kernel
theorem dL_isAtRest_206 : decode cL_isAtRest 206 = .ok (.aload_n 0, 1) := by decide +kernel
theorem dL_isAtRest_207 : decode cL_isAtRest 207 = .ok (.iload 7, 2) := by decide +kernel
theorem dL_isAtRest_209 : decode cL_isAtRest 209 = .ok (.invokevirtual 83, 3) := by decide +kernel
theorem dL_isAtRest_212 : decode cL_isAtRest 212 = .ok (.iconst 2, 1) := by decide +kernel
theorem dL_isAtRest_213 : decode cL_isAtRest 213 = .ok (.if_icmp .ne 16, 3) := by decide +kernel
theorem dL_isAtRest_216 : decode cL_isAtRest 216 = .ok (.aload_n 0, 1) := by decide +kernel
theorem dL_isAtRest_217 : decode cL_isAtRest 217 = .ok (.iload 7, 2) := by decide +kernel
theorem dL_isAtRest_219 : decode cL_isAtRest 219 = .ok (.invokevirtual 98, 3) := by decide +kernel
theorem dL_isAtRest_222 : decode cL_isAtRest 222 = .ok (.ifCond .ne 7, 3) := by decide +kernel
theorem dL_isAtRest_225 : decode cL_isAtRest 225 = .ok (.iconst 1, 1) := by decide +kernel
theorem dL_isAtRest_226 : decode cL_isAtRest 226 = .ok (.goto 4, 3) := by decide +kernel
theorem dL_isAtRest_229 : decode cL_isAtRest 229 = .ok (.iconst 0, 1) := by decide +kernel
theorem dL_isAtRest_230 : decode cL_isAtRest 230 = .ok (.istore 8, 2) := by decide +kernel
theorem dL_isAtRest_232 : decode cL_isAtRest 232 = .ok (.iload 5, 2) := by decide +kernel
theorem dL_isAtRest_234 : decode cL_isAtRest 234 = .ok (.iload 8, 2) := by decide +kernel
theorem dL_isAtRest_236 : decode cL_isAtRest 236 = .ok (.ifCond .eq 17, 3) := by decide +kernel
theorem dL_isAtRest_239 : decode cL_isAtRest 239 = .ok (.aload_n 0, 1) := by decide +kernel
theorem dL_isAtRest_240 : decode cL_isAtRest 240 = .ok (.iload 7, 2) := by decide +kernel
theorem dL_isAtRest_242 : decode cL_isAtRest 242 = .ok (.invokevirtual 101, 3) := by decide +kernel
theorem dL_isAtRest_245 : decode cL_isAtRest 245 = .ok (.iload_n 3, 1) := by decide +kernel
theorem dL_isAtRest_246 : decode cL_isAtRest 246 = .ok (.if_icmp .ne 7, 3) := by decide +kernel
theorem dL_isAtRest_249 : decode cL_isAtRest 249 = .ok (.iconst 1, 1) := by decide +kernel
theorem dL_isAtRest_250 : decode cL_isAtRest 250 = .ok (.goto 4, 3) := by decide +kernel
theorem dL_isAtRest_253 : decode cL_isAtRest 253 = .ok (.iconst 0, 1) := by decide +kernel
theorem dL_isAtRest_254 : decode cL_isAtRest 254 = .ok (.iadd, 1) := by decide +kernel
theorem dL_isAtRest_255 : decode cL_isAtRest 255 = .ok (.istore 5, 2) := by decide +kernel
theorem dL_isAtRest_257 : decode cL_isAtRest 257 = .ok (.iload 6, 2) := by decide +kernel
theorem dL_isAtRest_259 : decode cL_isAtRest 259 = .ok (.iload 8, 2) := by decide +kernel
theorem dL_isAtRest_261 : decode cL_isAtRest 261 = .ok (.ifCond .eq 27, 3) := by decide +kernel
theorem dL_isAtRest_264 : decode cL_isAtRest 264 = .ok (.aload_n 0, 1) := by decide +kernel
theorem dL_isAtRest_265 : decode cL_isAtRest 265 = .ok (.iload 7, 2) := by decide +kernel
theorem dL_isAtRest_267 : decode cL_isAtRest 267 = .ok (.invokevirtual 101, 3) := by decide +kernel
theorem dL_isAtRest_270 : decode cL_isAtRest 270 = .ok (.iload_n 3, 1) := by decide +kernel
theorem dL_isAtRest_271 : decode cL_isAtRest 271 = .ok (.if_icmp .ne 17, 3) := by decide +kernel
theorem dL_isAtRest_274 : decode cL_isAtRest 274 = .ok (.aload_n 0, 1) := by decide +kernel
theorem dL_isAtRest_275 : decode cL_isAtRest 275 = .ok (.iload 7, 2) := by decide +kernel
theorem dL_isAtRest_277 : decode cL_isAtRest 277 = .ok (.invokevirtual 104, 3) := by decide +kernel
theorem dL_isAtRest_280 : decode cL_isAtRest 280 = .ok (.iconst 2, 1) := by decide +kernel
theorem dL_isAtRest_281 : decode cL_isAtRest 281 = .ok (.if_icmp .ge 7, 3) := by decide +kernel
theorem dL_isAtRest_284 : decode cL_isAtRest 284 = .ok (.iconst 1, 1) := by decide +kernel
theorem dL_isAtRest_285 : decode cL_isAtRest 285 = .ok (.goto 4, 3) := by decide +kernel
theorem dL_isAtRest_288 : decode cL_isAtRest 288 = .ok (.iconst 0, 1) := by decide +kernel
theorem dL_isAtRest_289 : decode cL_isAtRest 289 = .ok (.iadd, 1) := by decide +kernel
theorem dL_isAtRest_290 : decode cL_isAtRest 290 = .ok (.istore 6, 2) := by decide +kernel
theorem dL_isAtRest_292 : decode cL_isAtRest 292 = .ok (.iload_n 1, 1) := by decide +kernel
theorem dL_isAtRest_293 : decode cL_isAtRest 293 = .ok (.ifCond .eq 67, 3) := by decide +kernel
theorem dL_isAtRest_296 : decode cL_isAtRest 296 = .ok (.iload 4, 2) := by decide +kernel
theorem dL_isAtRest_298 : decode cL_isAtRest 298 = .ok (.iconst 5, 1) := by decide +kernel
theorem dL_isAtRest_299 : decode cL_isAtRest 299 = .ok (.if_icmp .ne 57, 3) := by decide +kernel
theorem dL_isAtRest_302 : decode cL_isAtRest 302 = .ok (.aload_n 0, 1) := by decide +kernel
theorem dL_isAtRest_303 : decode cL_isAtRest 303 = .ok (.iload_n 3, 1) := by decide +kernel
theorem dL_isAtRest_304 : decode cL_isAtRest 304 = .ok (.invokevirtual 98, 3) := by decide +kernel
theorem dL_isAtRest_307 : decode cL_isAtRest 307 = .ok (.ifCond .gt 49, 3) := by decide +kernel
theorem dL_isAtRest_310 : decode cL_isAtRest 310 = .ok (.aload_n 0, 1) := by decide +kernel
theorem dL_isAtRest_311 : decode cL_isAtRest 311 = .ok (.iload_n 3, 1) := by decide +kernel
theorem dL_isAtRest_312 : decode cL_isAtRest 312 = .ok (.iload 7, 2) := by decide +kernel
theorem dL_isAtRest_314 : decode cL_isAtRest 314 = .ok (.invokevirtual 113, 3) := by decide +kernel
theorem dL_isAtRest_317 : decode cL_isAtRest 317 = .ok (.iload 8, 2) := by decide +kernel
theorem dL_isAtRest_319 : decode cL_isAtRest 319 = .ok (.ifCond .eq 33, 3) := by decide +kernel
theorem dL_isAtRest_322 : decode cL_isAtRest 322 = .ok (.aload_n 0, 1) := by decide +kernel
theorem dL_isAtRest_323 : decode cL_isAtRest 323 = .ok (.iload 7, 2) := by decide +kernel
theorem dL_isAtRest_325 : decode cL_isAtRest 325 = .ok (.invokevirtual 104, 3) := by decide +kernel
theorem dL_isAtRest_328 : decode cL_isAtRest 328 = .ok (.iconst 1, 1) := by decide +kernel
theorem dL_isAtRest_329 : decode cL_isAtRest 329 = .ok (.if_icmp .ne 23, 3) := by decide +kernel
theorem dL_isAtRest_332 : decode cL_isAtRest 332 = .ok (.aload_n 0, 1) := by decide +kernel
theorem dL_isAtRest_333 : decode cL_isAtRest 333 = .ok (.iload 7, 2) := by decide +kernel
theorem dL_isAtRest_335 : decode cL_isAtRest 335 = .ok (.iconst 1, 1) := by decide +kernel
theorem dL_isAtRest_336 : decode cL_isAtRest 336 = .ok (.invokevirtual 86, 3) := by decide +kernel
theorem dL_isAtRest_339 : decode cL_isAtRest 339 = .ok (.aload_n 0, 1) := by decide +kernel
theorem dL_isAtRest_340 : decode cL_isAtRest 340 = .ok (.iload_n 3, 1) := by decide +kernel
theorem dL_isAtRest_341 : decode cL_isAtRest 341 = .ok (.iconst 1, 1) := by decide +kernel
theorem dL_isAtRest_342 : decode cL_isAtRest 342 = .ok (.invokevirtual 86, 3) := by decide +kernel
theorem dL_isAtRest_345 : decode cL_isAtRest 345 = .ok (.if_icmp .ne 7, 3) := by decide +kernel
theorem dL_isAtRest_348 : decode cL_isAtRest 348 = .ok (.iconst 1, 1) := by decide +kernel
theorem dL_isAtRest_349 : decode cL_isAtRest 349 = .ok (.goto 4, 3) := by decide +kernel
theorem dL_isAtRest_352 : decode cL_isAtRest 352 = .ok (.iconst 0, 1) := by decide +kernel
theorem dL_isAtRest_353 : decode cL_isAtRest 353 = .ok (.if_icmp .ne 7, 3) := by decide +kernel
theorem dL_isAtRest_356 : decode cL_isAtRest 356 = .ok (.iconst 1, 1) := by decide +kernel
theorem dL_isAtRest_357 : decode cL_isAtRest 357 = .ok (.goto 4, 3) := by decide +kernel
theorem dL_isAtRest_360 : decode cL_isAtRest 360 = .ok (.iconst 0, 1) := by decide +kernel
theorem dL_isAtRest_361 : decode cL_isAtRest 361 = .ok (.istore_n 1, 1) := by decide +kernel
theorem dL_isAtRest_362 : decode cL_isAtRest 362 = .ok (.iinc 7 1, 3) := by decide +kernel
theorem dL_isAtRest_365 : decode cL_isAtRest 365 = .ok (.goto (-168), 3) := by decide +kernel
theorem dL_isAtRest_368 : decode cL_isAtRest 368 = .ok (.aload_n 0, 1) := by decide +kernel
theorem dL_isAtRest_369 : decode cL_isAtRest 369 = .ok (.iload_n 3, 1) := by decide +kernel
theorem dL_isAtRest_370 : decode cL_isAtRest 370 = .ok (.invokevirtual 98, 3) := by decide +kernel
theorem dL_isAtRest_373 : decode cL_isAtRest 373 = .ok (.ifCond .ne 7, 3) := by decide +kernel
theorem dL_isAtRest_376 : decode cL_isAtRest 376 = .ok (.iconst 1, 1) := by decide +kernel
theorem dL_isAtRest_377 : decode cL_isAtRest 377 = .ok (.goto 4, 3) := by decide +kernel
theorem dL_isAtRest_380 : decode cL_isAtRest 380 = .ok (.iconst 0, 1) := by decide +kernel
theorem dL_isAtRest_381 : decode cL_isAtRest 381 = .ok (.istore 7, 2) := by decide +kernel
theorem dL_isAtRest_383 : decode cL_isAtRest 383 = .ok (.iload_n 1, 1) := by decide +kernel
theorem dL_isAtRest_384 : decode cL_isAtRest 384 = .ok (.ifCond .eq 90, 3) := by decide +kernel
theorem dL_isAtRest_387 : decode cL_isAtRest 387 = .ok (.iload 4, 2) := by decide +kernel
theorem dL_isAtRest_389 : decode cL_isAtRest 389 = .ok (.iconst 1, 1) := by decide +kernel
theorem dL_isAtRest_390 : decode cL_isAtRest 390 = .ok (.if_icmp .ne 26, 3) := by decide +kernel
theorem dL_isAtRest_393 : decode cL_isAtRest 393 = .ok (.iload 7, 2) := by decide +kernel
theorem dL_isAtRest_395 : decode cL_isAtRest 395 = .ok (.ifCond .eq 21, 3) := by decide +kernel
theorem dL_isAtRest_398 : decode cL_isAtRest 398 = .ok (.iload 5, 2) := by decide +kernel
theorem dL_isAtRest_400 : decode cL_isAtRest 400 = .ok (.aload_n 0, 1) := by decide +kernel
theorem dL_isAtRest_401 : decode cL_isAtRest 401 = .ok (.iload_n 3, 1) := by decide +kernel
theorem dL_isAtRest_402 : decode cL_isAtRest 402 = .ok (.iconst 0, 1) := by decide +kernel
theorem dL_isAtRest_403 : decode cL_isAtRest 403 = .ok (.invokevirtual 86, 3) := by decide +kernel
theorem dL_isAtRest_406 : decode cL_isAtRest 406 = .ok (.if_icmp .ne 68, 3) := by decide +kernel
theorem dL_isAtRest_409 : decode cL_isAtRest 409 = .ok (.iload 6, 2) := by decide +kernel
theorem dL_isAtRest_411 : decode cL_isAtRest 411 = .ok (.iload 5, 2) := by decide +kernel
theorem dL_isAtRest_413 : decode cL_isAtRest 413 = .ok (.if_icmp .ne 61, 3) := by decide +kernel
theorem dL_isAtRest_416 : decode cL_isAtRest 416 = .ok (.iload 4, 2) := by decide +kernel
theorem dL_isAtRest_418 : decode cL_isAtRest 418 = .ok (.ifCond .ne 52, 3) := by decide +kernel
theorem dL_isAtRest_421 : decode cL_isAtRest 421 = .ok (.iload 7, 2) := by decide +kernel
theorem dL_isAtRest_423 : decode cL_isAtRest 423 = .ok (.ifCond .eq 47, 3) := by decide +kernel
theorem dL_isAtRest_426 : decode cL_isAtRest 426 = .ok (.aload_n 0, 1) := by decide +kernel
theorem dL_isAtRest_427 : decode cL_isAtRest 427 = .ok (.iload_n 3, 1) := by decide +kernel
theorem dL_isAtRest_428 : decode cL_isAtRest 428 = .ok (.iconst 4, 1) := by decide +kernel
theorem dL_isAtRest_429 : decode cL_isAtRest 429 = .ok (.invokevirtual 86, 3) := by decide +kernel
theorem dL_isAtRest_432 : decode cL_isAtRest 432 = .ok (.iconst 1, 1) := by decide +kernel
theorem dL_isAtRest_433 : decode cL_isAtRest 433 = .ok (.if_icmp .eq 37, 3) := by decide +kernel
theorem dL_isAtRest_436 : decode cL_isAtRest 436 = .ok (.aload_n 0, 1) := by decide +kernel
theorem dL_isAtRest_437 : decode cL_isAtRest 437 = .ok (.iload_n 3, 1) := by decide +kernel
theorem dL_isAtRest_438 : decode cL_isAtRest 438 = .ok (.iconst 5, 1) := by decide +kernel
theorem dL_isAtRest_439 : decode cL_isAtRest 439 = .ok (.invokevirtual 86, 3) := by decide +kernel
theorem dL_isAtRest_442 : decode cL_isAtRest 442 = .ok (.ifCond .eq 28, 3) := by decide +kernel
theorem dL_isAtRest_445 : decode cL_isAtRest 445 = .ok (.aload_n 0, 1) := by decide +kernel
theorem dL_isAtRest_446 : decode cL_isAtRest 446 = .ok (.iload_n 3, 1) := by decide +kernel
theorem dL_isAtRest_447 : decode cL_isAtRest 447 = .ok (.iconst 0, 1) := by decide +kernel
theorem dL_isAtRest_448 : decode cL_isAtRest 448 = .ok (.invokevirtual 86, 3) := by decide +kernel
theorem dL_isAtRest_451 : decode cL_isAtRest 451 = .ok (.iconst 1, 1) := by decide +kernel
theorem dL_isAtRest_452 : decode cL_isAtRest 452 = .ok (.if_icmp .lt 22, 3) := by decide +kernel
theorem dL_isAtRest_455 : decode cL_isAtRest 455 = .ok (.aload_n 0, 1) := by decide +kernel
theorem dL_isAtRest_456 : decode cL_isAtRest 456 = .ok (.iload_n 3, 1) := by decide +kernel
theorem dL_isAtRest_457 : decode cL_isAtRest 457 = .ok (.iconst 0, 1) := by decide +kernel
theorem dL_isAtRest_458 : decode cL_isAtRest 458 = .ok (.invokevirtual 86, 3) := by decide +kernel
theorem dL_isAtRest_461 : decode cL_isAtRest 461 = .ok (.aload_n 0, 1) := by decide +kernel
theorem dL_isAtRest_462 : decode cL_isAtRest 462 = .ok (.iload_n 3, 1) := by decide +kernel
theorem dL_isAtRest_463 : decode cL_isAtRest 463 = .ok (.iconst 5, 1) := by decide +kernel
theorem dL_isAtRest_464 : decode cL_isAtRest 464 = .ok (.invokevirtual 86, 3) := by decide +kernel
theorem dL_isAtRest_467 : decode cL_isAtRest 467 = .ok (.if_icmp .gt 7, 3) := by decide +kernel
theorem dL_isAtRest_470 : decode cL_isAtRest 470 = .ok (.iconst 1, 1) := by decide +kernel
theorem dL_isAtRest_471 : decode cL_isAtRest 471 = .ok (.goto 4, 3) := by decide +kernel
theorem dL_isAtRest_474 : decode cL_isAtRest 474 = .ok (.iconst 0, 1) := by decide +kernel
theorem dL_isAtRest_475 : decode cL_isAtRest 475 = .ok (.istore_n 1, 1) := by decide +kernel
theorem dL_isAtRest_476 : decode cL_isAtRest 476 = .ok (.iload_n 1, 1) := by decide +kernel
theorem dL_isAtRest_477 : decode cL_isAtRest 477 = .ok (.ifCond .eq 36, 3) := by decide +kernel
theorem dL_isAtRest_480 : decode cL_isAtRest 480 = .ok (.aload_n 0, 1) := by decide +kernel
theorem dL_isAtRest_481 : decode cL_isAtRest 481 = .ok (.iload_n 3, 1) := by decide +kernel
theorem dL_isAtRest_482 : decode cL_isAtRest 482 = .ok (.invokevirtual 101, 3) := by decide +kernel
theorem dL_isAtRest_485 : decode cL_isAtRest 485 = .ok (.ifCond .lt 24, 3) := by decide +kernel
theorem dL_isAtRest_488 : decode cL_isAtRest 488 = .ok (.aload_n 0, 1) := by decide +kernel
theorem dL_isAtRest_489 : decode cL_isAtRest 489 = .ok (.aload_n 0, 1) := by decide +kernel
theorem dL_isAtRest_490 : decode cL_isAtRest 490 = .ok (.iload_n 3, 1) := by decide +kernel
theorem dL_isAtRest_491 : decode cL_isAtRest 491 = .ok (.invokevirtual 101, 3) := by decide +kernel
theorem dL_isAtRest_494 : decode cL_isAtRest 494 = .ok (.invokevirtual 98, 3) := by decide +kernel
theorem dL_isAtRest_497 : decode cL_isAtRest 497 = .ok (.iconst 4, 1) := by decide +kernel
theorem dL_isAtRest_498 : decode cL_isAtRest 498 = .ok (.if_icmp .lt 11, 3) := by decide +kernel
theorem dL_isAtRest_501 : decode cL_isAtRest 501 = .ok (.aload_n 0, 1) := by decide +kernel
theorem dL_isAtRest_502 : decode cL_isAtRest 502 = .ok (.iload_n 3, 1) := by decide +kernel
theorem dL_isAtRest_503 : decode cL_isAtRest 503 = .ok (.invokevirtual 98, 3) := by decide +kernel
theorem dL_isAtRest_506 : decode cL_isAtRest 506 = .ok (.ifCond .le 7, 3) := by decide +kernel
theorem dL_isAtRest_509 : decode cL_isAtRest 509 = .ok (.iconst 1, 1) := by decide +kernel
theorem dL_isAtRest_510 : decode cL_isAtRest 510 = .ok (.goto 4, 3) := by decide +kernel
theorem dL_isAtRest_513 : decode cL_isAtRest 513 = .ok (.iconst 0, 1) := by decide +kernel
theorem dL_isAtRest_514 : decode cL_isAtRest 514 = .ok (.istore_n 1, 1) := by decide +kernel
theorem dL_isAtRest_515 : decode cL_isAtRest 515 = .ok (.iinc 3 1, 3) := by decide +kernel
theorem dL_isAtRest_518 : decode cL_isAtRest 518 = .ok (.goto (-349), 3) := by decide +kernel
theorem dL_isAtRest_521 : decode cL_isAtRest 521 = .ok (.iload_n 1, 1) := by decide +kernel
theorem dL_isAtRest_522 : decode cL_isAtRest 522 = .ok (.ireturn, 1) := by decide +kernel
theorem dL_isWorked_0 : decode cL_isWorked 0 = .ok (.aload_n 0, 1) := by decide +kernel
theorem dL_isWorked_1 : decode cL_isWorked 1 = .ok (.invokevirtual 151, 3) := by decide +kernel
theorem dL_isWorked_4 : decode cL_isWorked 4 = .ok (.istore_n 2, 1) := by decide +kernel
theorem dL_isWorked_5 : decode cL_isWorked 5 = .ok (.aload_n 0, 1) := by decide +kernel
theorem dL_isWorked_6 : decode cL_isWorked 6 = .ok (.iload_n 1, 1) := by decide +kernel
theorem dL_isWorked_7 : decode cL_isWorked 7 = .ok (.iconst 0, 1) := by decide +kernel
theorem dL_isWorked_8 : decode cL_isWorked 8 = .ok (.invokevirtual 126, 3) := by decide +kernel
theorem dL_isWorked_11 : decode cL_isWorked 11 = .ok (.istore_n 3, 1) := by decide +kernel
theorem dL_isWorked_12 : decode cL_isWorked 12 = .ok (.aload_n 0, 1) := by decide +kernel
theorem dL_isWorked_13 : decode cL_isWorked 13 = .ok (.invokestatic 172, 3) := by decide +kernel
theorem dL_isWorked_16 : decode cL_isWorked 16 = .ok (.lstore 4, 2) := by decide +kernel
theorem dL_isWorked_18 : decode cL_isWorked 18 = .ok (.aload_n 0, 1) := by decide +kernel
theorem dL_isWorked_19 : decode cL_isWorked 19 = .ok (.invokevirtual 155, 3) := by decide +kernel
theorem dL_isWorked_22 : decode cL_isWorked 22 = .ok (.istore 6, 2) := by decide +kernel
theorem dL_isWorked_24 : decode cL_isWorked 24 = .ok (.aload_n 0, 1) := by decide +kernel
theorem dL_isWorked_25 : decode cL_isWorked 25 = .ok (.bipush 10, 2) := by decide +kernel
theorem dL_isWorked_27 : decode cL_isWorked 27 = .ok (.iload_n 1, 1) := by decide +kernel
theorem dL_isWorked_28 : decode cL_isWorked 28 = .ok (.iconst 0, 1) := by decide +kernel
theorem dL_isWorked_29 : decode cL_isWorked 29 = .ok (.iconst 0, 1) := by decide +kernel
theorem dL_isWorked_30 : decode cL_isWorked 30 = .ok (.iconst 0, 1) := by decide +kernel
theorem dL_isWorked_31 : decode cL_isWorked 31 = .ok (.iconst 0, 1) := by decide +kernel
theorem dL_isWorked_32 : decode cL_isWorked 32 = .ok (.iconst 0, 1) := by decide +kernel
theorem dL_isWorked_33 : decode cL_isWorked 33 = .ok (.invokestatic 168, 3) := by decide +kernel
theorem dL_isWorked_36 : decode cL_isWorked 36 = .ok (.istore 7, 2) := by decide +kernel
theorem dL_isWorked_38 : decode cL_isWorked 38 = .ok (.iload 7, 2) := by decide +kernel
theorem dL_isWorked_40 : decode cL_isWorked 40 = .ok (.ifCond .ne 19, 3) := by decide +kernel
theorem dL_isWorked_43 : decode cL_isWorked 43 = .ok (.aload_n 0, 1) := by decide +kernel
theorem dL_isWorked_44 : decode cL_isWorked 44 = .ok (.invokestatic 172, 3) := by decide +kernel
theorem dL_isWorked_47 : decode cL_isWorked 47 = .ok (.lload 4, 2) := by decide +kernel
theorem dL_isWorked_49 : decode cL_isWorked 49 = .ok (.lcmp, 1) := by decide +kernel
theorem dL_isWorked_50 : decode cL_isWorked 50 = .ok (.ifCond .ne 7, 3) := by decide +kernel
theorem dL_isWorked_53 : decode cL_isWorked 53 = .ok (.iconst 1, 1) := by decide +kernel
theorem dL_isWorked_54 : decode cL_isWorked 54 = .ok (.goto 4, 3) := by decide +kernel
theorem dL_isWorked_57 : decode cL_isWorked 57 = .ok (.iconst 0, 1) := by decide +kernel
theorem dL_isWorked_58 : decode cL_isWorked 58 = .ok (.ireturn, 1) := by decide +kernel
theorem dL_isWorked_59 : decode cL_isWorked 59 = .ok (.iconst 0, 1) := by decide +kernel
theorem dL_isWorked_60 : decode cL_isWorked 60 = .ok (.istore 8, 2) := by decide +kernel
theorem dL_isWorked_62 : decode cL_isWorked 62 = .ok (.iload_n 2, 1) := by decide +kernel
theorem dL_isWorked_63 : decode cL_isWorked 63 = .ok (.iconst 1, 1) := by decide +kernel
theorem dL_isWorked_64 : decode cL_isWorked 64 = .ok (.iadd, 1) := by decide +kernel
theorem dL_isWorked_65 : decode cL_isWorked 65 = .ok (.istore 9, 2) := by decide +kernel
theorem dL_isWorked_67 : decode cL_isWorked 67 = .ok (.iload 9, 2) := by decide +kernel
theorem dL_isWorked_69 : decode cL_isWorked 69 = .ok (.aload_n 0, 1) := by decide +kernel
theorem dL_isWorked_70 : decode cL_isWorked 70 = .ok (.invokevirtual 151, 3) := by decide +kernel
theorem dL_isWorked_73 : decode cL_isWorked 73 = .ok (.if_icmp .gt 30, 3) := by decide +kernel
theorem dL_isWorked_76 : decode cL_isWorked 76 = .ok (.iload 8, 2) := by decide +kernel
theorem dL_isWorked_78 : decode cL_isWorked 78 = .ok (.aload_n 0, 1) := by decide +kernel
theorem dL_isWorked_79 : decode cL_isWorked 79 = .ok (.iload 9, 2) := by decide +kernel
theorem dL_isWorked_81 : decode cL_isWorked 81 = .ok (.invokevirtual 120, 3) := by decide +kernel
theorem dL_isWorked_84 : decode cL_isWorked 84 = .ok (.iload 6, 2) := by decide +kernel
theorem dL_isWorked_86 : decode cL_isWorked 86 = .ok (.if_icmp .lt 7, 3) := by decide +kernel
theorem dL_isWorked_89 : decode cL_isWorked 89 = .ok (.iconst 1, 1) := by decide +kernel
theorem dL_isWorked_90 : decode cL_isWorked 90 = .ok (.goto 4, 3) := by decide +kernel
theorem dL_isWorked_93 : decode cL_isWorked 93 = .ok (.iconst 0, 1) := by decide +kernel
theorem dL_isWorked_94 : decode cL_isWorked 94 = .ok (.iadd, 1) := by decide +kernel
theorem dL_isWorked_95 : decode cL_isWorked 95 = .ok (.istore 8, 2) := by decide +kernel
theorem dL_isWorked_97 : decode cL_isWorked 97 = .ok (.iinc 9 1, 3) := by decide +kernel
theorem dL_isWorked_100 : decode cL_isWorked 100 = .ok (.goto (-33), 3) := by decide +kernel
theorem dL_isWorked_103 : decode cL_isWorked 103 = .ok (.iload 7, 2) := by decide +kernel
theorem dL_isWorked_105 : decode cL_isWorked 105 = .ok (.iconst 1, 1) := by decide +kernel
theorem dL_isWorked_106 : decode cL_isWorked 106 = .ok (.if_icmp .lt 66, 3) := by decide +kernel
theorem dL_isWorked_109 : decode cL_isWorked 109 = .ok (.iload 7, 2) := by decide +kernel
theorem dL_isWorked_111 : decode cL_isWorked 111 = .ok (.iconst 3, 1) := by decide +kernel
theorem dL_isWorked_112 : decode cL_isWorked 112 = .ok (.if_icmp .gt 60, 3) := by decide +kernel
theorem dL_isWorked_115 : decode cL_isWorked 115 = .ok (.iload_n 3, 1) := by decide +kernel
theorem dL_isWorked_116 : decode cL_isWorked 116 = .ok (.ifCond .lt 56, 3) := by decide +kernel
theorem dL_isWorked_119 : decode cL_isWorked 119 = .ok (.aload_n 0, 1) := by decide +kernel
theorem dL_isWorked_120 : decode cL_isWorked 120 = .ok (.invokevirtual 151, 3) := by decide +kernel
theorem dL_isWorked_123 : decode cL_isWorked 123 = .ok (.iload_n 2, 1) := by decide +kernel
theorem dL_isWorked_124 : decode cL_isWorked 124 = .ok (.if_icmp .lt 48, 3) := by decide +kernel
theorem dL_isWorked_127 : decode cL_isWorked 127 = .ok (.aload_n 0, 1) := by decide +kernel
theorem dL_isWorked_128 : decode cL_isWorked 128 = .ok (.invokevirtual 155, 3) := by decide +kernel
theorem dL_isWorked_131 : decode cL_isWorked 131 = .ok (.iload 6, 2) := by decide +kernel
theorem dL_isWorked_133 : decode cL_isWorked 133 = .ok (.iload 8, 2) := by decide +kernel
theorem dL_isWorked_135 : decode cL_isWorked 135 = .ok (.iadd, 1) := by decide +kernel
theorem dL_isWorked_136 : decode cL_isWorked 136 = .ok (.if_icmp .ne 36, 3) := by decide +kernel
theorem dL_isWorked_139 : decode cL_isWorked 139 = .ok (.iload 8, 2) := by decide +kernel
theorem dL_isWorked_141 : decode cL_isWorked 141 = .ok (.iconst 1, 1) := by decide +kernel
theorem dL_isWorked_142 : decode cL_isWorked 142 = .ok (.if_icmp .gt 30, 3) := by decide +kernel
theorem dL_isWorked_145 : decode cL_isWorked 145 = .ok (.iload 7, 2) := by decide +kernel
theorem dL_isWorked_147 : decode cL_isWorked 147 = .ok (.iconst 2, 1) := by decide +kernel
theorem dL_isWorked_148 : decode cL_isWorked 148 = .ok (.if_icmp .ne 20, 3) := by decide +kernel
theorem dL_isWorked_151 : decode cL_isWorked 151 = .ok (.aload_n 0, 1) := by decide +kernel
theorem dL_isWorked_152 : decode cL_isWorked 152 = .ok (.invokevirtual 151, 3) := by decide +kernel
theorem dL_isWorked_155 : decode cL_isWorked 155 = .ok (.iload_n 2, 1) := by decide +kernel
theorem dL_isWorked_156 : decode cL_isWorked 156 = .ok (.if_icmp .ne 16, 3) := by decide +kernel
theorem dL_isWorked_159 : decode cL_isWorked 159 = .ok (.aload_n 0, 1) := by decide +kernel
theorem dL_isWorked_160 : decode cL_isWorked 160 = .ok (.invokevirtual 155, 3) := by decide +kernel
theorem dL_isWorked_163 : decode cL_isWorked 163 = .ok (.iload 6, 2) := by decide +kernel
theorem dL_isWorked_165 : decode cL_isWorked 165 = .ok (.if_icmp .ne 7, 3) := by decide +kernel
theorem dL_isWorked_168 : decode cL_isWorked 168 = .ok (.iconst 1, 1) := by decide +kernel
theorem dL_isWorked_169 : decode cL_isWorked 169 = .ok (.goto 4, 3) := by decide +kernel
theorem dL_isWorked_172 : decode cL_isWorked 172 = .ok (.iconst 0, 1) := by decide +kernel
theorem dL_isWorked_173 : decode cL_isWorked 173 = .ok (.ireturn, 1) := by decide +kernel
end
