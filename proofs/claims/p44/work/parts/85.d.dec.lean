section
theorem dL_isRefused_0 : decode cL_isRefused 0 = .ok (.iload_n 1, 1) := by decide +kernel
theorem dL_isRefused_1 : decode cL_isRefused 1 = .ok (.iconst 2, 1) := by decide +kernel
theorem dL_isRefused_2 : decode cL_isRefused 2 = .ok (.irem, 1) := by decide +kernel
theorem dL_isRefused_3 : decode cL_isRefused 3 = .ok (.ifCond .ne 7, 3) := by decide +kernel
theorem dL_isRefused_6 : decode cL_isRefused 6 = .ok (.iconst 1, 1) := by decide +kernel
theorem dL_isRefused_7 : decode cL_isRefused 7 = .ok (.goto 4, 3) := by decide +kernel
theorem dL_isRefused_10 : decode cL_isRefused 10 = .ok (.iconst 0, 1) := by decide +kernel
theorem dL_isRefused_11 : decode cL_isRefused 11 = .ok (.istore_n 2, 1) := by decide +kernel
theorem dL_isRefused_12 : decode cL_isRefused 12 = .ok (.iload_n 2, 1) := by decide +kernel
theorem dL_isRefused_13 : decode cL_isRefused 13 = .ok (.ifCond .eq 12, 3) := by decide +kernel
theorem dL_isRefused_16 : decode cL_isRefused 16 = .ok (.iconst (-1), 1) := by decide +kernel
theorem dL_isRefused_17 : decode cL_isRefused 17 = .ok (.iload_n 1, 1) := by decide +kernel
theorem dL_isRefused_18 : decode cL_isRefused 18 = .ok (.bipush 30, 2) := by decide +kernel
theorem dL_isRefused_20 : decode cL_isRefused 20 = .ok (.irem, 1) := by decide +kernel
theorem dL_isRefused_21 : decode cL_isRefused 21 = .ok (.isub, 1) := by decide +kernel
theorem dL_isRefused_22 : decode cL_isRefused 22 = .ok (.goto 12, 3) := by decide +kernel
theorem dL_isRefused_25 : decode cL_isRefused 25 = .ok (.aload_n 0, 1) := by decide +kernel
theorem dL_isRefused_26 : decode cL_isRefused 26 = .ok (.invokevirtual 155, 3) := by decide +kernel
theorem dL_isRefused_29 : decode cL_isRefused 29 = .ok (.iload_n 1, 1) := by decide +kernel
theorem dL_isRefused_30 : decode cL_isRefused 30 = .ok (.bipush 30, 2) := by decide +kernel
theorem dL_isRefused_32 : decode cL_isRefused 32 = .ok (.irem, 1) := by decide +kernel
theorem dL_isRefused_33 : decode cL_isRefused 33 = .ok (.iadd, 1) := by decide +kernel
theorem dL_isRefused_34 : decode cL_isRefused 34 = .ok (.istore_n 3, 1) := by decide +kernel
theorem dL_isRefused_35 : decode cL_isRefused 35 = .ok (.iload_n 2, 1) := by decide +kernel
theorem dL_isRefused_36 : decode cL_isRefused 36 = .ok (.ifCond .eq 12, 3) := by decide +kernel
theorem dL_isRefused_39 : decode cL_isRefused 39 = .ok (.iconst (-1), 1) := by decide +kernel
theorem dL_isRefused_40 : decode cL_isRefused 40 = .ok (.iload_n 1, 1) := by decide +kernel
theorem dL_isRefused_41 : decode cL_isRefused 41 = .ok (.bipush 30, 2) := by decide +kernel
theorem dL_isRefused_43 : decode cL_isRefused 43 = .ok (.irem, 1) := by decide +kernel
theorem dL_isRefused_44 : decode cL_isRefused 44 = .ok (.isub, 1) := by decide +kernel
theorem dL_isRefused_45 : decode cL_isRefused 45 = .ok (.goto 10, 3) := by decide +kernel
theorem dL_isRefused_48 : decode cL_isRefused 48 = .ok (.bipush 8, 2) := by decide +kernel
theorem dL_isRefused_50 : decode cL_isRefused 50 = .ok (.iload_n 1, 1) := by decide +kernel
theorem dL_isRefused_51 : decode cL_isRefused 51 = .ok (.bipush 30, 2) := by decide +kernel
theorem dL_isRefused_53 : decode cL_isRefused 53 = .ok (.irem, 1) := by decide +kernel
theorem dL_isRefused_54 : decode cL_isRefused 54 = .ok (.iadd, 1) := by decide +kernel
theorem dL_isRefused_55 : decode cL_isRefused 55 = .ok (.istore 4, 2) := by decide +kernel
theorem dL_isRefused_57 : decode cL_isRefused 57 = .ok (.iload_n 2, 1) := by decide +kernel
theorem dL_isRefused_58 : decode cL_isRefused 58 = .ok (.ifCond .eq 12, 3) := by decide +kernel
theorem dL_isRefused_61 : decode cL_isRefused 61 = .ok (.iconst (-1), 1) := by decide +kernel
theorem dL_isRefused_62 : decode cL_isRefused 62 = .ok (.iload_n 1, 1) := by decide +kernel
theorem dL_isRefused_63 : decode cL_isRefused 63 = .ok (.bipush 30, 2) := by decide +kernel
theorem dL_isRefused_65 : decode cL_isRefused 65 = .ok (.irem, 1) := by decide +kernel
theorem dL_isRefused_66 : decode cL_isRefused 66 = .ok (.isub, 1) := by decide +kernel
theorem dL_isRefused_67 : decode cL_isRefused 67 = .ok (.goto 9, 3) := by decide +kernel
theorem dL_isRefused_70 : decode cL_isRefused 70 = .ok (.iconst 4, 1) := by decide +kernel
theorem dL_isRefused_71 : decode cL_isRefused 71 = .ok (.iload_n 1, 1) := by decide +kernel
theorem dL_isRefused_72 : decode cL_isRefused 72 = .ok (.bipush 30, 2) := by decide +kernel
theorem dL_isRefused_74 : decode cL_isRefused 74 = .ok (.irem, 1) := by decide +kernel
theorem dL_isRefused_75 : decode cL_isRefused 75 = .ok (.iadd, 1) := by decide +kernel
theorem dL_isRefused_76 : decode cL_isRefused 76 = .ok (.istore 5, 2) := by decide +kernel
theorem dL_isRefused_78 : decode cL_isRefused 78 = .ok (.aload_n 0, 1) := by decide +kernel
theorem dL_isRefused_79 : decode cL_isRefused 79 = .ok (.invokestatic 172, 3) := by decide +kernel
theorem dL_isRefused_82 : decode cL_isRefused 82 = .ok (.lstore 6, 2) := by decide +kernel
theorem dL_isRefused_84 : decode cL_isRefused 84 = .ok (.aload_n 0, 1) := by decide +kernel
theorem dL_isRefused_85 : decode cL_isRefused 85 = .ok (.iconst 0, 1) := by decide +kernel
theorem dL_isRefused_86 : decode cL_isRefused 86 = .ok (.iload 5, 2) := by decide +kernel
theorem dL_isRefused_88 : decode cL_isRefused 88 = .ok (.iconst 0, 1) := by decide +kernel
theorem dL_isRefused_89 : decode cL_isRefused 89 = .ok (.iconst 0, 1) := by decide +kernel
theorem dL_isRefused_90 : decode cL_isRefused 90 = .ok (.iconst 0, 1) := by decide +kernel
theorem dL_isRefused_91 : decode cL_isRefused 91 = .ok (.iconst 0, 1) := by decide +kernel
theorem dL_isRefused_92 : decode cL_isRefused 92 = .ok (.iconst 0, 1) := by decide +kernel
theorem dL_isRefused_93 : decode cL_isRefused 93 = .ok (.invokestatic 168, 3) := by decide +kernel
theorem dL_isRefused_96 : decode cL_isRefused 96 = .ok (.sipush (-1272), 3) := by decide +kernel
theorem dL_isRefused_99 : decode cL_isRefused 99 = .ok (.if_icmp .ne 583, 3) := by decide +kernel
theorem dL_isRefused_102 : decode cL_isRefused 102 = .ok (.aload_n 0, 1) := by decide +kernel
theorem dL_isRefused_103 : decode cL_isRefused 103 = .ok (.iconst 0, 1) := by decide +kernel
theorem dL_isRefused_104 : decode cL_isRefused 104 = .ok (.iconst 0, 1) := by decide +kernel
theorem dL_isRefused_105 : decode cL_isRefused 105 = .ok (.iload_n 2, 1) := by decide +kernel
theorem dL_isRefused_106 : decode cL_isRefused 106 = .ok (.ifCond .eq 12, 3) := by decide +kernel
theorem dL_isRefused_109 : decode cL_isRefused 109 = .ok (.iconst (-1), 1) := by decide +kernel
theorem dL_isRefused_110 : decode cL_isRefused 110 = .ok (.iload_n 1, 1) := by decide +kernel
theorem dL_isRefused_111 : decode cL_isRefused 111 = .ok (.bipush 30, 2) := by decide +kernel
theorem dL_isRefused_113 : decode cL_isRefused 113 = .ok (.irem, 1) := by decide +kernel
theorem dL_isRefused_114 : decode cL_isRefused 114 = .ok (.isub, 1) := by decide +kernel
theorem dL_isRefused_115 : decode cL_isRefused 115 = .ok (.goto 5, 3) := by decide +kernel
theorem dL_isRefused_118 : decode cL_isRefused 118 = .ok (.bipush 6, 2) := by decide +kernel
theorem dL_isRefused_120 : decode cL_isRefused 120 = .ok (.iconst 0, 1) := by decide +kernel
theorem dL_isRefused_121 : decode cL_isRefused 121 = .ok (.iconst 0, 1) := by decide +kernel
theorem dL_isRefused_122 : decode cL_isRefused 122 = .ok (.iconst 0, 1) := by decide +kernel
theorem dL_isRefused_123 : decode cL_isRefused 123 = .ok (.iconst 0, 1) := by decide +kernel
theorem dL_isRefused_124 : decode cL_isRefused 124 = .ok (.invokestatic 168, 3) := by decide +kernel
theorem dL_isRefused_127 : decode cL_isRefused 127 = .ok (.sipush (-1272), 3) := by decide +kernel
theorem dL_isRefused_130 : decode cL_isRefused 130 = .ok (.if_icmp .ne 552, 3) := by decide +kernel
theorem dL_isRefused_133 : decode cL_isRefused 133 = .ok (.aload_n 0, 1) := by decide +kernel
theorem dL_isRefused_134 : decode cL_isRefused 134 = .ok (.iconst 1, 1) := by decide +kernel
theorem dL_isRefused_135 : decode cL_isRefused 135 = .ok (.iconst 0, 1) := by decide +kernel
theorem dL_isRefused_136 : decode cL_isRefused 136 = .ok (.iload_n 3, 1) := by decide +kernel
theorem dL_isRefused_137 : decode cL_isRefused 137 = .ok (.iconst 0, 1) := by decide +kernel
theorem dL_isRefused_138 : decode cL_isRefused 138 = .ok (.iconst 0, 1) := by decide +kernel
theorem dL_isRefused_139 : decode cL_isRefused 139 = .ok (.iconst (-1), 1) := by decide +kernel
theorem dL_isRefused_140 : decode cL_isRefused 140 = .ok (.iconst 0, 1) := by decide +kernel
theorem dL_isRefused_141 : decode cL_isRefused 141 = .ok (.invokestatic 168, 3) := by decide +kernel
theorem dL_isRefused_144 : decode cL_isRefused 144 = .ok (.sipush (-1271), 3) := by decide +kernel
theorem dL_isRefused_147 : decode cL_isRefused 147 = .ok (.if_icmp .ne 535, 3) := by decide +kernel
theorem dL_isRefused_150 : decode cL_isRefused 150 = .ok (.aload_n 0, 1) := by decide +kernel
theorem dL_isRefused_151 : decode cL_isRefused 151 = .ok (.iconst 2, 1) := by decide +kernel
theorem dL_isRefused_152 : decode cL_isRefused 152 = .ok (.iconst 0, 1) := by decide +kernel
theorem dL_isRefused_153 : decode cL_isRefused 153 = .ok (.iload_n 3, 1) := by decide +kernel
theorem dL_isRefused_154 : decode cL_isRefused 154 = .ok (.iconst 0, 1) := by decide +kernel
theorem dL_isRefused_155 : decode cL_isRefused 155 = .ok (.iconst 0, 1) := by decide +kernel
theorem dL_isRefused_156 : decode cL_isRefused 156 = .ok (.iconst 0, 1) := by decide +kernel
theorem dL_isRefused_157 : decode cL_isRefused 157 = .ok (.iconst 0, 1) := by decide +kernel
theorem dL_isRefused_158 : decode cL_isRefused 158 = .ok (.invokestatic 168, 3) := by decide +kernel
theorem dL_isRefused_161 : decode cL_isRefused 161 = .ok (.sipush (-1271), 3) := by decide +kernel
theorem dL_isRefused_164 : decode cL_isRefused 164 = .ok (.if_icmp .ne 518, 3) := by decide +kernel
theorem dL_isRefused_167 : decode cL_isRefused 167 = .ok (.aload_n 0, 1) := by decide +kernel
theorem dL_isRefused_168 : decode cL_isRefused 168 = .ok (.iconst 3, 1) := by decide +kernel
theorem dL_isRefused_169 : decode cL_isRefused 169 = .ok (.iload_n 3, 1) := by decide +kernel
theorem dL_isRefused_170 : decode cL_isRefused 170 = .ok (.bipush 9, 2) := by decide +kernel
theorem dL_isRefused_172 : decode cL_isRefused 172 = .ok (.iconst 0, 1) := by decide +kernel
theorem dL_isRefused_173 : decode cL_isRefused 173 = .ok (.iconst 0, 1) := by decide +kernel
theorem dL_isRefused_174 : decode cL_isRefused 174 = .ok (.iconst 0, 1) := by decide +kernel
theorem dL_isRefused_175 : decode cL_isRefused 175 = .ok (.iconst 0, 1) := by decide +kernel
theorem dL_isRefused_176 : decode cL_isRefused 176 = .ok (.invokestatic 168, 3) := by decide +kernel
theorem dL_isRefused_179 : decode cL_isRefused 179 = .ok (.sipush (-1271), 3) := by decide +kernel
theorem dL_isRefused_182 : decode cL_isRefused 182 = .ok (.if_icmp .ne 500, 3) := by decide +kernel
theorem dL_isRefused_185 : decode cL_isRefused 185 = .ok (.aload_n 0, 1) := by decide +kernel
theorem dL_isRefused_186 : decode cL_isRefused 186 = .ok (.iconst 4, 1) := by decide +kernel
theorem dL_isRefused_187 : decode cL_isRefused 187 = .ok (.iload_n 3, 1) := by decide +kernel
theorem dL_isRefused_188 : decode cL_isRefused 188 = .ok (.iconst 1, 1) := by decide +kernel
theorem dL_isRefused_189 : decode cL_isRefused 189 = .ok (.iconst 0, 1) := by decide +kernel
theorem dL_isRefused_190 : decode cL_isRefused 190 = .ok (.iconst 0, 1) := by decide +kernel
theorem dL_isRefused_191 : decode cL_isRefused 191 = .ok (.iconst 0, 1) := by decide +kernel
theorem dL_isRefused_192 : decode cL_isRefused 192 = .ok (.iconst 0, 1) := by decide +kernel
theorem dL_isRefused_193 : decode cL_isRefused 193 = .ok (.invokestatic 168, 3) := by decide +kernel
theorem dL_isRefused_196 : decode cL_isRefused 196 = .ok (.sipush (-1271), 3) := by decide +kernel
theorem dL_isRefused_199 : decode cL_isRefused 199 = .ok (.if_icmp .ne 483, 3) := by decide +kernel
theorem dL_isRefused_202 : decode cL_isRefused 202 = .ok (.aload_n 0, 1) := by decide +kernel
theorem dL_isRefused_203 : decode cL_isRefused 203 = .ok (.iconst 5, 1) := by decide +kernel
theorem dL_isRefused_204 : decode cL_isRefused 204 = .ok (.iload_n 3, 1) := by decide +kernel
theorem dL_isRefused_205 : decode cL_isRefused 205 = .ok (.iconst 1, 1) := by decide +kernel
theorem dL_isRefused_206 : decode cL_isRefused 206 = .ok (.iconst 0, 1) := by decide +kernel
theorem dL_isRefused_207 : decode cL_isRefused 207 = .ok (.iconst 0, 1) := by decide +kernel
theorem dL_isRefused_208 : decode cL_isRefused 208 = .ok (.iconst 0, 1) := by decide +kernel
theorem dL_isRefused_209 : decode cL_isRefused 209 = .ok (.iconst 0, 1) := by decide +kernel
theorem dL_isRefused_210 : decode cL_isRefused 210 = .ok (.invokestatic 168, 3) := by decide +kernel
theorem dL_isRefused_213 : decode cL_isRefused 213 = .ok (.sipush (-1271), 3) := by decide +kernel
theorem dL_isRefused_216 : decode cL_isRefused 216 = .ok (.if_icmp .ne 466, 3) := by decide +kernel
theorem dL_isRefused_219 : decode cL_isRefused 219 = .ok (.aload_n 0, 1) := by decide +kernel
theorem dL_isRefused_220 : decode cL_isRefused 220 = .ok (.bipush 6, 2) := by decide +kernel
theorem dL_isRefused_222 : decode cL_isRefused 222 = .ok (.iload_n 2, 1) := by decide +kernel
theorem dL_isRefused_223 : decode cL_isRefused 223 = .ok (.ifCond .eq 12, 3) := by decide +kernel
theorem dL_isRefused_226 : decode cL_isRefused 226 = .ok (.iconst (-1), 1) := by decide +kernel
theorem dL_isRefused_227 : decode cL_isRefused 227 = .ok (.iload_n 1, 1) := by decide +kernel
theorem dL_isRefused_228 : decode cL_isRefused 228 = .ok (.bipush 30, 2) := by decide +kernel
theorem dL_isRefused_230 : decode cL_isRefused 230 = .ok (.irem, 1) := by decide +kernel
theorem dL_isRefused_231 : decode cL_isRefused 231 = .ok (.isub, 1) := by decide +kernel
theorem dL_isRefused_232 : decode cL_isRefused 232 = .ok (.goto 5, 3) := by decide +kernel
theorem dL_isRefused_235 : decode cL_isRefused 235 = .ok (.bipush 6, 2) := by decide +kernel
theorem dL_isRefused_237 : decode cL_isRefused 237 = .ok (.iconst 0, 1) := by decide +kernel
theorem dL_isRefused_238 : decode cL_isRefused 238 = .ok (.iconst 0, 1) := by decide +kernel
theorem dL_isRefused_239 : decode cL_isRefused 239 = .ok (.iconst 5, 1) := by decide +kernel
theorem dL_isRefused_240 : decode cL_isRefused 240 = .ok (.iconst 0, 1) := by decide +kernel
theorem dL_isRefused_241 : decode cL_isRefused 241 = .ok (.iconst 0, 1) := by decide +kernel
theorem dL_isRefused_242 : decode cL_isRefused 242 = .ok (.invokestatic 168, 3) := by decide +kernel
theorem dL_isRefused_245 : decode cL_isRefused 245 = .ok (.sipush (-1272), 3) := by decide +kernel
theorem dL_isRefused_248 : decode cL_isRefused 248 = .ok (.if_icmp .ne 434, 3) := by decide +kernel
theorem dL_isRefused_251 : decode cL_isRefused 251 = .ok (.aload_n 0, 1) := by decide +kernel
theorem dL_isRefused_252 : decode cL_isRefused 252 = .ok (.bipush 6, 2) := by decide +kernel
theorem dL_isRefused_254 : decode cL_isRefused 254 = .ok (.iconst 0, 1) := by decide +kernel
theorem dL_isRefused_255 : decode cL_isRefused 255 = .ok (.iconst 0, 1) := by decide +kernel
theorem dL_isRefused_256 : decode cL_isRefused 256 = .ok (.iload_n 1, 1) := by decide +kernel
theorem dL_isRefused_257 : decode cL_isRefused 257 = .ok (.bipush 30, 2) := by decide +kernel
theorem dL_isRefused_259 : decode cL_isRefused 259 = .ok (.irem, 1) := by decide +kernel
theorem dL_isRefused_260 : decode cL_isRefused 260 = .ok (.iconst 1, 1) := by decide +kernel
theorem dL_isRefused_261 : decode cL_isRefused 261 = .ok (.iadd, 1) := by decide +kernel
theorem dL_isRefused_262 : decode cL_isRefused 262 = .ok (.iload_n 1, 1) := by decide +kernel
theorem dL_isRefused_263 : decode cL_isRefused 263 = .ok (.bipush 30, 2) := by decide +kernel
theorem dL_isRefused_265 : decode cL_isRefused 265 = .ok (.irem, 1) := by decide +kernel
theorem dL_isRefused_266 : decode cL_isRefused 266 = .ok (.iconst 0, 1) := by decide +kernel
theorem dL_isRefused_267 : decode cL_isRefused 267 = .ok (.iconst 0, 1) := by decide +kernel
theorem dL_isRefused_268 : decode cL_isRefused 268 = .ok (.invokestatic 168, 3) := by decide +kernel
theorem dL_isRefused_271 : decode cL_isRefused 271 = .ok (.sipush (-1272), 3) := by decide +kernel
theorem dL_isRefused_274 : decode cL_isRefused 274 = .ok (.if_icmp .ne 408, 3) := by decide +kernel
theorem dL_isRefused_277 : decode cL_isRefused 277 = .ok (.aload_n 0, 1) := by decide +kernel
theorem dL_isRefused_278 : decode cL_isRefused 278 = .ok (.bipush 6, 2) := by decide +kernel
theorem dL_isRefused_280 : decode cL_isRefused 280 = .ok (.iconst 1, 1) := by decide +kernel
theorem dL_isRefused_281 : decode cL_isRefused 281 = .ok (.iconst 0, 1) := by decide +kernel
theorem dL_isRefused_282 : decode cL_isRefused 282 = .ok (.iconst 0, 1) := by decide +kernel
theorem dL_isRefused_283 : decode cL_isRefused 283 = .ok (.iconst 5, 1) := by decide +kernel
theorem dL_isRefused_284 : decode cL_isRefused 284 = .ok (.iconst 2, 1) := by decide +kernel
theorem dL_isRefused_285 : decode cL_isRefused 285 = .ok (.iconst 0, 1) := by decide +kernel
theorem dL_isRefused_286 : decode cL_isRefused 286 = .ok (.invokestatic 168, 3) := by decide +kernel
theorem dL_isRefused_289 : decode cL_isRefused 289 = .ok (.sipush (-1272), 3) := by decide +kernel
theorem dL_isRefused_292 : decode cL_isRefused 292 = .ok (.if_icmp .ne 390, 3) := by decide +kernel
theorem dL_isRefused_295 : decode cL_isRefused 295 = .ok (.aload_n 0, 1) := by decide +kernel
theorem dL_isRefused_296 : decode cL_isRefused 296 = .ok (.bipush 6, 2) := by decide +kernel
theorem dL_isRefused_298 : decode cL_isRefused 298 = .ok (.iconst 0, 1) := by decide +kernel
theorem dL_isRefused_299 : decode cL_isRefused 299 = .ok (.iconst 0, 1) := by decide +kernel
theorem dL_isRefused_300 : decode cL_isRefused 300 = .ok (.iconst 0, 1) := by decide +kernel
theorem dL_isRefused_301 : decode cL_isRefused 301 = .ok (.iconst 5, 1) := by decide +kernel
theorem dL_isRefused_302 : decode cL_isRefused 302 = .ok (.iconst 0, 1) := by decide +kernel
theorem dL_isRefused_303 : decode cL_isRefused 303 = .ok (.iload_n 2, 1) := by decide +kernel
theorem dL_isRefused_304 : decode cL_isRefused 304 = .ok (.ifCond .eq 12, 3) := by decide +kernel
theorem dL_isRefused_307 : decode cL_isRefused 307 = .ok (.iconst (-1), 1) := by decide +kernel
theorem dL_isRefused_308 : decode cL_isRefused 308 = .ok (.iload_n 1, 1) := by decide +kernel
theorem dL_isRefused_309 : decode cL_isRefused 309 = .ok (.bipush 30, 2) := by decide +kernel
theorem dL_isRefused_311 : decode cL_isRefused 311 = .ok (.irem, 1) := by decide +kernel
theorem dL_isRefused_312 : decode cL_isRefused 312 = .ok (.isub, 1) := by decide +kernel
theorem dL_isRefused_313 : decode cL_isRefused 313 = .ok (.goto 5, 3) := by decide +kernel
theorem dL_isRefused_316 : decode cL_isRefused 316 = .ok (.bipush 6, 2) := by decide +kernel
theorem dL_isRefused_318 : decode cL_isRefused 318 = .ok (.invokestatic 168, 3) := by decide +kernel
theorem dL_isRefused_321 : decode cL_isRefused 321 = .ok (.sipush (-1272), 3) := by decide +kernel
theorem dL_isRefused_324 : decode cL_isRefused 324 = .ok (.if_icmp .ne 358, 3) := by decide +kernel
theorem dL_isRefused_327 : decode cL_isRefused 327 = .ok (.aload_n 0, 1) := by decide +kernel
theorem dL_isRefused_328 : decode cL_isRefused 328 = .ok (.bipush 7, 2) := by decide +kernel
theorem dL_isRefused_330 : decode cL_isRefused 330 = .ok (.iconst 4, 1) := by decide +kernel
theorem dL_isRefused_331 : decode cL_isRefused 331 = .ok (.iconst 0, 1) := by decide +kernel
theorem dL_isRefused_332 : decode cL_isRefused 332 = .ok (.iconst 5, 1) := by decide +kernel
theorem dL_isRefused_333 : decode cL_isRefused 333 = .ok (.iconst 0, 1) := by decide +kernel
theorem dL_isRefused_334 : decode cL_isRefused 334 = .ok (.iconst 0, 1) := by decide +kernel
theorem dL_isRefused_335 : decode cL_isRefused 335 = .ok (.iconst 0, 1) := by decide +kernel
theorem dL_isRefused_336 : decode cL_isRefused 336 = .ok (.invokestatic 168, 3) := by decide +kernel
theorem dL_isRefused_339 : decode cL_isRefused 339 = .ok (.sipush (-1272), 3) := by decide +kernel
theorem dL_isRefused_342 : decode cL_isRefused 342 = .ok (.if_icmp .ne 340, 3) := by decide +kernel
theorem dL_isRefused_345 : decode cL_isRefused 345 = .ok (.aload_n 0, 1) := by decide +kernel
theorem dL_isRefused_346 : decode cL_isRefused 346 = .ok (.bipush 8, 2) := by decide +kernel
theorem dL_isRefused_348 : decode cL_isRefused 348 = .ok (.iload_n 2, 1) := by decide +kernel
theorem dL_isRefused_349 : decode cL_isRefused 349 = .ok (.ifCond .eq 12, 3) := by decide +kernel
theorem dL_isRefused_352 : decode cL_isRefused 352 = .ok (.iconst (-1), 1) := by decide +kernel
theorem dL_isRefused_353 : decode cL_isRefused 353 = .ok (.iload_n 1, 1) := by decide +kernel
theorem dL_isRefused_354 : decode cL_isRefused 354 = .ok (.bipush 30, 2) := by decide +kernel
theorem dL_isRefused_356 : decode cL_isRefused 356 = .ok (.irem, 1) := by decide +kernel
theorem dL_isRefused_357 : decode cL_isRefused 357 = .ok (.isub, 1) := by decide +kernel
theorem dL_isRefused_358 : decode cL_isRefused 358 = .ok (.goto 5, 3) := by decide +kernel
theorem dL_isRefused_361 : decode cL_isRefused 361 = .ok (.bipush 61, 2) := by decide +kernel
theorem dL_isRefused_363 : decode cL_isRefused 363 = .ok (.iconst 0, 1) := by decide +kernel
theorem dL_isRefused_364 : decode cL_isRefused 364 = .ok (.iconst 0, 1) := by decide +kernel
theorem dL_isRefused_365 : decode cL_isRefused 365 = .ok (.iconst 0, 1) := by decide +kernel
theorem dL_isRefused_366 : decode cL_isRefused 366 = .ok (.iconst 0, 1) := by decide +kernel
theorem dL_isRefused_367 : decode cL_isRefused 367 = .ok (.iconst 0, 1) := by decide +kernel
theorem dL_isRefused_368 : decode cL_isRefused 368 = .ok (.invokestatic 168, 3) := by decide +kernel
theorem dL_isRefused_371 : decode cL_isRefused 371 = .ok (.sipush (-1272), 3) := by decide +kernel
theorem dL_isRefused_374 : decode cL_isRefused 374 = .ok (.if_icmp .ne 308, 3) := by decide +kernel
theorem dL_isRefused_377 : decode cL_isRefused 377 = .ok (.aload_n 0, 1) := by decide +kernel
theorem dL_isRefused_378 : decode cL_isRefused 378 = .ok (.bipush 9, 2) := by decide +kernel
theorem dL_isRefused_380 : decode cL_isRefused 380 = .ok (.iload 4, 2) := by decide +kernel
theorem dL_isRefused_382 : decode cL_isRefused 382 = .ok (.iconst 5, 1) := by decide +kernel
theorem dL_isRefused_383 : decode cL_isRefused 383 = .ok (.iconst 0, 1) := by decide +kernel
theorem dL_isRefused_384 : decode cL_isRefused 384 = .ok (.iconst 0, 1) := by decide +kernel
theorem dL_isRefused_385 : decode cL_isRefused 385 = .ok (.iconst 0, 1) := by decide +kernel
theorem dL_isRefused_386 : decode cL_isRefused 386 = .ok (.iconst 0, 1) := by decide +kernel
theorem dL_isRefused_387 : decode cL_isRefused 387 = .ok (.invokestatic 168, 3) := by decide +kernel
theorem dL_isRefused_390 : decode cL_isRefused 390 = .ok (.sipush (-1272), 3) := by decide +kernel
theorem dL_isRefused_393 : decode cL_isRefused 393 = .ok (.if_icmp .ne 289, 3) := by decide +kernel
theorem dL_isRefused_396 : decode cL_isRefused 396 = .ok (.aload_n 0, 1) := by decide +kernel
theorem dL_isRefused_397 : decode cL_isRefused 397 = .ok (.bipush 9, 2) := by decide +kernel
theorem dL_isRefused_399 : decode cL_isRefused 399 = .ok (.iconst 0, 1) := by decide +kernel
theorem dL_isRefused_400 : decode cL_isRefused 400 = .ok (.iload_n 2, 1) := by decide +kernel
theorem dL_isRefused_401 : decode cL_isRefused 401 = .ok (.ifCond .eq 12, 3) := by decide +kernel
theorem dL_isRefused_404 : decode cL_isRefused 404 = .ok (.iconst 0, 1) := by decide +kernel
theorem dL_isRefused_405 : decode cL_isRefused 405 = .ok (.iload_n 1, 1) := by decide +kernel
theorem dL_isRefused_406 : decode cL_isRefused 406 = .ok (.bipush 30, 2) := by decide +kernel
theorem dL_isRefused_408 : decode cL_isRefused 408 = .ok (.irem, 1) := by decide +kernel
theorem dL_isRefused_409 : decode cL_isRefused 409 = .ok (.isub, 1) := by decide +kernel
theorem dL_isRefused_410 : decode cL_isRefused 410 = .ok (.goto 6, 3) := by decide +kernel
theorem dL_isRefused_413 : decode cL_isRefused 413 = .ok (.sipush 401, 3) := by decide +kernel
theorem dL_isRefused_416 : decode cL_isRefused 416 = .ok (.iconst 0, 1) := by decide +kernel
theorem dL_isRefused_417 : decode cL_isRefused 417 = .ok (.iconst 0, 1) := by decide +kernel
theorem dL_isRefused_418 : decode cL_isRefused 418 = .ok (.iconst 0, 1) := by decide +kernel
theorem dL_isRefused_419 : decode cL_isRefused 419 = .ok (.iconst 0, 1) := by decide +kernel
theorem dL_isRefused_420 : decode cL_isRefused 420 = .ok (.invokestatic 168, 3) := by decide +kernel
theorem dL_isRefused_423 : decode cL_isRefused 423 = .ok (.sipush (-1272), 3) := by decide +kernel
theorem dL_isRefused_426 : decode cL_isRefused 426 = .ok (.if_icmp .ne 256, 3) := by decide +kernel
theorem dL_isRefused_429 : decode cL_isRefused 429 = .ok (.aload_n 0, 1) := by decide +kernel
theorem dL_isRefused_430 : decode cL_isRefused 430 = .ok (.bipush 10, 2) := by decide +kernel
theorem dL_isRefused_432 : decode cL_isRefused 432 = .ok (.iload 4, 2) := by decide +kernel
theorem dL_isRefused_434 : decode cL_isRefused 434 = .ok (.iconst 0, 1) := by decide +kernel
theorem dL_isRefused_435 : decode cL_isRefused 435 = .ok (.iconst 0, 1) := by decide +kernel
theorem dL_isRefused_436 : decode cL_isRefused 436 = .ok (.iconst 0, 1) := by decide +kernel
theorem dL_isRefused_437 : decode cL_isRefused 437 = .ok (.iconst 0, 1) := by decide +kernel
theorem dL_isRefused_438 : decode cL_isRefused 438 = .ok (.iconst 0, 1) := by decide +kernel
theorem dL_isRefused_439 : decode cL_isRefused 439 = .ok (.invokestatic 168, 3) := by decide +kernel
theorem dL_isRefused_442 : decode cL_isRefused 442 = .ok (.sipush (-1272), 3) := by decide +kernel
theorem dL_isRefused_445 : decode cL_isRefused 445 = .ok (.if_icmp .ne 237, 3) := by decide +kernel
theorem dL_isRefused_448 : decode cL_isRefused 448 = .ok (.aload_n 0, 1) := by decide +kernel
theorem dL_isRefused_449 : decode cL_isRefused 449 = .ok (.bipush 11, 2) := by decide +kernel
theorem dL_isRefused_451 : decode cL_isRefused 451 = .ok (.iload_n 2, 1) := by decide +kernel
theorem dL_isRefused_452 : decode cL_isRefused 452 = .ok (.ifCond .eq 12, 3) := by decide +kernel
theorem dL_isRefused_455 : decode cL_isRefused 455 = .ok (.iconst 0, 1) := by decide +kernel
theorem dL_isRefused_456 : decode cL_isRefused 456 = .ok (.iload_n 1, 1) := by decide +kernel
theorem dL_isRefused_457 : decode cL_isRefused 457 = .ok (.bipush 30, 2) := by decide +kernel
theorem dL_isRefused_459 : decode cL_isRefused 459 = .ok (.irem, 1) := by decide +kernel
theorem dL_isRefused_460 : decode cL_isRefused 460 = .ok (.isub, 1) := by decide +kernel
theorem dL_isRefused_461 : decode cL_isRefused 461 = .ok (.goto 5, 3) := by decide +kernel
theorem dL_isRefused_464 : decode cL_isRefused 464 = .ok (.bipush 11, 2) := by decide +kernel
theorem dL_isRefused_466 : decode cL_isRefused 466 = .ok (.iconst 0, 1) := by decide +kernel
theorem dL_isRefused_467 : decode cL_isRefused 467 = .ok (.iconst 0, 1) := by decide +kernel
theorem dL_isRefused_468 : decode cL_isRefused 468 = .ok (.iconst 0, 1) := by decide +kernel
theorem dL_isRefused_469 : decode cL_isRefused 469 = .ok (.iconst 0, 1) := by decide +kernel
theorem dL_isRefused_470 : decode cL_isRefused 470 = .ok (.iconst 0, 1) := by decide +kernel
theorem dL_isRefused_471 : decode cL_isRefused 471 = .ok (.invokestatic 168, 3) := by decide +kernel
theorem dL_isRefused_474 : decode cL_isRefused 474 = .ok (.sipush (-1272), 3) := by decide +kernel
theorem dL_isRefused_477 : decode cL_isRefused 477 = .ok (.if_icmp .ne 205, 3) := by decide +kernel
theorem dL_isRefused_480 : decode cL_isRefused 480 = .ok (.aload_n 0, 1) := by decide +kernel
theorem dL_isRefused_481 : decode cL_isRefused 481 = .ok (.bipush 12, 2) := by decide +kernel
theorem dL_isRefused_483 : decode cL_isRefused 483 = .ok (.iload 5, 2) := by decide +kernel
theorem dL_isRefused_485 : decode cL_isRefused 485 = .ok (.iconst 0, 1) := by decide +kernel
theorem dL_isRefused_486 : decode cL_isRefused 486 = .ok (.iconst 0, 1) := by decide +kernel
theorem dL_isRefused_487 : decode cL_isRefused 487 = .ok (.iconst 0, 1) := by decide +kernel
theorem dL_isRefused_488 : decode cL_isRefused 488 = .ok (.iconst 0, 1) := by decide +kernel
theorem dL_isRefused_489 : decode cL_isRefused 489 = .ok (.iconst 0, 1) := by decide +kernel
theorem dL_isRefused_490 : decode cL_isRefused 490 = .ok (.invokestatic 168, 3) := by decide +kernel
theorem dL_isRefused_493 : decode cL_isRefused 493 = .ok (.sipush (-1272), 3) := by decide +kernel
theorem dL_isRefused_496 : decode cL_isRefused 496 = .ok (.if_icmp .ne 186, 3) := by decide +kernel
theorem dL_isRefused_499 : decode cL_isRefused 499 = .ok (.aload_n 0, 1) := by decide +kernel
theorem dL_isRefused_500 : decode cL_isRefused 500 = .ok (.bipush 12, 2) := by decide +kernel
theorem dL_isRefused_502 : decode cL_isRefused 502 = .ok (.iconst 0, 1) := by decide +kernel
theorem dL_isRefused_503 : decode cL_isRefused 503 = .ok (.iload_n 2, 1) := by decide +kernel
theorem dL_isRefused_504 : decode cL_isRefused 504 = .ok (.ifCond .eq 12, 3) := by decide +kernel
theorem dL_isRefused_507 : decode cL_isRefused 507 = .ok (.iconst (-1), 1) := by decide +kernel
theorem dL_isRefused_508 : decode cL_isRefused 508 = .ok (.iload_n 1, 1) := by decide +kernel
theorem dL_isRefused_509 : decode cL_isRefused 509 = .ok (.bipush 30, 2) := by decide +kernel
theorem dL_isRefused_511 : decode cL_isRefused 511 = .ok (.irem, 1) := by decide +kernel
theorem dL_isRefused_512 : decode cL_isRefused 512 = .ok (.isub, 1) := by decide +kernel
theorem dL_isRefused_513 : decode cL_isRefused 513 = .ok (.goto 9, 3) := by decide +kernel
theorem dL_isRefused_516 : decode cL_isRefused 516 = .ok (.aload_n 0, 1) := by decide +kernel
theorem dL_isRefused_517 : decode cL_isRefused 517 = .ok (.invokevirtual 151, 3) := by decide +kernel
theorem dL_isRefused_520 : decode cL_isRefused 520 = .ok (.iconst 1, 1) := by decide +kernel
theorem dL_isRefused_521 : decode cL_isRefused 521 = .ok (.iadd, 1) := by decide +kernel
theorem dL_isRefused_522 : decode cL_isRefused 522 = .ok (.iconst 0, 1) := by decide +kernel
theorem dL_isRefused_523 : decode cL_isRefused 523 = .ok (.iconst 0, 1) := by decide +kernel
theorem dL_isRefused_524 : decode cL_isRefused 524 = .ok (.iconst 0, 1) := by decide +kernel
theorem dL_isRefused_525 : decode cL_isRefused 525 = .ok (.iconst 0, 1) := by decide +kernel
theorem dL_isRefused_526 : decode cL_isRefused 526 = .ok (.invokestatic 168, 3) := by decide +kernel
theorem dL_isRefused_529 : decode cL_isRefused 529 = .ok (.sipush (-1272), 3) := by decide +kernel
theorem dL_isRefused_532 : decode cL_isRefused 532 = .ok (.if_icmp .ne 150, 3) := by decide +kernel
theorem dL_isRefused_535 : decode cL_isRefused 535 = .ok (.aload_n 0, 1) := by decide +kernel
theorem dL_isRefused_536 : decode cL_isRefused 536 = .ok (.bipush 13, 2) := by decide +kernel
theorem dL_isRefused_538 : decode cL_isRefused 538 = .ok (.iload 5, 2) := by decide +kernel
theorem dL_isRefused_540 : decode cL_isRefused 540 = .ok (.iconst 0, 1) := by decide +kernel
theorem dL_isRefused_541 : decode cL_isRefused 541 = .ok (.iconst 0, 1) := by decide +kernel
theorem dL_isRefused_542 : decode cL_isRefused 542 = .ok (.iconst 0, 1) := by decide +kernel
theorem dL_isRefused_543 : decode cL_isRefused 543 = .ok (.iconst 0, 1) := by decide +kernel
theorem dL_isRefused_544 : decode cL_isRefused 544 = .ok (.iconst 0, 1) := by decide +kernel
theorem dL_isRefused_545 : decode cL_isRefused 545 = .ok (.invokestatic 168, 3) := by decide +kernel
theorem dL_isRefused_548 : decode cL_isRefused 548 = .ok (.sipush (-1272), 3) := by decide +kernel
theorem dL_isRefused_551 : decode cL_isRefused 551 = .ok (.if_icmp .ne 131, 3) := by decide +kernel
theorem dL_isRefused_554 : decode cL_isRefused 554 = .ok (.aload_n 0, 1) := by decide +kernel
theorem dL_isRefused_555 : decode cL_isRefused 555 = .ok (.bipush 14, 2) := by decide +kernel
theorem dL_isRefused_557 : decode cL_isRefused 557 = .ok (.iload_n 2, 1) := by decide +kernel
theorem dL_isRefused_558 : decode cL_isRefused 558 = .ok (.ifCond .eq 12, 3) := by decide +kernel
theorem dL_isRefused_561 : decode cL_isRefused 561 = .ok (.iconst (-1), 1) := by decide +kernel
theorem dL_isRefused_562 : decode cL_isRefused 562 = .ok (.iload_n 1, 1) := by decide +kernel
theorem dL_isRefused_563 : decode cL_isRefused 563 = .ok (.bipush 30, 2) := by decide +kernel
theorem dL_isRefused_565 : decode cL_isRefused 565 = .ok (.irem, 1) := by decide +kernel
theorem dL_isRefused_566 : decode cL_isRefused 566 = .ok (.isub, 1) := by decide +kernel
theorem dL_isRefused_567 : decode cL_isRefused 567 = .ok (.goto 9, 3) := by decide +kernel
theorem dL_isRefused_570 : decode cL_isRefused 570 = .ok (.aload_n 0, 1) := by decide +kernel
theorem dL_isRefused_571 : decode cL_isRefused 571 = .ok (.invokevirtual 151, 3) := by decide +kernel
theorem dL_isRefused_574 : decode cL_isRefused 574 = .ok (.iconst 1, 1) := by decide +kernel
theorem dL_isRefused_575 : decode cL_isRefused 575 = .ok (.iadd, 1) := by decide +kernel
theorem dL_isRefused_576 : decode cL_isRefused 576 = .ok (.iconst 0, 1) := by decide +kernel
theorem dL_isRefused_577 : decode cL_isRefused 577 = .ok (.iconst 0, 1) := by decide +kernel
theorem dL_isRefused_578 : decode cL_isRefused 578 = .ok (.iconst 0, 1) := by decide +kernel
theorem dL_isRefused_579 : decode cL_isRefused 579 = .ok (.iconst 0, 1) := by decide +kernel
theorem dL_isRefused_580 : decode cL_isRefused 580 = .ok (.iconst 0, 1) := by decide +kernel
theorem dL_isRefused_581 : decode cL_isRefused 581 = .ok (.invokestatic 168, 3) := by decide +kernel
theorem dL_isRefused_584 : decode cL_isRefused 584 = .ok (.sipush (-1272), 3) := by decide +kernel
theorem dL_isRefused_587 : decode cL_isRefused 587 = .ok (.if_icmp .ne 95, 3) := by decide +kernel
theorem dL_isRefused_590 : decode cL_isRefused 590 = .ok (.aload_n 0, 1) := by decide +kernel
theorem dL_isRefused_591 : decode cL_isRefused 591 = .ok (.bipush 15, 2) := by decide +kernel
theorem dL_isRefused_593 : decode cL_isRefused 593 = .ok (.iload_n 2, 1) := by decide +kernel
theorem dL_isRefused_594 : decode cL_isRefused 594 = .ok (.ifCond .eq 12, 3) := by decide +kernel
theorem dL_isRefused_597 : decode cL_isRefused 597 = .ok (.iconst 0, 1) := by decide +kernel
theorem dL_isRefused_598 : decode cL_isRefused 598 = .ok (.iload_n 1, 1) := by decide +kernel
theorem dL_isRefused_599 : decode cL_isRefused 599 = .ok (.bipush 30, 2) := by decide +kernel
theorem dL_isRefused_601 : decode cL_isRefused 601 = .ok (.irem, 1) := by decide +kernel
theorem dL_isRefused_602 : decode cL_isRefused 602 = .ok (.isub, 1) := by decide +kernel
theorem dL_isRefused_603 : decode cL_isRefused 603 = .ok (.goto 5, 3) := by decide +kernel
theorem dL_isRefused_606 : decode cL_isRefused 606 = .ok (.bipush 101, 2) := by decide +kernel
theorem dL_isRefused_608 : decode cL_isRefused 608 = .ok (.iconst 0, 1) := by decide +kernel
theorem dL_isRefused_609 : decode cL_isRefused 609 = .ok (.iconst 0, 1) := by decide +kernel
theorem dL_isRefused_610 : decode cL_isRefused 610 = .ok (.iconst 0, 1) := by decide +kernel
theorem dL_isRefused_611 : decode cL_isRefused 611 = .ok (.iconst 0, 1) := by decide +kernel
theorem dL_isRefused_612 : decode cL_isRefused 612 = .ok (.iconst 0, 1) := by decide +kernel
theorem dL_isRefused_613 : decode cL_isRefused 613 = .ok (.invokestatic 168, 3) := by decide +kernel
theorem dL_isRefused_616 : decode cL_isRefused 616 = .ok (.sipush (-1272), 3) := by decide +kernel
theorem dL_isRefused_619 : decode cL_isRefused 619 = .ok (.if_icmp .ne 63, 3) := by decide +kernel
theorem dL_isRefused_622 : decode cL_isRefused 622 = .ok (.aload_n 0, 1) := by decide +kernel
theorem dL_isRefused_623 : decode cL_isRefused 623 = .ok (.bipush 16, 2) := by decide +kernel
theorem dL_isRefused_625 : decode cL_isRefused 625 = .ok (.iload_n 3, 1) := by decide +kernel
theorem dL_isRefused_626 : decode cL_isRefused 626 = .ok (.iconst 0, 1) := by decide +kernel
theorem dL_isRefused_627 : decode cL_isRefused 627 = .ok (.iconst 0, 1) := by decide +kernel
theorem dL_isRefused_628 : decode cL_isRefused 628 = .ok (.iconst 0, 1) := by decide +kernel
theorem dL_isRefused_629 : decode cL_isRefused 629 = .ok (.iconst 0, 1) := by decide +kernel
theorem dL_isRefused_630 : decode cL_isRefused 630 = .ok (.iconst 0, 1) := by decide +kernel
theorem dL_isRefused_631 : decode cL_isRefused 631 = .ok (.invokestatic 168, 3) := by decide +kernel
theorem dL_isRefused_634 : decode cL_isRefused 634 = .ok (.sipush (-1271), 3) := by decide +kernel
theorem dL_isRefused_637 : decode cL_isRefused 637 = .ok (.if_icmp .ne 45, 3) := by decide +kernel
theorem dL_isRefused_640 : decode cL_isRefused 640 = .ok (.aload_n 0, 1) := by decide +kernel
theorem dL_isRefused_641 : decode cL_isRefused 641 = .ok (.bipush 17, 2) := by decide +kernel
theorem dL_isRefused_643 : decode cL_isRefused 643 = .ok (.iload_n 3, 1) := by decide +kernel
theorem dL_isRefused_644 : decode cL_isRefused 644 = .ok (.bipush 50, 2) := by decide +kernel
theorem dL_isRefused_646 : decode cL_isRefused 646 = .ok (.iconst 0, 1) := by decide +kernel
theorem dL_isRefused_647 : decode cL_isRefused 647 = .ok (.iconst 0, 1) := by decide +kernel
theorem dL_isRefused_648 : decode cL_isRefused 648 = .ok (.iconst 0, 1) := by decide +kernel
theorem dL_isRefused_649 : decode cL_isRefused 649 = .ok (.iconst 0, 1) := by decide +kernel
theorem dL_isRefused_650 : decode cL_isRefused 650 = .ok (.invokestatic 168, 3) := by decide +kernel
theorem dL_isRefused_653 : decode cL_isRefused 653 = .ok (.sipush (-1271), 3) := by decide +kernel
theorem dL_isRefused_656 : decode cL_isRefused 656 = .ok (.if_icmp .ne 26, 3) := by decide +kernel
theorem dL_isRefused_659 : decode cL_isRefused 659 = .ok (.aload_n 0, 1) := by decide +kernel
theorem dL_isRefused_660 : decode cL_isRefused 660 = .ok (.bipush 18, 2) := by decide +kernel
theorem dL_isRefused_662 : decode cL_isRefused 662 = .ok (.iload 5, 2) := by decide +kernel
theorem dL_isRefused_664 : decode cL_isRefused 664 = .ok (.iconst 0, 1) := by decide +kernel
theorem dL_isRefused_665 : decode cL_isRefused 665 = .ok (.iconst 0, 1) := by decide +kernel
theorem dL_isRefused_666 : decode cL_isRefused 666 = .ok (.iconst 0, 1) := by decide +kernel
theorem dL_isRefused_667 : decode cL_isRefused 667 = .ok (.iconst 0, 1) := by decide +kernel
theorem dL_isRefused_668 : decode cL_isRefused 668 = .ok (.iconst 0, 1) := by decide +kernel
theorem dL_isRefused_669 : decode cL_isRefused 669 = .ok (.invokestatic 168, 3) := by decide +kernel
theorem dL_isRefused_672 : decode cL_isRefused 672 = .ok (.sipush (-1272), 3) := by decide +kernel
theorem dL_isRefused_675 : decode cL_isRefused 675 = .ok (.if_icmp .ne 7, 3) := by decide +kernel
theorem dL_isRefused_678 : decode cL_isRefused 678 = .ok (.iconst 1, 1) := by decide +kernel
theorem dL_isRefused_679 : decode cL_isRefused 679 = .ok (.goto 4, 3) := by decide +kernel
theorem dL_isRefused_682 : decode cL_isRefused 682 = .ok (.iconst 0, 1) := by decide +kernel
theorem dL_isRefused_683 : decode cL_isRefused 683 = .ok (.istore 8, 2) := by decide +kernel
theorem dL_isRefused_685 : decode cL_isRefused 685 = .ok (.iconst 0, 1) := by decide +kernel
theorem dL_isRefused_686 : decode cL_isRefused 686 = .ok (.istore 9, 2) := by decide +kernel
theorem dL_isRefused_688 : decode cL_isRefused 688 = .ok (.iload 9, 2) := by decide +kernel
theorem dL_isRefused_690 : decode cL_isRefused 690 = .ok (.bipush 12, 2) := by decide +kernel
theorem dL_isRefused_692 : decode cL_isRefused 692 = .ok (.if_icmp .ge 36, 3) := by decide +kernel
theorem dL_isRefused_695 : decode cL_isRefused 695 = .ok (.iload 8, 2) := by decide +kernel
theorem dL_isRefused_697 : decode cL_isRefused 697 = .ok (.ifCond .eq 31, 3) := by decide +kernel
theorem dL_isRefused_700 : decode cL_isRefused 700 = .ok (.aload_n 0, 1) := by decide +kernel
theorem dL_isRefused_701 : decode cL_isRefused 701 = .ok (.iload 9, 2) := by decide +kernel
theorem dL_isRefused_703 : decode cL_isRefused 703 = .ok (.iload_n 3, 1) := by decide +kernel
theorem dL_isRefused_704 : decode cL_isRefused 704 = .ok (.iconst 0, 1) := by decide +kernel
theorem dL_isRefused_705 : decode cL_isRefused 705 = .ok (.iconst 0, 1) := by decide +kernel
theorem dL_isRefused_706 : decode cL_isRefused 706 = .ok (.invokestatic 141, 3) := by decide +kernel
theorem dL_isRefused_709 : decode cL_isRefused 709 = .ok (.sipush (-1271), 3) := by decide +kernel
theorem dL_isRefused_712 : decode cL_isRefused 712 = .ok (.if_icmp .ne 7, 3) := by decide +kernel
theorem dL_isRefused_715 : decode cL_isRefused 715 = .ok (.iconst 1, 1) := by decide +kernel
theorem dL_isRefused_716 : decode cL_isRefused 716 = .ok (.goto 4, 3) := by decide +kernel
theorem dL_isRefused_719 : decode cL_isRefused 719 = .ok (.iconst 0, 1) := by decide +kernel
theorem dL_isRefused_720 : decode cL_isRefused 720 = .ok (.istore 8, 2) := by decide +kernel
theorem dL_isRefused_722 : decode cL_isRefused 722 = .ok (.iinc 9 1, 3) := by decide +kernel
theorem dL_isRefused_725 : decode cL_isRefused 725 = .ok (.goto (-37), 3) := by decide +kernel
theorem dL_isRefused_728 : decode cL_isRefused 728 = .ok (.iload 8, 2) := by decide +kernel
theorem dL_isRefused_730 : decode cL_isRefused 730 = .ok (.ifCond .eq 105, 3) := by decide +kernel
theorem dL_isRefused_733 : decode cL_isRefused 733 = .ok (.aload_n 0, 1) := by decide +kernel
theorem dL_isRefused_734 : decode cL_isRefused 734 = .ok (.bipush 13, 2) := by decide +kernel
theorem dL_isRefused_736 : decode cL_isRefused 736 = .ok (.iload 4, 2) := by decide +kernel
theorem dL_isRefused_738 : decode cL_isRefused 738 = .ok (.iconst 0, 1) := by decide +kernel
theorem dL_isRefused_739 : decode cL_isRefused 739 = .ok (.iconst 0, 1) := by decide +kernel
theorem dL_isRefused_740 : decode cL_isRefused 740 = .ok (.invokestatic 141, 3) := by decide +kernel
theorem dL_isRefused_743 : decode cL_isRefused 743 = .ok (.sipush (-1272), 3) := by decide +kernel
theorem dL_isRefused_746 : decode cL_isRefused 746 = .ok (.if_icmp .ne 89, 3) := by decide +kernel
theorem dL_isRefused_749 : decode cL_isRefused 749 = .ok (.aload_n 0, 1) := by decide +kernel
theorem dL_isRefused_750 : decode cL_isRefused 750 = .ok (.bipush 14, 2) := by decide +kernel
theorem dL_isRefused_752 : decode cL_isRefused 752 = .ok (.iload 4, 2) := by decide +kernel
theorem dL_isRefused_754 : decode cL_isRefused 754 = .ok (.iconst (-1), 1) := by decide +kernel
theorem dL_isRefused_755 : decode cL_isRefused 755 = .ok (.iconst 0, 1) := by decide +kernel
theorem dL_isRefused_756 : decode cL_isRefused 756 = .ok (.invokestatic 141, 3) := by decide +kernel
theorem dL_isRefused_759 : decode cL_isRefused 759 = .ok (.sipush (-1272), 3) := by decide +kernel
theorem dL_isRefused_762 : decode cL_isRefused 762 = .ok (.if_icmp .ne 73, 3) := by decide +kernel
theorem dL_isRefused_765 : decode cL_isRefused 765 = .ok (.aload_n 0, 1) := by decide +kernel
theorem dL_isRefused_766 : decode cL_isRefused 766 = .ok (.bipush 14, 2) := by decide +kernel
theorem dL_isRefused_768 : decode cL_isRefused 768 = .ok (.iconst 0, 1) := by decide +kernel
theorem dL_isRefused_769 : decode cL_isRefused 769 = .ok (.iconst (-1), 1) := by decide +kernel
theorem dL_isRefused_770 : decode cL_isRefused 770 = .ok (.iload_n 1, 1) := by decide +kernel
theorem dL_isRefused_771 : decode cL_isRefused 771 = .ok (.bipush 30, 2) := by decide +kernel
theorem dL_isRefused_773 : decode cL_isRefused 773 = .ok (.irem, 1) := by decide +kernel
theorem dL_isRefused_774 : decode cL_isRefused 774 = .ok (.isub, 1) := by decide +kernel
theorem dL_isRefused_775 : decode cL_isRefused 775 = .ok (.iconst 0, 1) := by decide +kernel
theorem dL_isRefused_776 : decode cL_isRefused 776 = .ok (.invokestatic 141, 3) := by decide +kernel
theorem dL_isRefused_779 : decode cL_isRefused 779 = .ok (.sipush (-1271), 3) := by decide +kernel
theorem dL_isRefused_782 : decode cL_isRefused 782 = .ok (.if_icmp .ne 53, 3) := by decide +kernel
theorem dL_isRefused_785 : decode cL_isRefused 785 = .ok (.aload_n 0, 1) := by decide +kernel
theorem dL_isRefused_786 : decode cL_isRefused 786 = .ok (.bipush 15, 2) := by decide +kernel
theorem dL_isRefused_788 : decode cL_isRefused 788 = .ok (.iconst 0, 1) := by decide +kernel
theorem dL_isRefused_789 : decode cL_isRefused 789 = .ok (.iload_n 3, 1) := by decide +kernel
theorem dL_isRefused_790 : decode cL_isRefused 790 = .ok (.iconst 0, 1) := by decide +kernel
theorem dL_isRefused_791 : decode cL_isRefused 791 = .ok (.invokestatic 141, 3) := by decide +kernel
theorem dL_isRefused_794 : decode cL_isRefused 794 = .ok (.sipush (-1271), 3) := by decide +kernel
theorem dL_isRefused_797 : decode cL_isRefused 797 = .ok (.if_icmp .ne 38, 3) := by decide +kernel
theorem dL_isRefused_800 : decode cL_isRefused 800 = .ok (.aload_n 0, 1) := by decide +kernel
theorem dL_isRefused_801 : decode cL_isRefused 801 = .ok (.bipush 16, 2) := by decide +kernel
theorem dL_isRefused_803 : decode cL_isRefused 803 = .ok (.iload 4, 2) := by decide +kernel
theorem dL_isRefused_805 : decode cL_isRefused 805 = .ok (.iload_n 3, 1) := by decide +kernel
theorem dL_isRefused_806 : decode cL_isRefused 806 = .ok (.iconst 0, 1) := by decide +kernel
theorem dL_isRefused_807 : decode cL_isRefused 807 = .ok (.invokestatic 141, 3) := by decide +kernel
theorem dL_isRefused_810 : decode cL_isRefused 810 = .ok (.sipush (-1272), 3) := by decide +kernel
theorem dL_isRefused_813 : decode cL_isRefused 813 = .ok (.if_icmp .ne 22, 3) := by decide +kernel
theorem dL_isRefused_816 : decode cL_isRefused 816 = .ok (.aload_n 0, 1) := by decide +kernel
theorem dL_isRefused_817 : decode cL_isRefused 817 = .ok (.bipush 16, 2) := by decide +kernel
theorem dL_isRefused_819 : decode cL_isRefused 819 = .ok (.iconst 0, 1) := by decide +kernel
theorem dL_isRefused_820 : decode cL_isRefused 820 = .ok (.iload_n 3, 1) := by decide +kernel
theorem dL_isRefused_821 : decode cL_isRefused 821 = .ok (.iconst 0, 1) := by decide +kernel
theorem dL_isRefused_822 : decode cL_isRefused 822 = .ok (.invokestatic 141, 3) := by decide +kernel
theorem dL_isRefused_825 : decode cL_isRefused 825 = .ok (.sipush (-1271), 3) := by decide +kernel
theorem dL_isRefused_828 : decode cL_isRefused 828 = .ok (.if_icmp .ne 7, 3) := by decide +kernel
theorem dL_isRefused_831 : decode cL_isRefused 831 = .ok (.iconst 1, 1) := by decide +kernel
theorem dL_isRefused_832 : decode cL_isRefused 832 = .ok (.goto 4, 3) := by decide +kernel
theorem dL_isRefused_835 : decode cL_isRefused 835 = .ok (.iconst 0, 1) := by decide +kernel
theorem dL_isRefused_836 : decode cL_isRefused 836 = .ok (.istore 8, 2) := by decide +kernel
theorem dL_isRefused_838 : decode cL_isRefused 838 = .ok (.iconst 0, 1) := by decide +kernel
theorem dL_isRefused_839 : decode cL_isRefused 839 = .ok (.istore 9, 2) := by decide +kernel
theorem dL_isRefused_841 : decode cL_isRefused 841 = .ok (.iload 9, 2) := by decide +kernel
theorem dL_isRefused_843 : decode cL_isRefused 843 = .ok (.aload_n 0, 1) := by decide +kernel
theorem dL_isRefused_844 : decode cL_isRefused 844 = .ok (.invokevirtual 155, 3) := by decide +kernel
theorem dL_isRefused_847 : decode cL_isRefused 847 = .ok (.if_icmp .ge 500, 3) := by decide +kernel
theorem dL_isRefused_850 : decode cL_isRefused 850 = .ok (.iload 8, 2) := by decide +kernel
theorem dL_isRefused_852 : decode cL_isRefused 852 = .ok (.ifCond .eq 495, 3) := by decide +kernel
theorem dL_isRefused_855 : decode cL_isRefused 855 = .ok (.aload_n 0, 1) := by decide +kernel
theorem dL_isRefused_856 : decode cL_isRefused 856 = .ok (.iload 9, 2) := by decide +kernel
theorem dL_isRefused_858 : decode cL_isRefused 858 = .ok (.invokevirtual 83, 3) := by decide +kernel
theorem dL_isRefused_861 : decode cL_isRefused 861 = .ok (.istore 10, 2) := by decide +kernel
theorem dL_isRefused_863 : decode cL_isRefused 863 = .ok (.iload 10, 2) := by decide +kernel
theorem dL_isRefused_865 : decode cL_isRefused 865 = .ok (.iconst 4, 1) := by decide +kernel
theorem dL_isRefused_866 : decode cL_isRefused 866 = .ok (.if_icmp .ne 8, 3) := by decide +kernel
theorem dL_isRefused_869 : decode cL_isRefused 869 = .ok (.bipush 7, 2) := by decide +kernel
theorem dL_isRefused_871 : decode cL_isRefused 871 = .ok (.goto 4, 3) := by decide +kernel
theorem dL_isRefused_874 : decode cL_isRefused 874 = .ok (.iconst 1, 1) := by decide +kernel
theorem dL_isRefused_875 : decode cL_isRefused 875 = .ok (.istore 11, 2) := by decide +kernel
theorem dL_isRefused_877 : decode cL_isRefused 877 = .ok (.aload_n 0, 1) := by decide +kernel
theorem dL_isRefused_878 : decode cL_isRefused 878 = .ok (.iload 9, 2) := by decide +kernel
theorem dL_isRefused_880 : decode cL_isRefused 880 = .ok (.iload 11, 2) := by decide +kernel
theorem dL_isRefused_882 : decode cL_isRefused 882 = .ok (.invokevirtual 89, 3) := by decide +kernel
theorem dL_isRefused_885 : decode cL_isRefused 885 = .ok (.ifCond .ne 7, 3) := by decide +kernel
theorem dL_isRefused_888 : decode cL_isRefused 888 = .ok (.iconst 1, 1) := by decide +kernel
theorem dL_isRefused_889 : decode cL_isRefused 889 = .ok (.goto 4, 3) := by decide +kernel
theorem dL_isRefused_892 : decode cL_isRefused 892 = .ok (.iconst 0, 1) := by decide +kernel
theorem dL_isRefused_893 : decode cL_isRefused 893 = .ok (.istore 12, 2) := by decide +kernel
theorem dL_isRefused_895 : decode cL_isRefused 895 = .ok (.aload_n 0, 1) := by decide +kernel
theorem dL_isRefused_896 : decode cL_isRefused 896 = .ok (.iconst 1, 1) := by decide +kernel
theorem dL_isRefused_897 : decode cL_isRefused 897 = .ok (.iload 5, 2) := by decide +kernel
theorem dL_isRefused_899 : decode cL_isRefused 899 = .ok (.iload 9, 2) := by decide +kernel
theorem dL_isRefused_901 : decode cL_isRefused 901 = .ok (.iload 11, 2) := by decide +kernel
theorem dL_isRefused_903 : decode cL_isRefused 903 = .ok (.iconst 0, 1) := by decide +kernel
theorem dL_isRefused_904 : decode cL_isRefused 904 = .ok (.iconst (-1), 1) := by decide +kernel
theorem dL_isRefused_905 : decode cL_isRefused 905 = .ok (.iconst 1, 1) := by decide +kernel
theorem dL_isRefused_906 : decode cL_isRefused 906 = .ok (.invokestatic 168, 3) := by decide +kernel
theorem dL_isRefused_909 : decode cL_isRefused 909 = .ok (.sipush (-1272), 3) := by decide +kernel
theorem dL_isRefused_912 : decode cL_isRefused 912 = .ok (.if_icmp .ne 426, 3) := by decide +kernel
theorem dL_isRefused_915 : decode cL_isRefused 915 = .ok (.aload_n 0, 1) := by decide +kernel
theorem dL_isRefused_916 : decode cL_isRefused 916 = .ok (.iconst 1, 1) := by decide +kernel
theorem dL_isRefused_917 : decode cL_isRefused 917 = .ok (.iconst 0, 1) := by decide +kernel
theorem dL_isRefused_918 : decode cL_isRefused 918 = .ok (.iload 9, 2) := by decide +kernel
theorem dL_isRefused_920 : decode cL_isRefused 920 = .ok (.iload 10, 2) := by decide +kernel
theorem dL_isRefused_922 : decode cL_isRefused 922 = .ok (.iconst 4, 1) := by decide +kernel
theorem dL_isRefused_923 : decode cL_isRefused 923 = .ok (.if_icmp .ne 7, 3) := by decide +kernel
theorem dL_isRefused_926 : decode cL_isRefused 926 = .ok (.iconst 1, 1) := by decide +kernel
theorem dL_isRefused_927 : decode cL_isRefused 927 = .ok (.goto 5, 3) := by decide +kernel
theorem dL_isRefused_930 : decode cL_isRefused 930 = .ok (.bipush 7, 2) := by decide +kernel
theorem dL_isRefused_932 : decode cL_isRefused 932 = .ok (.iconst 0, 1) := by decide +kernel
theorem dL_isRefused_933 : decode cL_isRefused 933 = .ok (.iconst (-1), 1) := by decide +kernel
theorem dL_isRefused_934 : decode cL_isRefused 934 = .ok (.iconst 1, 1) := by decide +kernel
theorem dL_isRefused_935 : decode cL_isRefused 935 = .ok (.invokestatic 168, 3) := by decide +kernel
theorem dL_isRefused_938 : decode cL_isRefused 938 = .ok (.sipush (-1272), 3) := by decide +kernel
theorem dL_isRefused_941 : decode cL_isRefused 941 = .ok (.if_icmp .ne 397, 3) := by decide +kernel
theorem dL_isRefused_944 : decode cL_isRefused 944 = .ok (.aload_n 0, 1) := by decide +kernel
theorem dL_isRefused_945 : decode cL_isRefused 945 = .ok (.iconst 1, 1) := by decide +kernel
theorem dL_isRefused_946 : decode cL_isRefused 946 = .ok (.iconst 0, 1) := by decide +kernel
theorem dL_isRefused_947 : decode cL_isRefused 947 = .ok (.iload 9, 2) := by decide +kernel
theorem dL_isRefused_949 : decode cL_isRefused 949 = .ok (.iload 11, 2) := by decide +kernel
theorem dL_isRefused_951 : decode cL_isRefused 951 = .ok (.iload_n 2, 1) := by decide +kernel
theorem dL_isRefused_952 : decode cL_isRefused 952 = .ok (.ifCond .eq 12, 3) := by decide +kernel
theorem dL_isRefused_955 : decode cL_isRefused 955 = .ok (.iconst (-1), 1) := by decide +kernel
theorem dL_isRefused_956 : decode cL_isRefused 956 = .ok (.iload_n 1, 1) := by decide +kernel
theorem dL_isRefused_957 : decode cL_isRefused 957 = .ok (.bipush 30, 2) := by decide +kernel
theorem dL_isRefused_959 : decode cL_isRefused 959 = .ok (.irem, 1) := by decide +kernel
theorem dL_isRefused_960 : decode cL_isRefused 960 = .ok (.isub, 1) := by decide +kernel
theorem dL_isRefused_961 : decode cL_isRefused 961 = .ok (.goto 5, 3) := by decide +kernel
theorem dL_isRefused_964 : decode cL_isRefused 964 = .ok (.bipush 10, 2) := by decide +kernel
theorem dL_isRefused_966 : decode cL_isRefused 966 = .ok (.iconst (-1), 1) := by decide +kernel
theorem dL_isRefused_967 : decode cL_isRefused 967 = .ok (.iconst 1, 1) := by decide +kernel
theorem dL_isRefused_968 : decode cL_isRefused 968 = .ok (.invokestatic 168, 3) := by decide +kernel
theorem dL_isRefused_971 : decode cL_isRefused 971 = .ok (.sipush (-1272), 3) := by decide +kernel
theorem dL_isRefused_974 : decode cL_isRefused 974 = .ok (.if_icmp .ne 364, 3) := by decide +kernel
theorem dL_isRefused_977 : decode cL_isRefused 977 = .ok (.aload_n 0, 1) := by decide +kernel
theorem dL_isRefused_978 : decode cL_isRefused 978 = .ok (.iconst 1, 1) := by decide +kernel
theorem dL_isRefused_979 : decode cL_isRefused 979 = .ok (.iconst 0, 1) := by decide +kernel
theorem dL_isRefused_980 : decode cL_isRefused 980 = .ok (.iload 9, 2) := by decide +kernel
theorem dL_isRefused_982 : decode cL_isRefused 982 = .ok (.iload 11, 2) := by decide +kernel
theorem dL_isRefused_984 : decode cL_isRefused 984 = .ok (.iconst 0, 1) := by decide +kernel
theorem dL_isRefused_985 : decode cL_isRefused 985 = .ok (.aload_n 0, 1) := by decide +kernel
theorem dL_isRefused_986 : decode cL_isRefused 986 = .ok (.iload 9, 2) := by decide +kernel
theorem dL_isRefused_988 : decode cL_isRefused 988 = .ok (.invokevirtual 95, 3) := by decide +kernel
theorem dL_isRefused_991 : decode cL_isRefused 991 = .ok (.iconst 1, 1) := by decide +kernel
theorem dL_isRefused_992 : decode cL_isRefused 992 = .ok (.iadd, 1) := by decide +kernel
theorem dL_isRefused_993 : decode cL_isRefused 993 = .ok (.iload_n 1, 1) := by decide +kernel
theorem dL_isRefused_994 : decode cL_isRefused 994 = .ok (.bipush 30, 2) := by decide +kernel
theorem dL_isRefused_996 : decode cL_isRefused 996 = .ok (.irem, 1) := by decide +kernel
theorem dL_isRefused_997 : decode cL_isRefused 997 = .ok (.iadd, 1) := by decide +kernel
theorem dL_isRefused_998 : decode cL_isRefused 998 = .ok (.iconst 1, 1) := by decide +kernel
theorem dL_isRefused_999 : decode cL_isRefused 999 = .ok (.invokestatic 168, 3) := by decide +kernel
theorem dL_isRefused_1002 : decode cL_isRefused 1002 = .ok (.sipush (-1273), 3) := by decide +kernel
theorem dL_isRefused_1005 : decode cL_isRefused 1005 = .ok (.if_icmp .ne 333, 3) := by decide +kernel
theorem dL_isRefused_1008 : decode cL_isRefused 1008 = .ok (.aload_n 0, 1) := by decide +kernel
theorem dL_isRefused_1009 : decode cL_isRefused 1009 = .ok (.iconst 1, 1) := by decide +kernel
theorem dL_isRefused_1010 : decode cL_isRefused 1010 = .ok (.iload 12, 2) := by decide +kernel
theorem dL_isRefused_1012 : decode cL_isRefused 1012 = .ok (.iload 9, 2) := by decide +kernel
theorem dL_isRefused_1014 : decode cL_isRefused 1014 = .ok (.iload 11, 2) := by decide +kernel
theorem dL_isRefused_1016 : decode cL_isRefused 1016 = .ok (.iconst 0, 1) := by decide +kernel
theorem dL_isRefused_1017 : decode cL_isRefused 1017 = .ok (.iconst (-1), 1) := by decide +kernel
theorem dL_isRefused_1018 : decode cL_isRefused 1018 = .ok (.iconst 0, 1) := by decide +kernel
theorem dL_isRefused_1019 : decode cL_isRefused 1019 = .ok (.invokestatic 168, 3) := by decide +kernel
theorem dL_isRefused_1022 : decode cL_isRefused 1022 = .ok (.sipush (-1273), 3) := by decide +kernel
theorem dL_isRefused_1025 : decode cL_isRefused 1025 = .ok (.if_icmp .ne 313, 3) := by decide +kernel
theorem dL_isRefused_1028 : decode cL_isRefused 1028 = .ok (.aload_n 0, 1) := by decide +kernel
theorem dL_isRefused_1029 : decode cL_isRefused 1029 = .ok (.iconst 3, 1) := by decide +kernel
theorem dL_isRefused_1030 : decode cL_isRefused 1030 = .ok (.iload 9, 2) := by decide +kernel
theorem dL_isRefused_1032 : decode cL_isRefused 1032 = .ok (.iload_n 2, 1) := by decide +kernel
theorem dL_isRefused_1033 : decode cL_isRefused 1033 = .ok (.ifCond .eq 12, 3) := by decide +kernel
theorem dL_isRefused_1036 : decode cL_isRefused 1036 = .ok (.iconst 0, 1) := by decide +kernel
theorem dL_isRefused_1037 : decode cL_isRefused 1037 = .ok (.iload_n 1, 1) := by decide +kernel
theorem dL_isRefused_1038 : decode cL_isRefused 1038 = .ok (.bipush 30, 2) := by decide +kernel
theorem dL_isRefused_1040 : decode cL_isRefused 1040 = .ok (.irem, 1) := by decide +kernel
theorem dL_isRefused_1041 : decode cL_isRefused 1041 = .ok (.isub, 1) := by decide +kernel
theorem dL_isRefused_1042 : decode cL_isRefused 1042 = .ok (.goto 4, 3) := by decide +kernel
theorem dL_isRefused_1045 : decode cL_isRefused 1045 = .ok (.iconst 4, 1) := by decide +kernel
theorem dL_isRefused_1046 : decode cL_isRefused 1046 = .ok (.iconst 0, 1) := by decide +kernel
theorem dL_isRefused_1047 : decode cL_isRefused 1047 = .ok (.iconst 0, 1) := by decide +kernel
theorem dL_isRefused_1048 : decode cL_isRefused 1048 = .ok (.iconst 0, 1) := by decide +kernel
theorem dL_isRefused_1049 : decode cL_isRefused 1049 = .ok (.iconst 0, 1) := by decide +kernel
theorem dL_isRefused_1050 : decode cL_isRefused 1050 = .ok (.invokestatic 168, 3) := by decide +kernel
theorem dL_isRefused_1053 : decode cL_isRefused 1053 = .ok (.sipush (-1272), 3) := by decide +kernel
theorem dL_isRefused_1056 : decode cL_isRefused 1056 = .ok (.if_icmp .ne 282, 3) := by decide +kernel
theorem dL_isRefused_1059 : decode cL_isRefused 1059 = .ok (.iload 10, 2) := by decide +kernel
theorem dL_isRefused_1061 : decode cL_isRefused 1061 = .ok (.iconst 2, 1) := by decide +kernel
theorem dL_isRefused_1062 : decode cL_isRefused 1062 = .ok (.if_icmp .eq 21, 3) := by decide +kernel
theorem dL_isRefused_1065 : decode cL_isRefused 1065 = .ok (.aload_n 0, 1) := by decide +kernel
theorem dL_isRefused_1066 : decode cL_isRefused 1066 = .ok (.iconst 5, 1) := by decide +kernel
theorem dL_isRefused_1067 : decode cL_isRefused 1067 = .ok (.iload 9, 2) := by decide +kernel
theorem dL_isRefused_1069 : decode cL_isRefused 1069 = .ok (.iconst 0, 1) := by decide +kernel
theorem dL_isRefused_1070 : decode cL_isRefused 1070 = .ok (.iconst 0, 1) := by decide +kernel
theorem dL_isRefused_1071 : decode cL_isRefused 1071 = .ok (.iconst 0, 1) := by decide +kernel
theorem dL_isRefused_1072 : decode cL_isRefused 1072 = .ok (.iconst 0, 1) := by decide +kernel
theorem dL_isRefused_1073 : decode cL_isRefused 1073 = .ok (.iconst 0, 1) := by decide +kernel
theorem dL_isRefused_1074 : decode cL_isRefused 1074 = .ok (.invokestatic 168, 3) := by decide +kernel
theorem dL_isRefused_1077 : decode cL_isRefused 1077 = .ok (.sipush (-1272), 3) := by decide +kernel
theorem dL_isRefused_1080 : decode cL_isRefused 1080 = .ok (.if_icmp .ne 258, 3) := by decide +kernel
theorem dL_isRefused_1083 : decode cL_isRefused 1083 = .ok (.iload 10, 2) := by decide +kernel
theorem dL_isRefused_1085 : decode cL_isRefused 1085 = .ok (.iconst 4, 1) := by decide +kernel
theorem dL_isRefused_1086 : decode cL_isRefused 1086 = .ok (.if_icmp .eq 22, 3) := by decide +kernel
theorem dL_isRefused_1089 : decode cL_isRefused 1089 = .ok (.aload_n 0, 1) := by decide +kernel
theorem dL_isRefused_1090 : decode cL_isRefused 1090 = .ok (.bipush 16, 2) := by decide +kernel
theorem dL_isRefused_1092 : decode cL_isRefused 1092 = .ok (.iload 9, 2) := by decide +kernel
theorem dL_isRefused_1094 : decode cL_isRefused 1094 = .ok (.iconst 0, 1) := by decide +kernel
theorem dL_isRefused_1095 : decode cL_isRefused 1095 = .ok (.iconst 0, 1) := by decide +kernel
theorem dL_isRefused_1096 : decode cL_isRefused 1096 = .ok (.iconst 0, 1) := by decide +kernel
theorem dL_isRefused_1097 : decode cL_isRefused 1097 = .ok (.iconst 0, 1) := by decide +kernel
theorem dL_isRefused_1098 : decode cL_isRefused 1098 = .ok (.iconst 0, 1) := by decide +kernel
theorem dL_isRefused_1099 : decode cL_isRefused 1099 = .ok (.invokestatic 168, 3) := by decide +kernel
theorem dL_isRefused_1102 : decode cL_isRefused 1102 = .ok (.sipush (-1272), 3) := by decide +kernel
theorem dL_isRefused_1105 : decode cL_isRefused 1105 = .ok (.if_icmp .ne 233, 3) := by decide +kernel
theorem dL_isRefused_1108 : decode cL_isRefused 1108 = .ok (.iload 10, 2) := by decide +kernel
theorem dL_isRefused_1110 : decode cL_isRefused 1110 = .ok (.ifCond .ne 108, 3) := by decide +kernel
theorem dL_isRefused_1113 : decode cL_isRefused 1113 = .ok (.aload_n 0, 1) := by decide +kernel
theorem dL_isRefused_1114 : decode cL_isRefused 1114 = .ok (.iconst 2, 1) := by decide +kernel
theorem dL_isRefused_1115 : decode cL_isRefused 1115 = .ok (.iconst 0, 1) := by decide +kernel
theorem dL_isRefused_1116 : decode cL_isRefused 1116 = .ok (.iload 9, 2) := by decide +kernel
theorem dL_isRefused_1118 : decode cL_isRefused 1118 = .ok (.iload_n 2, 1) := by decide +kernel
theorem dL_isRefused_1119 : decode cL_isRefused 1119 = .ok (.ifCond .eq 12, 3) := by decide +kernel
theorem dL_isRefused_1122 : decode cL_isRefused 1122 = .ok (.iconst (-1), 1) := by decide +kernel
theorem dL_isRefused_1123 : decode cL_isRefused 1123 = .ok (.iload_n 1, 1) := by decide +kernel
theorem dL_isRefused_1124 : decode cL_isRefused 1124 = .ok (.bipush 30, 2) := by decide +kernel
theorem dL_isRefused_1126 : decode cL_isRefused 1126 = .ok (.irem, 1) := by decide +kernel
theorem dL_isRefused_1127 : decode cL_isRefused 1127 = .ok (.isub, 1) := by decide +kernel
theorem dL_isRefused_1128 : decode cL_isRefused 1128 = .ok (.goto 5, 3) := by decide +kernel
theorem dL_isRefused_1131 : decode cL_isRefused 1131 = .ok (.bipush 30, 2) := by decide +kernel
theorem dL_isRefused_1133 : decode cL_isRefused 1133 = .ok (.iconst 1, 1) := by decide +kernel
theorem dL_isRefused_1134 : decode cL_isRefused 1134 = .ok (.iconst 0, 1) := by decide +kernel
theorem dL_isRefused_1135 : decode cL_isRefused 1135 = .ok (.iconst 0, 1) := by decide +kernel
theorem dL_isRefused_1136 : decode cL_isRefused 1136 = .ok (.invokestatic 168, 3) := by decide +kernel
theorem dL_isRefused_1139 : decode cL_isRefused 1139 = .ok (.sipush (-1272), 3) := by decide +kernel
theorem dL_isRefused_1142 : decode cL_isRefused 1142 = .ok (.if_icmp .ne 196, 3) := by decide +kernel
theorem dL_isRefused_1145 : decode cL_isRefused 1145 = .ok (.aload_n 0, 1) := by decide +kernel
theorem dL_isRefused_1146 : decode cL_isRefused 1146 = .ok (.iconst 2, 1) := by decide +kernel
theorem dL_isRefused_1147 : decode cL_isRefused 1147 = .ok (.iconst 0, 1) := by decide +kernel
theorem dL_isRefused_1148 : decode cL_isRefused 1148 = .ok (.iload 9, 2) := by decide +kernel
theorem dL_isRefused_1150 : decode cL_isRefused 1150 = .ok (.iconst 3, 1) := by decide +kernel
theorem dL_isRefused_1151 : decode cL_isRefused 1151 = .ok (.iconst 1, 1) := by decide +kernel
theorem dL_isRefused_1152 : decode cL_isRefused 1152 = .ok (.iconst 0, 1) := by decide +kernel
theorem dL_isRefused_1153 : decode cL_isRefused 1153 = .ok (.iconst 0, 1) := by decide +kernel
theorem dL_isRefused_1154 : decode cL_isRefused 1154 = .ok (.invokestatic 168, 3) := by decide +kernel
theorem dL_isRefused_1157 : decode cL_isRefused 1157 = .ok (.sipush (-1272), 3) := by decide +kernel
theorem dL_isRefused_1160 : decode cL_isRefused 1160 = .ok (.if_icmp .ne 178, 3) := by decide +kernel
theorem dL_isRefused_1163 : decode cL_isRefused 1163 = .ok (.aload_n 0, 1) := by decide +kernel
theorem dL_isRefused_1164 : decode cL_isRefused 1164 = .ok (.iconst 2, 1) := by decide +kernel
theorem dL_isRefused_1165 : decode cL_isRefused 1165 = .ok (.iconst 0, 1) := by decide +kernel
theorem dL_isRefused_1166 : decode cL_isRefused 1166 = .ok (.iload 9, 2) := by decide +kernel
theorem dL_isRefused_1168 : decode cL_isRefused 1168 = .ok (.iconst 0, 1) := by decide +kernel
theorem dL_isRefused_1169 : decode cL_isRefused 1169 = .ok (.iconst 1, 1) := by decide +kernel
theorem dL_isRefused_1170 : decode cL_isRefused 1170 = .ok (.iconst 0, 1) := by decide +kernel
theorem dL_isRefused_1171 : decode cL_isRefused 1171 = .ok (.iconst 0, 1) := by decide +kernel
theorem dL_isRefused_1172 : decode cL_isRefused 1172 = .ok (.invokestatic 168, 3) := by decide +kernel
theorem dL_isRefused_1175 : decode cL_isRefused 1175 = .ok (.sipush (-1273), 3) := by decide +kernel
theorem dL_isRefused_1178 : decode cL_isRefused 1178 = .ok (.if_icmp .ne 160, 3) := by decide +kernel
theorem dL_isRefused_1181 : decode cL_isRefused 1181 = .ok (.aload_n 0, 1) := by decide +kernel
theorem dL_isRefused_1182 : decode cL_isRefused 1182 = .ok (.bipush 17, 2) := by decide +kernel
theorem dL_isRefused_1184 : decode cL_isRefused 1184 = .ok (.iload 9, 2) := by decide +kernel
theorem dL_isRefused_1186 : decode cL_isRefused 1186 = .ok (.iload_n 2, 1) := by decide +kernel
theorem dL_isRefused_1187 : decode cL_isRefused 1187 = .ok (.ifCond .eq 13, 3) := by decide +kernel
theorem dL_isRefused_1190 : decode cL_isRefused 1190 = .ok (.bipush (-2), 2) := by decide +kernel
theorem dL_isRefused_1192 : decode cL_isRefused 1192 = .ok (.iload_n 1, 1) := by decide +kernel
theorem dL_isRefused_1193 : decode cL_isRefused 1193 = .ok (.bipush 30, 2) := by decide +kernel
theorem dL_isRefused_1195 : decode cL_isRefused 1195 = .ok (.irem, 1) := by decide +kernel
theorem dL_isRefused_1196 : decode cL_isRefused 1196 = .ok (.isub, 1) := by decide +kernel
theorem dL_isRefused_1197 : decode cL_isRefused 1197 = .ok (.goto 5, 3) := by decide +kernel
theorem dL_isRefused_1200 : decode cL_isRefused 1200 = .ok (.bipush 10, 2) := by decide +kernel
theorem dL_isRefused_1202 : decode cL_isRefused 1202 = .ok (.iconst 0, 1) := by decide +kernel
theorem dL_isRefused_1203 : decode cL_isRefused 1203 = .ok (.iconst 0, 1) := by decide +kernel
theorem dL_isRefused_1204 : decode cL_isRefused 1204 = .ok (.iconst 0, 1) := by decide +kernel
theorem dL_isRefused_1205 : decode cL_isRefused 1205 = .ok (.iconst 0, 1) := by decide +kernel
theorem dL_isRefused_1206 : decode cL_isRefused 1206 = .ok (.invokestatic 168, 3) := by decide +kernel
theorem dL_isRefused_1209 : decode cL_isRefused 1209 = .ok (.sipush (-1272), 3) := by decide +kernel
theorem dL_isRefused_1212 : decode cL_isRefused 1212 = .ok (.if_icmp .ne 126, 3) := by decide +kernel
theorem dL_isRefused_1215 : decode cL_isRefused 1215 = .ok (.goto 41, 3) := by decide +kernel
theorem dL_isRefused_1218 : decode cL_isRefused 1218 = .ok (.aload_n 0, 1) := by decide +kernel
theorem dL_isRefused_1219 : decode cL_isRefused 1219 = .ok (.iconst 2, 1) := by decide +kernel
theorem dL_isRefused_1220 : decode cL_isRefused 1220 = .ok (.iconst 0, 1) := by decide +kernel
theorem dL_isRefused_1221 : decode cL_isRefused 1221 = .ok (.iload 9, 2) := by decide +kernel
theorem dL_isRefused_1223 : decode cL_isRefused 1223 = .ok (.bipush 10, 2) := by decide +kernel
theorem dL_isRefused_1225 : decode cL_isRefused 1225 = .ok (.iconst 1, 1) := by decide +kernel
theorem dL_isRefused_1226 : decode cL_isRefused 1226 = .ok (.iconst 0, 1) := by decide +kernel
theorem dL_isRefused_1227 : decode cL_isRefused 1227 = .ok (.iconst 0, 1) := by decide +kernel
theorem dL_isRefused_1228 : decode cL_isRefused 1228 = .ok (.invokestatic 168, 3) := by decide +kernel
theorem dL_isRefused_1231 : decode cL_isRefused 1231 = .ok (.sipush (-1272), 3) := by decide +kernel
theorem dL_isRefused_1234 : decode cL_isRefused 1234 = .ok (.if_icmp .ne 104, 3) := by decide +kernel
theorem dL_isRefused_1237 : decode cL_isRefused 1237 = .ok (.aload_n 0, 1) := by decide +kernel
theorem dL_isRefused_1238 : decode cL_isRefused 1238 = .ok (.bipush 17, 2) := by decide +kernel
theorem dL_isRefused_1240 : decode cL_isRefused 1240 = .ok (.iload 9, 2) := by decide +kernel
theorem dL_isRefused_1242 : decode cL_isRefused 1242 = .ok (.iconst 1, 1) := by decide +kernel
theorem dL_isRefused_1243 : decode cL_isRefused 1243 = .ok (.iconst 0, 1) := by decide +kernel
theorem dL_isRefused_1244 : decode cL_isRefused 1244 = .ok (.iconst 0, 1) := by decide +kernel
theorem dL_isRefused_1245 : decode cL_isRefused 1245 = .ok (.iconst 0, 1) := by decide +kernel
theorem dL_isRefused_1246 : decode cL_isRefused 1246 = .ok (.iconst 0, 1) := by decide +kernel
theorem dL_isRefused_1247 : decode cL_isRefused 1247 = .ok (.invokestatic 168, 3) := by decide +kernel
theorem dL_isRefused_1250 : decode cL_isRefused 1250 = .ok (.sipush (-1272), 3) := by decide +kernel
theorem dL_isRefused_1253 : decode cL_isRefused 1253 = .ok (.if_icmp .ne 85, 3) := by decide +kernel
theorem dL_isRefused_1256 : decode cL_isRefused 1256 = .ok (.aload_n 0, 1) := by decide +kernel
theorem dL_isRefused_1257 : decode cL_isRefused 1257 = .ok (.iload 9, 2) := by decide +kernel
theorem dL_isRefused_1259 : decode cL_isRefused 1259 = .ok (.invokevirtual 98, 3) := by decide +kernel
theorem dL_isRefused_1262 : decode cL_isRefused 1262 = .ok (.ifCond .eq 25, 3) := by decide +kernel
theorem dL_isRefused_1265 : decode cL_isRefused 1265 = .ok (.aload_n 0, 1) := by decide +kernel
theorem dL_isRefused_1266 : decode cL_isRefused 1266 = .ok (.iconst 3, 1) := by decide +kernel
theorem dL_isRefused_1267 : decode cL_isRefused 1267 = .ok (.iload 9, 2) := by decide +kernel
theorem dL_isRefused_1269 : decode cL_isRefused 1269 = .ok (.iconst 1, 1) := by decide +kernel
theorem dL_isRefused_1270 : decode cL_isRefused 1270 = .ok (.iload_n 1, 1) := by decide +kernel
theorem dL_isRefused_1271 : decode cL_isRefused 1271 = .ok (.iconst 3, 1) := by decide +kernel
theorem dL_isRefused_1272 : decode cL_isRefused 1272 = .ok (.irem, 1) := by decide +kernel
theorem dL_isRefused_1273 : decode cL_isRefused 1273 = .ok (.iadd, 1) := by decide +kernel
theorem dL_isRefused_1274 : decode cL_isRefused 1274 = .ok (.iconst 0, 1) := by decide +kernel
theorem dL_isRefused_1275 : decode cL_isRefused 1275 = .ok (.iconst 0, 1) := by decide +kernel
theorem dL_isRefused_1276 : decode cL_isRefused 1276 = .ok (.iconst 0, 1) := by decide +kernel
theorem dL_isRefused_1277 : decode cL_isRefused 1277 = .ok (.iconst 0, 1) := by decide +kernel
theorem dL_isRefused_1278 : decode cL_isRefused 1278 = .ok (.invokestatic 168, 3) := by decide +kernel
theorem dL_isRefused_1281 : decode cL_isRefused 1281 = .ok (.sipush (-1273), 3) := by decide +kernel
theorem dL_isRefused_1284 : decode cL_isRefused 1284 = .ok (.if_icmp .ne 54, 3) := by decide +kernel
theorem dL_isRefused_1287 : decode cL_isRefused 1287 = .ok (.aload_n 0, 1) := by decide +kernel
theorem dL_isRefused_1288 : decode cL_isRefused 1288 = .ok (.iload 9, 2) := by decide +kernel
theorem dL_isRefused_1290 : decode cL_isRefused 1290 = .ok (.invokevirtual 98, 3) := by decide +kernel
theorem dL_isRefused_1293 : decode cL_isRefused 1293 = .ok (.iconst 4, 1) := by decide +kernel
theorem dL_isRefused_1294 : decode cL_isRefused 1294 = .ok (.if_icmp .lt 40, 3) := by decide +kernel
theorem dL_isRefused_1297 : decode cL_isRefused 1297 = .ok (.aload_n 0, 1) := by decide +kernel
theorem dL_isRefused_1298 : decode cL_isRefused 1298 = .ok (.iconst 4, 1) := by decide +kernel
theorem dL_isRefused_1299 : decode cL_isRefused 1299 = .ok (.iload 9, 2) := by decide +kernel
theorem dL_isRefused_1301 : decode cL_isRefused 1301 = .ok (.iconst 1, 1) := by decide +kernel
theorem dL_isRefused_1302 : decode cL_isRefused 1302 = .ok (.iconst 0, 1) := by decide +kernel
theorem dL_isRefused_1303 : decode cL_isRefused 1303 = .ok (.iconst 0, 1) := by decide +kernel
theorem dL_isRefused_1304 : decode cL_isRefused 1304 = .ok (.iconst 0, 1) := by decide +kernel
theorem dL_isRefused_1305 : decode cL_isRefused 1305 = .ok (.iconst 0, 1) := by decide +kernel
theorem dL_isRefused_1306 : decode cL_isRefused 1306 = .ok (.invokestatic 168, 3) := by decide +kernel
theorem dL_isRefused_1309 : decode cL_isRefused 1309 = .ok (.sipush (-1273), 3) := by decide +kernel
theorem dL_isRefused_1312 : decode cL_isRefused 1312 = .ok (.if_icmp .ne 26, 3) := by decide +kernel
theorem dL_isRefused_1315 : decode cL_isRefused 1315 = .ok (.aload_n 0, 1) := by decide +kernel
theorem dL_isRefused_1316 : decode cL_isRefused 1316 = .ok (.iconst 1, 1) := by decide +kernel
theorem dL_isRefused_1317 : decode cL_isRefused 1317 = .ok (.iconst 0, 1) := by decide +kernel
theorem dL_isRefused_1318 : decode cL_isRefused 1318 = .ok (.iload 9, 2) := by decide +kernel
theorem dL_isRefused_1320 : decode cL_isRefused 1320 = .ok (.iload 11, 2) := by decide +kernel
theorem dL_isRefused_1322 : decode cL_isRefused 1322 = .ok (.iconst 1, 1) := by decide +kernel
theorem dL_isRefused_1323 : decode cL_isRefused 1323 = .ok (.iconst (-1), 1) := by decide +kernel
theorem dL_isRefused_1324 : decode cL_isRefused 1324 = .ok (.iconst 1, 1) := by decide +kernel
theorem dL_isRefused_1325 : decode cL_isRefused 1325 = .ok (.invokestatic 168, 3) := by decide +kernel
theorem dL_isRefused_1328 : decode cL_isRefused 1328 = .ok (.sipush (-1273), 3) := by decide +kernel
theorem dL_isRefused_1331 : decode cL_isRefused 1331 = .ok (.if_icmp .ne 7, 3) := by decide +kernel
theorem dL_isRefused_1334 : decode cL_isRefused 1334 = .ok (.iconst 1, 1) := by decide +kernel
theorem dL_isRefused_1335 : decode cL_isRefused 1335 = .ok (.goto 4, 3) := by decide +kernel
theorem dL_isRefused_1338 : decode cL_isRefused 1338 = .ok (.iconst 0, 1) := by decide +kernel
theorem dL_isRefused_1339 : decode cL_isRefused 1339 = .ok (.istore 8, 2) := by decide +kernel
theorem dL_isRefused_1341 : decode cL_isRefused 1341 = .ok (.iinc 9 1, 3) := by decide +kernel
theorem dL_isRefused_1344 : decode cL_isRefused 1344 = .ok (.goto (-503), 3) := by decide +kernel
theorem dL_isRefused_1347 : decode cL_isRefused 1347 = .ok (.iload 8, 2) := by decide +kernel
theorem dL_isRefused_1349 : decode cL_isRefused 1349 = .ok (.ifCond .eq 17, 3) := by decide +kernel
theorem dL_isRefused_1352 : decode cL_isRefused 1352 = .ok (.aload_n 0, 1) := by decide +kernel
theorem dL_isRefused_1353 : decode cL_isRefused 1353 = .ok (.invokestatic 172, 3) := by decide +kernel
theorem dL_isRefused_1356 : decode cL_isRefused 1356 = .ok (.lload 6, 2) := by decide +kernel
theorem dL_isRefused_1358 : decode cL_isRefused 1358 = .ok (.lcmp, 1) := by decide +kernel
theorem dL_isRefused_1359 : decode cL_isRefused 1359 = .ok (.ifCond .ne 7, 3) := by decide +kernel
theorem dL_isRefused_1362 : decode cL_isRefused 1362 = .ok (.iconst 1, 1) := by decide +kernel
theorem dL_isRefused_1363 : decode cL_isRefused 1363 = .ok (.goto 4, 3) := by decide +kernel
theorem dL_isRefused_1366 : decode cL_isRefused 1366 = .ok (.iconst 0, 1) := by decide +kernel
theorem dL_isRefused_1367 : decode cL_isRefused 1367 = .ok (.ireturn, 1) := by decide +kernel
end
