section
theorem dX12_takesOut_0 : decode cX12_takesOut 0 = .ok (.aload_n 0, 1) := by decide +kernel
theorem dX12_takesOut_1 : decode cX12_takesOut 1 = .ok (.getfield 106, 3) := by decide +kernel
theorem dX12_takesOut_4 : decode cX12_takesOut 4 = .ok (.aload_n 0, 1) := by decide +kernel
theorem dX12_takesOut_5 : decode cX12_takesOut 5 = .ok (.getfield 193, 3) := by decide +kernel
theorem dX12_takesOut_8 : decode cX12_takesOut 8 = .ok (.dup2, 1) := by decide +kernel
theorem dX12_takesOut_9 : decode cX12_takesOut 9 = .ok (.iaload, 1) := by decide +kernel
theorem dX12_takesOut_10 : decode cX12_takesOut 10 = .ok (.iconst 1, 1) := by decide +kernel
theorem dX12_takesOut_11 : decode cX12_takesOut 11 = .ok (.isub, 1) := by decide +kernel
theorem dX12_takesOut_12 : decode cX12_takesOut 12 = .ok (.iastore, 1) := by decide +kernel
theorem dX12_takesOut_13 : decode cX12_takesOut 13 = .ok (.iload_n 1, 1) := by decide +kernel
theorem dX12_takesOut_14 : decode cX12_takesOut 14 = .ok (.istore_n 2, 1) := by decide +kernel
theorem dX12_takesOut_15 : decode cX12_takesOut 15 = .ok (.iload_n 2, 1) := by decide +kernel
theorem dX12_takesOut_16 : decode cX12_takesOut 16 = .ok (.bipush 60, 2) := by decide +kernel
theorem dX12_takesOut_18 : decode cX12_takesOut 18 = .ok (.aload_n 0, 1) := by decide +kernel
theorem dX12_takesOut_19 : decode cX12_takesOut 19 = .ok (.getfield 193, 3) := by decide +kernel
theorem dX12_takesOut_22 : decode cX12_takesOut 22 = .ok (.imul, 1) := by decide +kernel
theorem dX12_takesOut_23 : decode cX12_takesOut 23 = .ok (.aload_n 0, 1) := by decide +kernel
theorem dX12_takesOut_24 : decode cX12_takesOut 24 = .ok (.getfield 106, 3) := by decide +kernel
theorem dX12_takesOut_27 : decode cX12_takesOut 27 = .ok (.aload_n 0, 1) := by decide +kernel
theorem dX12_takesOut_28 : decode cX12_takesOut 28 = .ok (.getfield 193, 3) := by decide +kernel
theorem dX12_takesOut_31 : decode cX12_takesOut 31 = .ok (.iaload, 1) := by decide +kernel
theorem dX12_takesOut_32 : decode cX12_takesOut 32 = .ok (.iadd, 1) := by decide +kernel
theorem dX12_takesOut_33 : decode cX12_takesOut 33 = .ok (.if_icmp .ge 23, 3) := by decide +kernel
theorem dX12_takesOut_36 : decode cX12_takesOut 36 = .ok (.aload_n 0, 1) := by decide +kernel
theorem dX12_takesOut_37 : decode cX12_takesOut 37 = .ok (.getfield 109, 3) := by decide +kernel
theorem dX12_takesOut_40 : decode cX12_takesOut 40 = .ok (.iload_n 2, 1) := by decide +kernel
theorem dX12_takesOut_41 : decode cX12_takesOut 41 = .ok (.aload_n 0, 1) := by decide +kernel
theorem dX12_takesOut_42 : decode cX12_takesOut 42 = .ok (.getfield 109, 3) := by decide +kernel
theorem dX12_takesOut_45 : decode cX12_takesOut 45 = .ok (.iload_n 2, 1) := by decide +kernel
theorem dX12_takesOut_46 : decode cX12_takesOut 46 = .ok (.iconst 1, 1) := by decide +kernel
theorem dX12_takesOut_47 : decode cX12_takesOut 47 = .ok (.iadd, 1) := by decide +kernel
theorem dX12_takesOut_48 : decode cX12_takesOut 48 = .ok (.iaload, 1) := by decide +kernel
theorem dX12_takesOut_49 : decode cX12_takesOut 49 = .ok (.iastore, 1) := by decide +kernel
theorem dX12_takesOut_50 : decode cX12_takesOut 50 = .ok (.iinc 2 1, 3) := by decide +kernel
theorem dX12_takesOut_53 : decode cX12_takesOut 53 = .ok (.goto (-38), 3) := by decide +kernel
theorem dX12_takesOut_56 : decode cX12_takesOut 56 = .ok (.return_, 1) := by decide +kernel
theorem dX12_putsBack_0 : decode cX12_putsBack 0 = .ok (.aload_n 0, 1) := by decide +kernel
theorem dX12_putsBack_1 : decode cX12_putsBack 1 = .ok (.getfield 109, 3) := by decide +kernel
theorem dX12_putsBack_4 : decode cX12_putsBack 4 = .ok (.bipush 60, 2) := by decide +kernel
theorem dX12_putsBack_6 : decode cX12_putsBack 6 = .ok (.aload_n 0, 1) := by decide +kernel
theorem dX12_putsBack_7 : decode cX12_putsBack 7 = .ok (.getfield 193, 3) := by decide +kernel
theorem dX12_putsBack_10 : decode cX12_putsBack 10 = .ok (.imul, 1) := by decide +kernel
theorem dX12_putsBack_11 : decode cX12_putsBack 11 = .ok (.aload_n 0, 1) := by decide +kernel
theorem dX12_putsBack_12 : decode cX12_putsBack 12 = .ok (.getfield 106, 3) := by decide +kernel
theorem dX12_putsBack_15 : decode cX12_putsBack 15 = .ok (.aload_n 0, 1) := by decide +kernel
theorem dX12_putsBack_16 : decode cX12_putsBack 16 = .ok (.getfield 193, 3) := by decide +kernel
theorem dX12_putsBack_19 : decode cX12_putsBack 19 = .ok (.iaload, 1) := by decide +kernel
theorem dX12_putsBack_20 : decode cX12_putsBack 20 = .ok (.iadd, 1) := by decide +kernel
theorem dX12_putsBack_21 : decode cX12_putsBack 21 = .ok (.aload_n 0, 1) := by decide +kernel
theorem dX12_putsBack_22 : decode cX12_putsBack 22 = .ok (.getfield 243, 3) := by decide +kernel
theorem dX12_putsBack_25 : decode cX12_putsBack 25 = .ok (.iastore, 1) := by decide +kernel
theorem dX12_putsBack_26 : decode cX12_putsBack 26 = .ok (.aload_n 0, 1) := by decide +kernel
theorem dX12_putsBack_27 : decode cX12_putsBack 27 = .ok (.getfield 106, 3) := by decide +kernel
theorem dX12_putsBack_30 : decode cX12_putsBack 30 = .ok (.aload_n 0, 1) := by decide +kernel
theorem dX12_putsBack_31 : decode cX12_putsBack 31 = .ok (.getfield 193, 3) := by decide +kernel
theorem dX12_putsBack_34 : decode cX12_putsBack 34 = .ok (.dup2, 1) := by decide +kernel
theorem dX12_putsBack_35 : decode cX12_putsBack 35 = .ok (.iaload, 1) := by decide +kernel
theorem dX12_putsBack_36 : decode cX12_putsBack 36 = .ok (.iconst 1, 1) := by decide +kernel
theorem dX12_putsBack_37 : decode cX12_putsBack 37 = .ok (.iadd, 1) := by decide +kernel
theorem dX12_putsBack_38 : decode cX12_putsBack 38 = .ok (.iastore, 1) := by decide +kernel
theorem dX12_putsBack_39 : decode cX12_putsBack 39 = .ok (.return_, 1) := by decide +kernel
theorem dX12_works_0 : decode cX12_works 0 = .ok (.bipush 60, 2) := by decide +kernel
theorem dX12_works_2 : decode cX12_works 2 = .ok (.aload_n 0, 1) := by decide +kernel
theorem dX12_works_3 : decode cX12_works 3 = .ok (.getfield 193, 3) := by decide +kernel
theorem dX12_works_6 : decode cX12_works 6 = .ok (.imul, 1) := by decide +kernel
theorem dX12_works_7 : decode cX12_works 7 = .ok (.istore_n 1, 1) := by decide +kernel
theorem dX12_works_8 : decode cX12_works 8 = .ok (.iload_n 1, 1) := by decide +kernel
theorem dX12_works_9 : decode cX12_works 9 = .ok (.bipush 60, 2) := by decide +kernel
theorem dX12_works_11 : decode cX12_works 11 = .ok (.aload_n 0, 1) := by decide +kernel
theorem dX12_works_12 : decode cX12_works 12 = .ok (.getfield 193, 3) := by decide +kernel
theorem dX12_works_15 : decode cX12_works 15 = .ok (.imul, 1) := by decide +kernel
theorem dX12_works_16 : decode cX12_works 16 = .ok (.aload_n 0, 1) := by decide +kernel
theorem dX12_works_17 : decode cX12_works 17 = .ok (.getfield 106, 3) := by decide +kernel
theorem dX12_works_20 : decode cX12_works 20 = .ok (.aload_n 0, 1) := by decide +kernel
theorem dX12_works_21 : decode cX12_works 21 = .ok (.getfield 193, 3) := by decide +kernel
theorem dX12_works_24 : decode cX12_works 24 = .ok (.iaload, 1) := by decide +kernel
theorem dX12_works_25 : decode cX12_works 25 = .ok (.iadd, 1) := by decide +kernel
theorem dX12_works_26 : decode cX12_works 26 = .ok (.if_icmp .ge 35, 3) := by decide +kernel
theorem dX12_works_29 : decode cX12_works 29 = .ok (.aload_n 0, 1) := by decide +kernel
theorem dX12_works_30 : decode cX12_works 30 = .ok (.getfield 115, 3) := by decide +kernel
theorem dX12_works_33 : decode cX12_works 33 = .ok (.bipush 60, 2) := by decide +kernel
theorem dX12_works_35 : decode cX12_works 35 = .ok (.aload_n 0, 1) := by decide +kernel
theorem dX12_works_36 : decode cX12_works 36 = .ok (.getfield 193, 3) := by decide +kernel
theorem dX12_works_39 : decode cX12_works 39 = .ok (.imul, 1) := by decide +kernel
theorem dX12_works_40 : decode cX12_works 40 = .ok (.aload_n 0, 1) := by decide +kernel
theorem dX12_works_41 : decode cX12_works 41 = .ok (.getfield 109, 3) := by decide +kernel
theorem dX12_works_44 : decode cX12_works 44 = .ok (.iload_n 1, 1) := by decide +kernel
theorem dX12_works_45 : decode cX12_works 45 = .ok (.iaload, 1) := by decide +kernel
theorem dX12_works_46 : decode cX12_works 46 = .ok (.iadd, 1) := by decide +kernel
theorem dX12_works_47 : decode cX12_works 47 = .ok (.iaload, 1) := by decide +kernel
theorem dX12_works_48 : decode cX12_works 48 = .ok (.aload_n 0, 1) := by decide +kernel
theorem dX12_works_49 : decode cX12_works 49 = .ok (.getfield 182, 3) := by decide +kernel
theorem dX12_works_52 : decode cX12_works 52 = .ok (.if_icmp .le 9, 3) := by decide +kernel
theorem dX12_works_55 : decode cX12_works 55 = .ok (.iinc 1 1, 3) := by decide +kernel
theorem dX12_works_58 : decode cX12_works 58 = .ok (.goto (-50), 3) := by decide +kernel
theorem dX12_works_61 : decode cX12_works 61 = .ok (.iload_n 1, 1) := by decide +kernel
theorem dX12_works_62 : decode cX12_works 62 = .ok (.bipush 60, 2) := by decide +kernel
theorem dX12_works_64 : decode cX12_works 64 = .ok (.aload_n 0, 1) := by decide +kernel
theorem dX12_works_65 : decode cX12_works 65 = .ok (.getfield 193, 3) := by decide +kernel
theorem dX12_works_68 : decode cX12_works 68 = .ok (.imul, 1) := by decide +kernel
theorem dX12_works_69 : decode cX12_works 69 = .ok (.aload_n 0, 1) := by decide +kernel
theorem dX12_works_70 : decode cX12_works 70 = .ok (.getfield 106, 3) := by decide +kernel
theorem dX12_works_73 : decode cX12_works 73 = .ok (.aload_n 0, 1) := by decide +kernel
theorem dX12_works_74 : decode cX12_works 74 = .ok (.getfield 193, 3) := by decide +kernel
theorem dX12_works_77 : decode cX12_works 77 = .ok (.iaload, 1) := by decide +kernel
theorem dX12_works_78 : decode cX12_works 78 = .ok (.iadd, 1) := by decide +kernel
theorem dX12_works_79 : decode cX12_works 79 = .ok (.if_icmp .ne 5, 3) := by decide +kernel
theorem dX12_works_82 : decode cX12_works 82 = .ok (.iconst 0, 1) := by decide +kernel
theorem dX12_works_83 : decode cX12_works 83 = .ok (.ireturn, 1) := by decide +kernel
theorem dX12_works_84 : decode cX12_works 84 = .ok (.aload_n 0, 1) := by decide +kernel
theorem dX12_works_85 : decode cX12_works 85 = .ok (.aload_n 0, 1) := by decide +kernel
theorem dX12_works_86 : decode cX12_works 86 = .ok (.getfield 109, 3) := by decide +kernel
theorem dX12_works_89 : decode cX12_works 89 = .ok (.iload_n 1, 1) := by decide +kernel
theorem dX12_works_90 : decode cX12_works 90 = .ok (.iaload, 1) := by decide +kernel
theorem dX12_works_91 : decode cX12_works 91 = .ok (.putfield 243, 3) := by decide +kernel
theorem dX12_works_94 : decode cX12_works 94 = .ok (.bipush 60, 2) := by decide +kernel
theorem dX12_works_96 : decode cX12_works 96 = .ok (.aload_n 0, 1) := by decide +kernel
theorem dX12_works_97 : decode cX12_works 97 = .ok (.getfield 193, 3) := by decide +kernel
theorem dX12_works_100 : decode cX12_works 100 = .ok (.imul, 1) := by decide +kernel
theorem dX12_works_101 : decode cX12_works 101 = .ok (.aload_n 0, 1) := by decide +kernel
theorem dX12_works_102 : decode cX12_works 102 = .ok (.getfield 243, 3) := by decide +kernel
theorem dX12_works_105 : decode cX12_works 105 = .ok (.iadd, 1) := by decide +kernel
theorem dX12_works_106 : decode cX12_works 106 = .ok (.istore_n 2, 1) := by decide +kernel
theorem dX12_works_107 : decode cX12_works 107 = .ok (.aload_n 0, 1) := by decide +kernel
theorem dX12_works_108 : decode cX12_works 108 = .ok (.iload_n 1, 1) := by decide +kernel
theorem dX12_works_109 : decode cX12_works 109 = .ok (.invokevirtual 356, 3) := by decide +kernel
theorem dX12_works_112 : decode cX12_works 112 = .ok (.aload_n 0, 1) := by decide +kernel
theorem dX12_works_113 : decode cX12_works 113 = .ok (.getfield 118, 3) := by decide +kernel
theorem dX12_works_116 : decode cX12_works 116 = .ok (.iload_n 2, 1) := by decide +kernel
theorem dX12_works_117 : decode cX12_works 117 = .ok (.iaload, 1) := by decide +kernel
theorem dX12_works_118 : decode cX12_works 118 = .ok (.aload_n 0, 1) := by decide +kernel
theorem dX12_works_119 : decode cX12_works 119 = .ok (.getfield 90, 3) := by decide +kernel
theorem dX12_works_122 : decode cX12_works 122 = .ok (.aload_n 0, 1) := by decide +kernel
theorem dX12_works_123 : decode cX12_works 123 = .ok (.getfield 193, 3) := by decide +kernel
theorem dX12_works_126 : decode cX12_works 126 = .ok (.iaload, 1) := by decide +kernel
theorem dX12_works_127 : decode cX12_works 127 = .ok (.if_icmp .gt 10, 3) := by decide +kernel
theorem dX12_works_130 : decode cX12_works 130 = .ok (.aload_n 0, 1) := by decide +kernel
theorem dX12_works_131 : decode cX12_works 131 = .ok (.invokevirtual 359, 3) := by decide +kernel
theorem dX12_works_134 : decode cX12_works 134 = .ok (.ifCond .eq 54, 3) := by decide +kernel
theorem dX12_works_137 : decode cX12_works 137 = .ok (.aload_n 0, 1) := by decide +kernel
theorem dX12_works_138 : decode cX12_works 138 = .ok (.getfield 115, 3) := by decide +kernel
theorem dX12_works_141 : decode cX12_works 141 = .ok (.iload_n 2, 1) := by decide +kernel
theorem dX12_works_142 : decode cX12_works 142 = .ok (.aload_n 0, 1) := by decide +kernel
theorem dX12_works_143 : decode cX12_works 143 = .ok (.getfield 118, 3) := by decide +kernel
theorem dX12_works_146 : decode cX12_works 146 = .ok (.iload_n 2, 1) := by decide +kernel
theorem dX12_works_147 : decode cX12_works 147 = .ok (.iaload, 1) := by decide +kernel
theorem dX12_works_148 : decode cX12_works 148 = .ok (.aload_n 0, 1) := by decide +kernel
theorem dX12_works_149 : decode cX12_works 149 = .ok (.getfield 90, 3) := by decide +kernel
theorem dX12_works_152 : decode cX12_works 152 = .ok (.aload_n 0, 1) := by decide +kernel
theorem dX12_works_153 : decode cX12_works 153 = .ok (.getfield 193, 3) := by decide +kernel
theorem dX12_works_156 : decode cX12_works 156 = .ok (.iaload, 1) := by decide +kernel
theorem dX12_works_157 : decode cX12_works 157 = .ok (.if_icmp .le 12, 3) := by decide +kernel
theorem dX12_works_160 : decode cX12_works 160 = .ok (.aload_n 0, 1) := by decide +kernel
theorem dX12_works_161 : decode cX12_works 161 = .ok (.getfield 115, 3) := by decide +kernel
theorem dX12_works_164 : decode cX12_works 164 = .ok (.iload_n 2, 1) := by decide +kernel
theorem dX12_works_165 : decode cX12_works 165 = .ok (.iaload, 1) := by decide +kernel
theorem dX12_works_166 : decode cX12_works 166 = .ok (.goto 15, 3) := by decide +kernel
theorem dX12_works_169 : decode cX12_works 169 = .ok (.aload_n 0, 1) := by decide +kernel
theorem dX12_works_170 : decode cX12_works 170 = .ok (.getfield 47, 3) := by decide +kernel
theorem dX12_works_173 : decode cX12_works 173 = .ok (.aload_n 0, 1) := by decide +kernel
theorem dX12_works_174 : decode cX12_works 174 = .ok (.getfield 243, 3) := by decide +kernel
theorem dX12_works_177 : decode cX12_works 177 = .ok (.iaload, 1) := by decide +kernel
theorem dX12_works_178 : decode cX12_works 178 = .ok (.bipush 10, 2) := by decide +kernel
theorem dX12_works_180 : decode cX12_works 180 = .ok (.iadd, 1) := by decide +kernel
theorem dX12_works_181 : decode cX12_works 181 = .ok (.iastore, 1) := by decide +kernel
theorem dX12_works_182 : decode cX12_works 182 = .ok (.aload_n 0, 1) := by decide +kernel
theorem dX12_works_183 : decode cX12_works 183 = .ok (.invokevirtual 362, 3) := by decide +kernel
theorem dX12_works_186 : decode cX12_works 186 = .ok (.iconst 2, 1) := by decide +kernel
theorem dX12_works_187 : decode cX12_works 187 = .ok (.ireturn, 1) := by decide +kernel
theorem dX12_works_188 : decode cX12_works 188 = .ok (.aload_n 0, 1) := by decide +kernel
theorem dX12_works_189 : decode cX12_works 189 = .ok (.invokevirtual 365, 3) := by decide +kernel
theorem dX12_works_192 : decode cX12_works 192 = .ok (.ifCond .eq 12, 3) := by decide +kernel
theorem dX12_works_195 : decode cX12_works 195 = .ok (.aload_n 0, 1) := by decide +kernel
theorem dX12_works_196 : decode cX12_works 196 = .ok (.getfield 112, 3) := by decide +kernel
theorem dX12_works_199 : decode cX12_works 199 = .ok (.iload_n 2, 1) := by decide +kernel
theorem dX12_works_200 : decode cX12_works 200 = .ok (.iconst 0, 1) := by decide +kernel
theorem dX12_works_201 : decode cX12_works 201 = .ok (.iastore, 1) := by decide +kernel
theorem dX12_works_202 : decode cX12_works 202 = .ok (.iconst 1, 1) := by decide +kernel
theorem dX12_works_203 : decode cX12_works 203 = .ok (.ireturn, 1) := by decide +kernel
theorem dX12_works_204 : decode cX12_works 204 = .ok (.aload_n 0, 1) := by decide +kernel
theorem dX12_works_205 : decode cX12_works 205 = .ok (.getfield 115, 3) := by decide +kernel
theorem dX12_works_208 : decode cX12_works 208 = .ok (.iload_n 2, 1) := by decide +kernel
theorem dX12_works_209 : decode cX12_works 209 = .ok (.aload_n 0, 1) := by decide +kernel
theorem dX12_works_210 : decode cX12_works 210 = .ok (.getfield 182, 3) := by decide +kernel
theorem dX12_works_213 : decode cX12_works 213 = .ok (.aload_n 0, 1) := by decide +kernel
theorem dX12_works_214 : decode cX12_works 214 = .ok (.getfield 112, 3) := by decide +kernel
theorem dX12_works_217 : decode cX12_works 217 = .ok (.iload_n 2, 1) := by decide +kernel
theorem dX12_works_218 : decode cX12_works 218 = .ok (.iaload, 1) := by decide +kernel
theorem dX12_works_219 : decode cX12_works 219 = .ok (.iconst 3, 1) := by decide +kernel
theorem dX12_works_220 : decode cX12_works 220 = .ok (.if_icmp .le 8, 3) := by decide +kernel
theorem dX12_works_223 : decode cX12_works 223 = .ok (.bipush 16, 2) := by decide +kernel
theorem dX12_works_225 : decode cX12_works 225 = .ok (.goto 11, 3) := by decide +kernel
theorem dX12_works_228 : decode cX12_works 228 = .ok (.iconst 1, 1) := by decide +kernel
theorem dX12_works_229 : decode cX12_works 229 = .ok (.aload_n 0, 1) := by decide +kernel
theorem dX12_works_230 : decode cX12_works 230 = .ok (.getfield 112, 3) := by decide +kernel
theorem dX12_works_233 : decode cX12_works 233 = .ok (.iload_n 2, 1) := by decide +kernel
theorem dX12_works_234 : decode cX12_works 234 = .ok (.iaload, 1) := by decide +kernel
theorem dX12_works_235 : decode cX12_works 235 = .ok (.ishl, 1) := by decide +kernel
theorem dX12_works_236 : decode cX12_works 236 = .ok (.iadd, 1) := by decide +kernel
theorem dX12_works_237 : decode cX12_works 237 = .ok (.iastore, 1) := by decide +kernel
theorem dX12_works_238 : decode cX12_works 238 = .ok (.aload_n 0, 1) := by decide +kernel
theorem dX12_works_239 : decode cX12_works 239 = .ok (.getfield 112, 3) := by decide +kernel
theorem dX12_works_242 : decode cX12_works 242 = .ok (.iload_n 2, 1) := by decide +kernel
theorem dX12_works_243 : decode cX12_works 243 = .ok (.dup2, 1) := by decide +kernel
theorem dX12_works_244 : decode cX12_works 244 = .ok (.iaload, 1) := by decide +kernel
theorem dX12_works_245 : decode cX12_works 245 = .ok (.iconst 1, 1) := by decide +kernel
theorem dX12_works_246 : decode cX12_works 246 = .ok (.iadd, 1) := by decide +kernel
theorem dX12_works_247 : decode cX12_works 247 = .ok (.iastore, 1) := by decide +kernel
theorem dX12_works_248 : decode cX12_works 248 = .ok (.aload_n 0, 1) := by decide +kernel
theorem dX12_works_249 : decode cX12_works 249 = .ok (.invokevirtual 362, 3) := by decide +kernel
theorem dX12_works_252 : decode cX12_works 252 = .ok (.iconst 3, 1) := by decide +kernel
theorem dX12_works_253 : decode cX12_works 253 = .ok (.ireturn, 1) := by decide +kernel
theorem dX12_isManager_0 : decode cX12_isManager 0 = .ok (.iload_n 0, 1) := by decide +kernel
theorem dX12_isManager_1 : decode cX12_isManager 1 = .ok (.iconst 0, 1) := by decide +kernel
theorem dX12_isManager_2 : decode cX12_isManager 2 = .ok (.iconst 3, 1) := by decide +kernel
theorem dX12_isManager_3 : decode cX12_isManager 3 = .ok (.invokestatic 140, 3) := by decide +kernel
theorem dX12_isManager_6 : decode cX12_isManager 6 = .ok (.ireturn, 1) := by decide +kernel
theorem dX12_make_0 : decode cX12_make 0 = .ok (.aload_n 0, 1) := by decide +kernel
theorem dX12_make_1 : decode cX12_make 1 = .ok (.iload_n 1, 1) := by decide +kernel
theorem dX12_make_2 : decode cX12_make 2 = .ok (.invokestatic 368, 3) := by decide +kernel
theorem dX12_make_5 : decode cX12_make 5 = .ok (.ifCond .eq 14, 3) := by decide +kernel
theorem dX12_make_8 : decode cX12_make 8 = .ok (.iload_n 2, 1) := by decide +kernel
theorem dX12_make_9 : decode cX12_make 9 = .ok (.invokestatic 371, 3) := by decide +kernel
theorem dX12_make_12 : decode cX12_make 12 = .ok (.ifCond .eq 7, 3) := by decide +kernel
theorem dX12_make_15 : decode cX12_make 15 = .ok (.iconst 0, 1) := by decide +kernel
theorem dX12_make_16 : decode cX12_make 16 = .ok (.goto 4, 3) := by decide +kernel
theorem dX12_make_19 : decode cX12_make 19 = .ok (.iconst 1, 1) := by decide +kernel
theorem dX12_make_20 : decode cX12_make 20 = .ok (.invokevirtual 374, 3) := by decide +kernel
theorem dX12_make_23 : decode cX12_make 23 = .ok (.ifCond .ne 5, 3) := by decide +kernel
theorem dX12_make_26 : decode cX12_make 26 = .ok (.iconst 0, 1) := by decide +kernel
theorem dX12_make_27 : decode cX12_make 27 = .ok (.ireturn, 1) := by decide +kernel
theorem dX12_make_28 : decode cX12_make 28 = .ok (.aload_n 0, 1) := by decide +kernel
theorem dX12_make_29 : decode cX12_make 29 = .ok (.iload_n 1, 1) := by decide +kernel
theorem dX12_make_30 : decode cX12_make 30 = .ok (.iload_n 2, 1) := by decide +kernel
theorem dX12_make_31 : decode cX12_make 31 = .ok (.iconst (-1), 1) := by decide +kernel
theorem dX12_make_32 : decode cX12_make 32 = .ok (.iconst 0, 1) := by decide +kernel
theorem dX12_make_33 : decode cX12_make 33 = .ok (.invokevirtual 265, 3) := by decide +kernel
theorem dX12_make_36 : decode cX12_make 36 = .ok (.istore_n 3, 1) := by decide +kernel
theorem dX12_make_37 : decode cX12_make 37 = .ok (.aload_n 0, 1) := by decide +kernel
theorem dX12_make_38 : decode cX12_make 38 = .ok (.iload_n 3, 1) := by decide +kernel
theorem dX12_make_39 : decode cX12_make 39 = .ok (.iconst (-1), 1) := by decide +kernel
theorem dX12_make_40 : decode cX12_make 40 = .ok (.if_icmp .ne 7, 3) := by decide +kernel
theorem dX12_make_43 : decode cX12_make 43 = .ok (.iconst 2, 1) := by decide +kernel
theorem dX12_make_44 : decode cX12_make 44 = .ok (.goto 4, 3) := by decide +kernel
theorem dX12_make_47 : decode cX12_make 47 = .ok (.iconst 0, 1) := by decide +kernel
theorem dX12_make_48 : decode cX12_make 48 = .ok (.invokevirtual 374, 3) := by decide +kernel
theorem dX12_make_51 : decode cX12_make 51 = .ok (.ifCond .eq 7, 3) := by decide +kernel
theorem dX12_make_54 : decode cX12_make 54 = .ok (.iload_n 3, 1) := by decide +kernel
theorem dX12_make_55 : decode cX12_make 55 = .ok (.goto 4, 3) := by decide +kernel
theorem dX12_make_58 : decode cX12_make 58 = .ok (.iconst 0, 1) := by decide +kernel
theorem dX12_make_59 : decode cX12_make 59 = .ok (.ireturn, 1) := by decide +kernel
theorem dX12_isGone_0 : decode cX12_isGone 0 = .ok (.aload_n 0, 1) := by decide +kernel
theorem dX12_isGone_1 : decode cX12_isGone 1 = .ok (.aload_n 0, 1) := by decide +kernel
theorem dX12_isGone_2 : decode cX12_isGone 2 = .ok (.getfield 28, 3) := by decide +kernel
theorem dX12_isGone_5 : decode cX12_isGone 5 = .ok (.iload_n 1, 1) := by decide +kernel
theorem dX12_isGone_6 : decode cX12_isGone 6 = .ok (.laload, 1) := by decide +kernel
theorem dX12_isGone_7 : decode cX12_isGone 7 = .ok (.bipush 13, 2) := by decide +kernel
theorem dX12_isGone_9 : decode cX12_isGone 9 = .ok (.invokevirtual 146, 3) := by decide +kernel
theorem dX12_isGone_12 : decode cX12_isGone 12 = .ok (.iconst 4, 1) := by decide +kernel
theorem dX12_isGone_13 : decode cX12_isGone 13 = .ok (.if_icmp .ne 7, 3) := by decide +kernel
theorem dX12_isGone_16 : decode cX12_isGone 16 = .ok (.iconst 1, 1) := by decide +kernel
theorem dX12_isGone_17 : decode cX12_isGone 17 = .ok (.goto 4, 3) := by decide +kernel
theorem dX12_isGone_20 : decode cX12_isGone 20 = .ok (.iconst 0, 1) := by decide +kernel
theorem dX12_isGone_21 : decode cX12_isGone 21 = .ok (.ireturn, 1) := by decide +kernel
theorem dX12_apply_0 : decode cX12_apply 0 = .ok (.aload_n 0, 1) := by decide +kernel
theorem dX12_apply_1 : decode cX12_apply 1 = .ok (.aload_n 0, 1) := by decide +kernel
theorem dX12_apply_2 : decode cX12_apply 2 = .ok (.iload_n 2, 1) := by decide +kernel
theorem dX12_apply_3 : decode cX12_apply 3 = .ok (.invokevirtual 377, 3) := by decide +kernel
theorem dX12_apply_6 : decode cX12_apply 6 = .ok (.ifCond .eq 7, 3) := by decide +kernel
theorem dX12_apply_9 : decode cX12_apply 9 = .ok (.iconst 0, 1) := by decide +kernel
theorem dX12_apply_10 : decode cX12_apply 10 = .ok (.goto 4, 3) := by decide +kernel
theorem dX12_apply_13 : decode cX12_apply 13 = .ok (.iconst 1, 1) := by decide +kernel
theorem dX12_apply_14 : decode cX12_apply 14 = .ok (.invokevirtual 374, 3) := by decide +kernel
theorem dX12_apply_17 : decode cX12_apply 17 = .ok (.ifCond .eq 46, 3) := by decide +kernel
theorem dX12_apply_20 : decode cX12_apply 20 = .ok (.aload_n 0, 1) := by decide +kernel
theorem dX12_apply_21 : decode cX12_apply 21 = .ok (.iload_n 1, 1) := by decide +kernel
theorem dX12_apply_22 : decode cX12_apply 22 = .ok (.invokestatic 368, 3) := by decide +kernel
theorem dX12_apply_25 : decode cX12_apply 25 = .ok (.ifCond .eq 31, 3) := by decide +kernel
theorem dX12_apply_28 : decode cX12_apply 28 = .ok (.aload_n 0, 1) := by decide +kernel
theorem dX12_apply_29 : decode cX12_apply 29 = .ok (.aload_n 0, 1) := by decide +kernel
theorem dX12_apply_30 : decode cX12_apply 30 = .ok (.getfield 25, 3) := by decide +kernel
theorem dX12_apply_33 : decode cX12_apply 33 = .ok (.iload_n 2, 1) := by decide +kernel
theorem dX12_apply_34 : decode cX12_apply 34 = .ok (.iaload, 1) := by decide +kernel
theorem dX12_apply_35 : decode cX12_apply 35 = .ok (.iload_n 3, 1) := by decide +kernel
theorem dX12_apply_36 : decode cX12_apply 36 = .ok (.invokevirtual 380, 3) := by decide +kernel
theorem dX12_apply_39 : decode cX12_apply 39 = .ok (.ifCond .eq 17, 3) := by decide +kernel
theorem dX12_apply_42 : decode cX12_apply 42 = .ok (.aload_n 0, 1) := by decide +kernel
theorem dX12_apply_43 : decode cX12_apply 43 = .ok (.iload_n 3, 1) := by decide +kernel
theorem dX12_apply_44 : decode cX12_apply 44 = .ok (.iload 4, 2) := by decide +kernel
theorem dX12_apply_46 : decode cX12_apply 46 = .ok (.invokevirtual 383, 3) := by decide +kernel
theorem dX12_apply_49 : decode cX12_apply 49 = .ok (.ifCond .eq 7, 3) := by decide +kernel
theorem dX12_apply_52 : decode cX12_apply 52 = .ok (.iconst 0, 1) := by decide +kernel
theorem dX12_apply_53 : decode cX12_apply 53 = .ok (.goto 4, 3) := by decide +kernel
theorem dX12_apply_56 : decode cX12_apply 56 = .ok (.iconst 2, 1) := by decide +kernel
theorem dX12_apply_57 : decode cX12_apply 57 = .ok (.invokevirtual 374, 3) := by decide +kernel
theorem dX12_apply_60 : decode cX12_apply 60 = .ok (.ifCond .ne 5, 3) := by decide +kernel
theorem dX12_apply_63 : decode cX12_apply 63 = .ok (.iconst 0, 1) := by decide +kernel
theorem dX12_apply_64 : decode cX12_apply 64 = .ok (.ireturn, 1) := by decide +kernel
theorem dX12_apply_65 : decode cX12_apply 65 = .ok (.aload_n 0, 1) := by decide +kernel
theorem dX12_apply_66 : decode cX12_apply 66 = .ok (.iload_n 2, 1) := by decide +kernel
theorem dX12_apply_67 : decode cX12_apply 67 = .ok (.invokevirtual 386, 3) := by decide +kernel
theorem dX12_apply_70 : decode cX12_apply 70 = .ok (.ifCond .ne 40, 3) := by decide +kernel
theorem dX12_apply_73 : decode cX12_apply 73 = .ok (.iload 5, 2) := by decide +kernel
theorem dX12_apply_75 : decode cX12_apply 75 = .ok (.iconst (-1), 1) := by decide +kernel
theorem dX12_apply_76 : decode cX12_apply 76 = .ok (.if_icmp .eq 14, 3) := by decide +kernel
theorem dX12_apply_79 : decode cX12_apply 79 = .ok (.iload 5, 2) := by decide +kernel
theorem dX12_apply_81 : decode cX12_apply 81 = .ok (.aload_n 0, 1) := by decide +kernel
theorem dX12_apply_82 : decode cX12_apply 82 = .ok (.getfield 35, 3) := by decide +kernel
theorem dX12_apply_85 : decode cX12_apply 85 = .ok (.iload_n 2, 1) := by decide +kernel
theorem dX12_apply_86 : decode cX12_apply 86 = .ok (.iaload, 1) := by decide +kernel
theorem dX12_apply_87 : decode cX12_apply 87 = .ok (.if_icmp .ne 23, 3) := by decide +kernel
theorem dX12_apply_90 : decode cX12_apply 90 = .ok (.iload 6, 2) := by decide +kernel
theorem dX12_apply_92 : decode cX12_apply 92 = .ok (.ifCond .ne 22, 3) := by decide +kernel
theorem dX12_apply_95 : decode cX12_apply 95 = .ok (.aload_n 0, 1) := by decide +kernel
theorem dX12_apply_96 : decode cX12_apply 96 = .ok (.getfield 38, 3) := by decide +kernel
theorem dX12_apply_99 : decode cX12_apply 99 = .ok (.bipush 11, 2) := by decide +kernel
theorem dX12_apply_101 : decode cX12_apply 101 = .ok (.iload_n 2, 1) := by decide +kernel
theorem dX12_apply_102 : decode cX12_apply 102 = .ok (.imul, 1) := by decide +kernel
theorem dX12_apply_103 : decode cX12_apply 103 = .ok (.iload_n 3, 1) := by decide +kernel
theorem dX12_apply_104 : decode cX12_apply 104 = .ok (.iadd, 1) := by decide +kernel
theorem dX12_apply_105 : decode cX12_apply 105 = .ok (.iaload, 1) := by decide +kernel
theorem dX12_apply_106 : decode cX12_apply 106 = .ok (.iload_n 1, 1) := by decide +kernel
theorem dX12_apply_107 : decode cX12_apply 107 = .ok (.if_icmp .eq 7, 3) := by decide +kernel
theorem dX12_apply_110 : decode cX12_apply 110 = .ok (.iconst 1, 1) := by decide +kernel
theorem dX12_apply_111 : decode cX12_apply 111 = .ok (.goto 4, 3) := by decide +kernel
theorem dX12_apply_114 : decode cX12_apply 114 = .ok (.iconst 0, 1) := by decide +kernel
theorem dX12_apply_115 : decode cX12_apply 115 = .ok (.istore 7, 2) := by decide +kernel
theorem dX12_apply_117 : decode cX12_apply 117 = .ok (.aload_n 0, 1) := by decide +kernel
theorem dX12_apply_118 : decode cX12_apply 118 = .ok (.iload 7, 2) := by decide +kernel
theorem dX12_apply_120 : decode cX12_apply 120 = .ok (.ifCond .ne 15, 3) := by decide +kernel
theorem dX12_apply_123 : decode cX12_apply 123 = .ok (.aload_n 0, 1) := by decide +kernel
theorem dX12_apply_124 : decode cX12_apply 124 = .ok (.iload_n 1, 1) := by decide +kernel
theorem dX12_apply_125 : decode cX12_apply 125 = .ok (.iload_n 2, 1) := by decide +kernel
theorem dX12_apply_126 : decode cX12_apply 126 = .ok (.iload_n 3, 1) := by decide +kernel
theorem dX12_apply_127 : decode cX12_apply 127 = .ok (.iload 4, 2) := by decide +kernel
theorem dX12_apply_129 : decode cX12_apply 129 = .ok (.invokevirtual 253, 3) := by decide +kernel
theorem dX12_apply_132 : decode cX12_apply 132 = .ok (.ifCond .ne 7, 3) := by decide +kernel
theorem dX12_apply_135 : decode cX12_apply 135 = .ok (.iconst 3, 1) := by decide +kernel
theorem dX12_apply_136 : decode cX12_apply 136 = .ok (.goto 4, 3) := by decide +kernel
theorem dX12_apply_139 : decode cX12_apply 139 = .ok (.iconst 0, 1) := by decide +kernel
theorem dX12_apply_140 : decode cX12_apply 140 = .ok (.invokevirtual 374, 3) := by decide +kernel
theorem dX12_apply_143 : decode cX12_apply 143 = .ok (.ifCond .eq 12, 3) := by decide +kernel
theorem dX12_apply_146 : decode cX12_apply 146 = .ok (.aload_n 0, 1) := by decide +kernel
theorem dX12_apply_147 : decode cX12_apply 147 = .ok (.getfield 35, 3) := by decide +kernel
theorem dX12_apply_150 : decode cX12_apply 150 = .ok (.iload_n 2, 1) := by decide +kernel
theorem dX12_apply_151 : decode cX12_apply 151 = .ok (.iaload, 1) := by decide +kernel
theorem dX12_apply_152 : decode cX12_apply 152 = .ok (.goto 4, 3) := by decide +kernel
theorem dX12_apply_155 : decode cX12_apply 155 = .ok (.iconst 0, 1) := by decide +kernel
theorem dX12_apply_156 : decode cX12_apply 156 = .ok (.ireturn, 1) := by decide +kernel
theorem dX12_applyBudget_0 : decode cX12_applyBudget 0 = .ok (.aload_n 0, 1) := by decide +kernel
theorem dX12_applyBudget_1 : decode cX12_applyBudget 1 = .ok (.aload_n 0, 1) := by decide +kernel
theorem dX12_applyBudget_2 : decode cX12_applyBudget 2 = .ok (.iload_n 2, 1) := by decide +kernel
theorem dX12_applyBudget_3 : decode cX12_applyBudget 3 = .ok (.invokevirtual 377, 3) := by decide +kernel
theorem dX12_applyBudget_6 : decode cX12_applyBudget 6 = .ok (.ifCond .eq 7, 3) := by decide +kernel
theorem dX12_applyBudget_9 : decode cX12_applyBudget 9 = .ok (.iconst 0, 1) := by decide +kernel
theorem dX12_applyBudget_10 : decode cX12_applyBudget 10 = .ok (.goto 4, 3) := by decide +kernel
theorem dX12_applyBudget_13 : decode cX12_applyBudget 13 = .ok (.iconst 1, 1) := by decide +kernel
theorem dX12_applyBudget_14 : decode cX12_applyBudget 14 = .ok (.invokevirtual 374, 3) := by decide +kernel
theorem dX12_applyBudget_17 : decode cX12_applyBudget 17 = .ok (.ifCond .ne 5, 3) := by decide +kernel
theorem dX12_applyBudget_20 : decode cX12_applyBudget 20 = .ok (.iconst 0, 1) := by decide +kernel
theorem dX12_applyBudget_21 : decode cX12_applyBudget 21 = .ok (.ireturn, 1) := by decide +kernel
theorem dX12_applyBudget_22 : decode cX12_applyBudget 22 = .ok (.iload_n 1, 1) := by decide +kernel
theorem dX12_applyBudget_23 : decode cX12_applyBudget 23 = .ok (.invokestatic 368, 3) := by decide +kernel
theorem dX12_applyBudget_26 : decode cX12_applyBudget 26 = .ok (.ifCond .eq 44, 3) := by decide +kernel
theorem dX12_applyBudget_29 : decode cX12_applyBudget 29 = .ok (.aload_n 0, 1) := by decide +kernel
theorem dX12_applyBudget_30 : decode cX12_applyBudget 30 = .ok (.getfield 25, 3) := by decide +kernel
theorem dX12_applyBudget_33 : decode cX12_applyBudget 33 = .ok (.iload_n 2, 1) := by decide +kernel
theorem dX12_applyBudget_34 : decode cX12_applyBudget 34 = .ok (.iaload, 1) := by decide +kernel
theorem dX12_applyBudget_35 : decode cX12_applyBudget 35 = .ok (.ifCond .ne 35, 3) := by decide +kernel
theorem dX12_applyBudget_38 : decode cX12_applyBudget 38 = .ok (.iload_n 3, 1) := by decide +kernel
theorem dX12_applyBudget_39 : decode cX12_applyBudget 39 = .ok (.ifCond .lt 31, 3) := by decide +kernel
theorem dX12_applyBudget_42 : decode cX12_applyBudget 42 = .ok (.aload_n 0, 1) := by decide +kernel
theorem dX12_applyBudget_43 : decode cX12_applyBudget 43 = .ok (.iconst 2, 1) := by decide +kernel
theorem dX12_applyBudget_44 : decode cX12_applyBudget 44 = .ok (.iload_n 3, 1) := by decide +kernel
theorem dX12_applyBudget_45 : decode cX12_applyBudget 45 = .ok (.bipush 10, 2) := by decide +kernel
theorem dX12_applyBudget_47 : decode cX12_applyBudget 47 = .ok (.idiv, 1) := by decide +kernel
theorem dX12_applyBudget_48 : decode cX12_applyBudget 48 = .ok (.invokevirtual 383, 3) := by decide +kernel
theorem dX12_applyBudget_51 : decode cX12_applyBudget 51 = .ok (.ifCond .eq 19, 3) := by decide +kernel
theorem dX12_applyBudget_54 : decode cX12_applyBudget 54 = .ok (.aload_n 0, 1) := by decide +kernel
theorem dX12_applyBudget_55 : decode cX12_applyBudget 55 = .ok (.iconst 3, 1) := by decide +kernel
theorem dX12_applyBudget_56 : decode cX12_applyBudget 56 = .ok (.iload_n 3, 1) := by decide +kernel
theorem dX12_applyBudget_57 : decode cX12_applyBudget 57 = .ok (.bipush 10, 2) := by decide +kernel
theorem dX12_applyBudget_59 : decode cX12_applyBudget 59 = .ok (.irem, 1) := by decide +kernel
theorem dX12_applyBudget_60 : decode cX12_applyBudget 60 = .ok (.invokevirtual 383, 3) := by decide +kernel
theorem dX12_applyBudget_63 : decode cX12_applyBudget 63 = .ok (.ifCond .eq 7, 3) := by decide +kernel
theorem dX12_applyBudget_66 : decode cX12_applyBudget 66 = .ok (.iconst 1, 1) := by decide +kernel
theorem dX12_applyBudget_67 : decode cX12_applyBudget 67 = .ok (.goto 4, 3) := by decide +kernel
theorem dX12_applyBudget_70 : decode cX12_applyBudget 70 = .ok (.iconst 0, 1) := by decide +kernel
theorem dX12_applyBudget_71 : decode cX12_applyBudget 71 = .ok (.istore 5, 2) := by decide +kernel
theorem dX12_applyBudget_73 : decode cX12_applyBudget 73 = .ok (.aload_n 0, 1) := by decide +kernel
theorem dX12_applyBudget_74 : decode cX12_applyBudget 74 = .ok (.iload 5, 2) := by decide +kernel
theorem dX12_applyBudget_76 : decode cX12_applyBudget 76 = .ok (.ifCond .eq 7, 3) := by decide +kernel
theorem dX12_applyBudget_79 : decode cX12_applyBudget 79 = .ok (.iconst 0, 1) := by decide +kernel
theorem dX12_applyBudget_80 : decode cX12_applyBudget 80 = .ok (.goto 4, 3) := by decide +kernel
theorem dX12_applyBudget_83 : decode cX12_applyBudget 83 = .ok (.iconst 2, 1) := by decide +kernel
theorem dX12_applyBudget_84 : decode cX12_applyBudget 84 = .ok (.invokevirtual 374, 3) := by decide +kernel
theorem dX12_applyBudget_87 : decode cX12_applyBudget 87 = .ok (.ifCond .ne 5, 3) := by decide +kernel
theorem dX12_applyBudget_90 : decode cX12_applyBudget 90 = .ok (.iconst 0, 1) := by decide +kernel
theorem dX12_applyBudget_91 : decode cX12_applyBudget 91 = .ok (.ireturn, 1) := by decide +kernel
theorem dX12_applyBudget_92 : decode cX12_applyBudget 92 = .ok (.bipush 11, 2) := by decide +kernel
theorem dX12_applyBudget_94 : decode cX12_applyBudget 94 = .ok (.iload_n 2, 1) := by decide +kernel
theorem dX12_applyBudget_95 : decode cX12_applyBudget 95 = .ok (.imul, 1) := by decide +kernel
theorem dX12_applyBudget_96 : decode cX12_applyBudget 96 = .ok (.istore 6, 2) := by decide +kernel
theorem dX12_applyBudget_98 : decode cX12_applyBudget 98 = .ok (.aload_n 0, 1) := by decide +kernel
theorem dX12_applyBudget_99 : decode cX12_applyBudget 99 = .ok (.getfield 38, 3) := by decide +kernel
theorem dX12_applyBudget_102 : decode cX12_applyBudget 102 = .ok (.iload 6, 2) := by decide +kernel
theorem dX12_applyBudget_104 : decode cX12_applyBudget 104 = .ok (.iconst 2, 1) := by decide +kernel
theorem dX12_applyBudget_105 : decode cX12_applyBudget 105 = .ok (.iadd, 1) := by decide +kernel
theorem dX12_applyBudget_106 : decode cX12_applyBudget 106 = .ok (.iaload, 1) := by decide +kernel
theorem dX12_applyBudget_107 : decode cX12_applyBudget 107 = .ok (.iload_n 1, 1) := by decide +kernel
theorem dX12_applyBudget_108 : decode cX12_applyBudget 108 = .ok (.if_icmp .ne 16, 3) := by decide +kernel
theorem dX12_applyBudget_111 : decode cX12_applyBudget 111 = .ok (.aload_n 0, 1) := by decide +kernel
theorem dX12_applyBudget_112 : decode cX12_applyBudget 112 = .ok (.getfield 38, 3) := by decide +kernel
theorem dX12_applyBudget_115 : decode cX12_applyBudget 115 = .ok (.iload 6, 2) := by decide +kernel
theorem dX12_applyBudget_117 : decode cX12_applyBudget 117 = .ok (.iconst 3, 1) := by decide +kernel
theorem dX12_applyBudget_118 : decode cX12_applyBudget 118 = .ok (.iadd, 1) := by decide +kernel
theorem dX12_applyBudget_119 : decode cX12_applyBudget 119 = .ok (.iaload, 1) := by decide +kernel
theorem dX12_applyBudget_120 : decode cX12_applyBudget 120 = .ok (.iload_n 1, 1) := by decide +kernel
theorem dX12_applyBudget_121 : decode cX12_applyBudget 121 = .ok (.if_icmp .eq 7, 3) := by decide +kernel
theorem dX12_applyBudget_124 : decode cX12_applyBudget 124 = .ok (.iconst 1, 1) := by decide +kernel
theorem dX12_applyBudget_125 : decode cX12_applyBudget 125 = .ok (.goto 4, 3) := by decide +kernel
theorem dX12_applyBudget_128 : decode cX12_applyBudget 128 = .ok (.iconst 0, 1) := by decide +kernel
theorem dX12_applyBudget_129 : decode cX12_applyBudget 129 = .ok (.istore 7, 2) := by decide +kernel
theorem dX12_applyBudget_131 : decode cX12_applyBudget 131 = .ok (.aload_n 0, 1) := by decide +kernel
theorem dX12_applyBudget_132 : decode cX12_applyBudget 132 = .ok (.iconst 0, 1) := by decide +kernel
theorem dX12_applyBudget_133 : decode cX12_applyBudget 133 = .ok (.aload_n 0, 1) := by decide +kernel
theorem dX12_applyBudget_134 : decode cX12_applyBudget 134 = .ok (.aload_n 0, 1) := by decide +kernel
theorem dX12_applyBudget_135 : decode cX12_applyBudget 135 = .ok (.aload_n 0, 1) := by decide +kernel
theorem dX12_applyBudget_136 : decode cX12_applyBudget 136 = .ok (.getfield 28, 3) := by decide +kernel
theorem dX12_applyBudget_139 : decode cX12_applyBudget 139 = .ok (.iload_n 2, 1) := by decide +kernel
theorem dX12_applyBudget_140 : decode cX12_applyBudget 140 = .ok (.laload, 1) := by decide +kernel
theorem dX12_applyBudget_141 : decode cX12_applyBudget 141 = .ok (.iconst 2, 1) := by decide +kernel
theorem dX12_applyBudget_142 : decode cX12_applyBudget 142 = .ok (.iload_n 3, 1) := by decide +kernel
theorem dX12_applyBudget_143 : decode cX12_applyBudget 143 = .ok (.bipush 10, 2) := by decide +kernel
theorem dX12_applyBudget_145 : decode cX12_applyBudget 145 = .ok (.idiv, 1) := by decide +kernel
theorem dX12_applyBudget_146 : decode cX12_applyBudget 146 = .ok (.invokevirtual 150, 3) := by decide +kernel
theorem dX12_applyBudget_149 : decode cX12_applyBudget 149 = .ok (.iconst 3, 1) := by decide +kernel
theorem dX12_applyBudget_150 : decode cX12_applyBudget 150 = .ok (.iload_n 3, 1) := by decide +kernel
theorem dX12_applyBudget_151 : decode cX12_applyBudget 151 = .ok (.bipush 10, 2) := by decide +kernel
theorem dX12_applyBudget_153 : decode cX12_applyBudget 153 = .ok (.irem, 1) := by decide +kernel
theorem dX12_applyBudget_154 : decode cX12_applyBudget 154 = .ok (.invokevirtual 150, 3) := by decide +kernel
theorem dX12_applyBudget_157 : decode cX12_applyBudget 157 = .ok (.invokevirtual 175, 3) := by decide +kernel
theorem dX12_applyBudget_160 : decode cX12_applyBudget 160 = .ok (.lstore 8, 2) := by decide +kernel
theorem dX12_applyBudget_162 : decode cX12_applyBudget 162 = .ok (.aload_n 0, 1) := by decide +kernel
theorem dX12_applyBudget_163 : decode cX12_applyBudget 163 = .ok (.iload_n 2, 1) := by decide +kernel
theorem dX12_applyBudget_164 : decode cX12_applyBudget 164 = .ok (.invokevirtual 386, 3) := by decide +kernel
theorem dX12_applyBudget_167 : decode cX12_applyBudget 167 = .ok (.ifCond .ne 20, 3) := by decide +kernel
theorem dX12_applyBudget_170 : decode cX12_applyBudget 170 = .ok (.iload 7, 2) := by decide +kernel
theorem dX12_applyBudget_172 : decode cX12_applyBudget 172 = .ok (.ifCond .eq 8, 3) := by decide +kernel
theorem dX12_applyBudget_175 : decode cX12_applyBudget 175 = .ok (.iload 4, 2) := by decide +kernel
theorem dX12_applyBudget_177 : decode cX12_applyBudget 177 = .ok (.ifCond .eq 10, 3) := by decide +kernel
theorem dX12_applyBudget_180 : decode cX12_applyBudget 180 = .ok (.aload_n 0, 1) := by decide +kernel
theorem dX12_applyBudget_181 : decode cX12_applyBudget 181 = .ok (.getfield 168, 3) := by decide +kernel
theorem dX12_applyBudget_184 : decode cX12_applyBudget 184 = .ok (.ifCond .eq 7, 3) := by decide +kernel
theorem dX12_applyBudget_187 : decode cX12_applyBudget 187 = .ok (.iconst 1, 1) := by decide +kernel
theorem dX12_applyBudget_188 : decode cX12_applyBudget 188 = .ok (.goto 4, 3) := by decide +kernel
theorem dX12_applyBudget_191 : decode cX12_applyBudget 191 = .ok (.iconst 0, 1) := by decide +kernel
theorem dX12_applyBudget_192 : decode cX12_applyBudget 192 = .ok (.istore 10, 2) := by decide +kernel
theorem dX12_applyBudget_194 : decode cX12_applyBudget 194 = .ok (.aload_n 0, 1) := by decide +kernel
theorem dX12_applyBudget_195 : decode cX12_applyBudget 195 = .ok (.iload 10, 2) := by decide +kernel
theorem dX12_applyBudget_197 : decode cX12_applyBudget 197 = .ok (.ifCond .ne 21, 3) := by decide +kernel
theorem dX12_applyBudget_200 : decode cX12_applyBudget 200 = .ok (.aload_n 0, 1) := by decide +kernel
theorem dX12_applyBudget_201 : decode cX12_applyBudget 201 = .ok (.iload_n 2, 1) := by decide +kernel
theorem dX12_applyBudget_202 : decode cX12_applyBudget 202 = .ok (.lload 8, 2) := by decide +kernel
theorem dX12_applyBudget_204 : decode cX12_applyBudget 204 = .ok (.aload_n 0, 1) := by decide +kernel
theorem dX12_applyBudget_205 : decode cX12_applyBudget 205 = .ok (.getfield 32, 3) := by decide +kernel
theorem dX12_applyBudget_208 : decode cX12_applyBudget 208 = .ok (.iload_n 2, 1) := by decide +kernel
theorem dX12_applyBudget_209 : decode cX12_applyBudget 209 = .ok (.laload, 1) := by decide +kernel
theorem dX12_applyBudget_210 : decode cX12_applyBudget 210 = .ok (.iload 7, 2) := by decide +kernel
theorem dX12_applyBudget_212 : decode cX12_applyBudget 212 = .ok (.invokevirtual 185, 3) := by decide +kernel
theorem dX12_applyBudget_215 : decode cX12_applyBudget 215 = .ok (.ifCond .ne 7, 3) := by decide +kernel
theorem dX12_applyBudget_218 : decode cX12_applyBudget 218 = .ok (.iconst 3, 1) := by decide +kernel
theorem dX12_applyBudget_219 : decode cX12_applyBudget 219 = .ok (.goto 4, 3) := by decide +kernel
theorem dX12_applyBudget_222 : decode cX12_applyBudget 222 = .ok (.iconst 0, 1) := by decide +kernel
theorem dX12_applyBudget_223 : decode cX12_applyBudget 223 = .ok (.invokevirtual 374, 3) := by decide +kernel
theorem dX12_applyBudget_226 : decode cX12_applyBudget 226 = .ok (.ifCond .ne 5, 3) := by decide +kernel
theorem dX12_applyBudget_229 : decode cX12_applyBudget 229 = .ok (.iconst 0, 1) := by decide +kernel
theorem dX12_applyBudget_230 : decode cX12_applyBudget 230 = .ok (.ireturn, 1) := by decide +kernel
theorem dX12_applyBudget_231 : decode cX12_applyBudget 231 = .ok (.aload_n 0, 1) := by decide +kernel
theorem dX12_applyBudget_232 : decode cX12_applyBudget 232 = .ok (.getfield 38, 3) := by decide +kernel
theorem dX12_applyBudget_235 : decode cX12_applyBudget 235 = .ok (.iload 6, 2) := by decide +kernel
theorem dX12_applyBudget_237 : decode cX12_applyBudget 237 = .ok (.iconst 2, 1) := by decide +kernel
theorem dX12_applyBudget_238 : decode cX12_applyBudget 238 = .ok (.iadd, 1) := by decide +kernel
theorem dX12_applyBudget_239 : decode cX12_applyBudget 239 = .ok (.iload_n 1, 1) := by decide +kernel
theorem dX12_applyBudget_240 : decode cX12_applyBudget 240 = .ok (.iastore, 1) := by decide +kernel
theorem dX12_applyBudget_241 : decode cX12_applyBudget 241 = .ok (.aload_n 0, 1) := by decide +kernel
theorem dX12_applyBudget_242 : decode cX12_applyBudget 242 = .ok (.getfield 38, 3) := by decide +kernel
theorem dX12_applyBudget_245 : decode cX12_applyBudget 245 = .ok (.iload 6, 2) := by decide +kernel
theorem dX12_applyBudget_247 : decode cX12_applyBudget 247 = .ok (.iconst 3, 1) := by decide +kernel
theorem dX12_applyBudget_248 : decode cX12_applyBudget 248 = .ok (.iadd, 1) := by decide +kernel
theorem dX12_applyBudget_249 : decode cX12_applyBudget 249 = .ok (.iload_n 1, 1) := by decide +kernel
theorem dX12_applyBudget_250 : decode cX12_applyBudget 250 = .ok (.iastore, 1) := by decide +kernel
theorem dX12_applyBudget_251 : decode cX12_applyBudget 251 = .ok (.aload_n 0, 1) := by decide +kernel
theorem dX12_applyBudget_252 : decode cX12_applyBudget 252 = .ok (.getfield 35, 3) := by decide +kernel
theorem dX12_applyBudget_255 : decode cX12_applyBudget 255 = .ok (.iload_n 2, 1) := by decide +kernel
theorem dX12_applyBudget_256 : decode cX12_applyBudget 256 = .ok (.iaload, 1) := by decide +kernel
theorem dX12_applyBudget_257 : decode cX12_applyBudget 257 = .ok (.ireturn, 1) := by decide +kernel
theorem dX12_delete_0 : decode cX12_delete 0 = .ok (.aload_n 0, 1) := by decide +kernel
theorem dX12_delete_1 : decode cX12_delete 1 = .ok (.aload_n 0, 1) := by decide +kernel
theorem dX12_delete_2 : decode cX12_delete 2 = .ok (.iload_n 1, 1) := by decide +kernel
theorem dX12_delete_3 : decode cX12_delete 3 = .ok (.invokevirtual 377, 3) := by decide +kernel
theorem dX12_delete_6 : decode cX12_delete 6 = .ok (.ifCond .ne 7, 3) := by decide +kernel
theorem dX12_delete_9 : decode cX12_delete 9 = .ok (.iconst 1, 1) := by decide +kernel
theorem dX12_delete_10 : decode cX12_delete 10 = .ok (.goto 17, 3) := by decide +kernel
theorem dX12_delete_13 : decode cX12_delete 13 = .ok (.iload_n 2, 1) := by decide +kernel
theorem dX12_delete_14 : decode cX12_delete 14 = .ok (.iconst 1, 1) := by decide +kernel
theorem dX12_delete_15 : decode cX12_delete 15 = .ok (.iconst 3, 1) := by decide +kernel
theorem dX12_delete_16 : decode cX12_delete 16 = .ok (.invokestatic 140, 3) := by decide +kernel
theorem dX12_delete_19 : decode cX12_delete 19 = .ok (.ifCond .eq 7, 3) := by decide +kernel
theorem dX12_delete_22 : decode cX12_delete 22 = .ok (.iconst 0, 1) := by decide +kernel
theorem dX12_delete_23 : decode cX12_delete 23 = .ok (.goto 4, 3) := by decide +kernel
theorem dX12_delete_26 : decode cX12_delete 26 = .ok (.iconst 2, 1) := by decide +kernel
theorem dX12_delete_27 : decode cX12_delete 27 = .ok (.invokevirtual 374, 3) := by decide +kernel
theorem dX12_delete_30 : decode cX12_delete 30 = .ok (.ifCond .ne 5, 3) := by decide +kernel
theorem dX12_delete_33 : decode cX12_delete 33 = .ok (.iconst 0, 1) := by decide +kernel
theorem dX12_delete_34 : decode cX12_delete 34 = .ok (.ireturn, 1) := by decide +kernel
theorem dX12_delete_35 : decode cX12_delete 35 = .ok (.aload_n 0, 1) := by decide +kernel
theorem dX12_delete_36 : decode cX12_delete 36 = .ok (.aload_n 0, 1) := by decide +kernel
theorem dX12_delete_37 : decode cX12_delete 37 = .ok (.getfield 28, 3) := by decide +kernel
theorem dX12_delete_40 : decode cX12_delete 40 = .ok (.iload_n 1, 1) := by decide +kernel
theorem dX12_delete_41 : decode cX12_delete 41 = .ok (.laload, 1) := by decide +kernel
theorem dX12_delete_42 : decode cX12_delete 42 = .ok (.bipush 13, 2) := by decide +kernel
theorem dX12_delete_44 : decode cX12_delete 44 = .ok (.invokevirtual 146, 3) := by decide +kernel
theorem dX12_delete_47 : decode cX12_delete 47 = .ok (.ifCond .ne 30, 3) := by decide +kernel
theorem dX12_delete_50 : decode cX12_delete 50 = .ok (.aload_n 0, 1) := by decide +kernel
theorem dX12_delete_51 : decode cX12_delete 51 = .ok (.iload_n 1, 1) := by decide +kernel
theorem dX12_delete_52 : decode cX12_delete 52 = .ok (.aload_n 0, 1) := by decide +kernel
theorem dX12_delete_53 : decode cX12_delete 53 = .ok (.iload_n 1, 1) := by decide +kernel
theorem dX12_delete_54 : decode cX12_delete 54 = .ok (.aload_n 0, 1) := by decide +kernel
theorem dX12_delete_55 : decode cX12_delete 55 = .ok (.getfield 28, 3) := by decide +kernel
theorem dX12_delete_58 : decode cX12_delete 58 = .ok (.iload_n 1, 1) := by decide +kernel
theorem dX12_delete_59 : decode cX12_delete 59 = .ok (.laload, 1) := by decide +kernel
theorem dX12_delete_60 : decode cX12_delete 60 = .ok (.iload_n 2, 1) := by decide +kernel
theorem dX12_delete_61 : decode cX12_delete 61 = .ok (.invokevirtual 257, 3) := by decide +kernel
theorem dX12_delete_64 : decode cX12_delete 64 = .ok (.aload_n 0, 1) := by decide +kernel
theorem dX12_delete_65 : decode cX12_delete 65 = .ok (.getfield 32, 3) := by decide +kernel
theorem dX12_delete_68 : decode cX12_delete 68 = .ok (.iload_n 1, 1) := by decide +kernel
theorem dX12_delete_69 : decode cX12_delete 69 = .ok (.laload, 1) := by decide +kernel
theorem dX12_delete_70 : decode cX12_delete 70 = .ok (.iconst 0, 1) := by decide +kernel
theorem dX12_delete_71 : decode cX12_delete 71 = .ok (.invokevirtual 185, 3) := by decide +kernel
theorem dX12_delete_74 : decode cX12_delete 74 = .ok (.ifCond .ne 7, 3) := by decide +kernel
theorem dX12_delete_77 : decode cX12_delete 77 = .ok (.iconst 1, 1) := by decide +kernel
theorem dX12_delete_78 : decode cX12_delete 78 = .ok (.goto 4, 3) := by decide +kernel
theorem dX12_delete_81 : decode cX12_delete 81 = .ok (.iconst 0, 1) := by decide +kernel
theorem dX12_delete_82 : decode cX12_delete 82 = .ok (.istore_n 3, 1) := by decide +kernel
theorem dX12_delete_83 : decode cX12_delete 83 = .ok (.aload_n 0, 1) := by decide +kernel
theorem dX12_delete_84 : decode cX12_delete 84 = .ok (.iload_n 3, 1) := by decide +kernel
theorem dX12_delete_85 : decode cX12_delete 85 = .ok (.ifCond .eq 7, 3) := by decide +kernel
theorem dX12_delete_88 : decode cX12_delete 88 = .ok (.iconst 3, 1) := by decide +kernel
theorem dX12_delete_89 : decode cX12_delete 89 = .ok (.goto 4, 3) := by decide +kernel
theorem dX12_delete_92 : decode cX12_delete 92 = .ok (.iconst 0, 1) := by decide +kernel
theorem dX12_delete_93 : decode cX12_delete 93 = .ok (.invokevirtual 374, 3) := by decide +kernel
theorem dX12_delete_96 : decode cX12_delete 96 = .ok (.ifCond .eq 18, 3) := by decide +kernel
theorem dX12_delete_99 : decode cX12_delete 99 = .ok (.aload_n 0, 1) := by decide +kernel
theorem dX12_delete_100 : decode cX12_delete 100 = .ok (.aload_n 0, 1) := by decide +kernel
theorem dX12_delete_101 : decode cX12_delete 101 = .ok (.getfield 28, 3) := by decide +kernel
theorem dX12_delete_104 : decode cX12_delete 104 = .ok (.iload_n 1, 1) := by decide +kernel
theorem dX12_delete_105 : decode cX12_delete 105 = .ok (.laload, 1) := by decide +kernel
theorem dX12_delete_106 : decode cX12_delete 106 = .ok (.bipush 13, 2) := by decide +kernel
theorem dX12_delete_108 : decode cX12_delete 108 = .ok (.invokevirtual 146, 3) := by decide +kernel
theorem dX12_delete_111 : decode cX12_delete 111 = .ok (.goto 4, 3) := by decide +kernel
theorem dX12_delete_114 : decode cX12_delete 114 = .ok (.iconst 0, 1) := by decide +kernel
theorem dX12_delete_115 : decode cX12_delete 115 = .ok (.ireturn, 1) := by decide +kernel
theorem dX12_hold_0 : decode cX12_hold 0 = .ok (.aload_n 0, 1) := by decide +kernel
theorem dX12_hold_1 : decode cX12_hold 1 = .ok (.aload_n 0, 1) := by decide +kernel
theorem dX12_hold_2 : decode cX12_hold 2 = .ok (.iload_n 1, 1) := by decide +kernel
theorem dX12_hold_3 : decode cX12_hold 3 = .ok (.invokevirtual 377, 3) := by decide +kernel
theorem dX12_hold_6 : decode cX12_hold 6 = .ok (.ifCond .eq 7, 3) := by decide +kernel
theorem dX12_hold_9 : decode cX12_hold 9 = .ok (.iconst 0, 1) := by decide +kernel
theorem dX12_hold_10 : decode cX12_hold 10 = .ok (.goto 4, 3) := by decide +kernel
theorem dX12_hold_13 : decode cX12_hold 13 = .ok (.iconst 1, 1) := by decide +kernel
theorem dX12_hold_14 : decode cX12_hold 14 = .ok (.invokevirtual 374, 3) := by decide +kernel
theorem dX12_hold_17 : decode cX12_hold 17 = .ok (.ifCond .ne 5, 3) := by decide +kernel
theorem dX12_hold_20 : decode cX12_hold 20 = .ok (.iconst 0, 1) := by decide +kernel
theorem dX12_hold_21 : decode cX12_hold 21 = .ok (.ireturn, 1) := by decide +kernel
theorem dX12_hold_22 : decode cX12_hold 22 = .ok (.aload_n 0, 1) := by decide +kernel
theorem dX12_hold_23 : decode cX12_hold 23 = .ok (.aload_n 0, 1) := by decide +kernel
theorem dX12_hold_24 : decode cX12_hold 24 = .ok (.getfield 28, 3) := by decide +kernel
theorem dX12_hold_27 : decode cX12_hold 27 = .ok (.iload_n 1, 1) := by decide +kernel
theorem dX12_hold_28 : decode cX12_hold 28 = .ok (.laload, 1) := by decide +kernel
theorem dX12_hold_29 : decode cX12_hold 29 = .ok (.bipush 12, 2) := by decide +kernel
theorem dX12_hold_31 : decode cX12_hold 31 = .ok (.invokevirtual 146, 3) := by decide +kernel
theorem dX12_hold_34 : decode cX12_hold 34 = .ok (.iconst 1, 1) := by decide +kernel
theorem dX12_hold_35 : decode cX12_hold 35 = .ok (.if_icmp .ne 7, 3) := by decide +kernel
theorem dX12_hold_38 : decode cX12_hold 38 = .ok (.iconst 1, 1) := by decide +kernel
theorem dX12_hold_39 : decode cX12_hold 39 = .ok (.goto 4, 3) := by decide +kernel
theorem dX12_hold_42 : decode cX12_hold 42 = .ok (.iconst 0, 1) := by decide +kernel
theorem dX12_hold_43 : decode cX12_hold 43 = .ok (.istore_n 3, 1) := by decide +kernel
theorem dX12_hold_44 : decode cX12_hold 44 = .ok (.aload_n 0, 1) := by decide +kernel
theorem dX12_hold_45 : decode cX12_hold 45 = .ok (.iload_n 1, 1) := by decide +kernel
theorem dX12_hold_46 : decode cX12_hold 46 = .ok (.invokevirtual 386, 3) := by decide +kernel
theorem dX12_hold_49 : decode cX12_hold 49 = .ok (.ifCond .ne 39, 3) := by decide +kernel
theorem dX12_hold_52 : decode cX12_hold 52 = .ok (.aload_n 0, 1) := by decide +kernel
theorem dX12_hold_53 : decode cX12_hold 53 = .ok (.iload_n 1, 1) := by decide +kernel
theorem dX12_hold_54 : decode cX12_hold 54 = .ok (.aload_n 0, 1) := by decide +kernel
theorem dX12_hold_55 : decode cX12_hold 55 = .ok (.aload_n 0, 1) := by decide +kernel
theorem dX12_hold_56 : decode cX12_hold 56 = .ok (.getfield 28, 3) := by decide +kernel
theorem dX12_hold_59 : decode cX12_hold 59 = .ok (.iload_n 1, 1) := by decide +kernel
theorem dX12_hold_60 : decode cX12_hold 60 = .ok (.laload, 1) := by decide +kernel
theorem dX12_hold_61 : decode cX12_hold 61 = .ok (.bipush 12, 2) := by decide +kernel
theorem dX12_hold_63 : decode cX12_hold 63 = .ok (.iload_n 2, 1) := by decide +kernel
theorem dX12_hold_64 : decode cX12_hold 64 = .ok (.ifCond .eq 7, 3) := by decide +kernel
theorem dX12_hold_67 : decode cX12_hold 67 = .ok (.iconst 1, 1) := by decide +kernel
theorem dX12_hold_68 : decode cX12_hold 68 = .ok (.goto 4, 3) := by decide +kernel
theorem dX12_hold_71 : decode cX12_hold 71 = .ok (.iconst 0, 1) := by decide +kernel
theorem dX12_hold_72 : decode cX12_hold 72 = .ok (.invokevirtual 150, 3) := by decide +kernel
theorem dX12_hold_75 : decode cX12_hold 75 = .ok (.aload_n 0, 1) := by decide +kernel
theorem dX12_hold_76 : decode cX12_hold 76 = .ok (.getfield 32, 3) := by decide +kernel
theorem dX12_hold_79 : decode cX12_hold 79 = .ok (.iload_n 1, 1) := by decide +kernel
theorem dX12_hold_80 : decode cX12_hold 80 = .ok (.laload, 1) := by decide +kernel
theorem dX12_hold_81 : decode cX12_hold 81 = .ok (.iconst 0, 1) := by decide +kernel
theorem dX12_hold_82 : decode cX12_hold 82 = .ok (.invokevirtual 185, 3) := by decide +kernel
theorem dX12_hold_85 : decode cX12_hold 85 = .ok (.ifCond .ne 7, 3) := by decide +kernel
theorem dX12_hold_88 : decode cX12_hold 88 = .ok (.iconst 1, 1) := by decide +kernel
theorem dX12_hold_89 : decode cX12_hold 89 = .ok (.goto 4, 3) := by decide +kernel
theorem dX12_hold_92 : decode cX12_hold 92 = .ok (.iconst 0, 1) := by decide +kernel
theorem dX12_hold_93 : decode cX12_hold 93 = .ok (.istore 4, 2) := by decide +kernel
theorem dX12_hold_95 : decode cX12_hold 95 = .ok (.aload_n 0, 1) := by decide +kernel
theorem dX12_hold_96 : decode cX12_hold 96 = .ok (.iload 4, 2) := by decide +kernel
theorem dX12_hold_98 : decode cX12_hold 98 = .ok (.ifCond .eq 7, 3) := by decide +kernel
theorem dX12_hold_101 : decode cX12_hold 101 = .ok (.iconst 2, 1) := by decide +kernel
theorem dX12_hold_102 : decode cX12_hold 102 = .ok (.goto 4, 3) := by decide +kernel
theorem dX12_hold_105 : decode cX12_hold 105 = .ok (.iconst 0, 1) := by decide +kernel
theorem dX12_hold_106 : decode cX12_hold 106 = .ok (.invokevirtual 374, 3) := by decide +kernel
theorem dX12_hold_109 : decode cX12_hold 109 = .ok (.ifCond .eq 11, 3) := by decide +kernel
theorem dX12_hold_112 : decode cX12_hold 112 = .ok (.iload_n 3, 1) := by decide +kernel
theorem dX12_hold_113 : decode cX12_hold 113 = .ok (.ifCond .eq 7, 3) := by decide +kernel
theorem dX12_hold_116 : decode cX12_hold 116 = .ok (.iconst 1, 1) := by decide +kernel
theorem dX12_hold_117 : decode cX12_hold 117 = .ok (.goto 4, 3) := by decide +kernel
theorem dX12_hold_120 : decode cX12_hold 120 = .ok (.iconst 0, 1) := by decide +kernel
theorem dX12_hold_121 : decode cX12_hold 121 = .ok (.ireturn, 1) := by decide +kernel
theorem dX12_finish_0 : decode cX12_finish 0 = .ok (.aload_n 0, 1) := by decide +kernel
theorem dX12_finish_1 : decode cX12_finish 1 = .ok (.aload_n 0, 1) := by decide +kernel
theorem dX12_finish_2 : decode cX12_finish 2 = .ok (.iload_n 1, 1) := by decide +kernel
theorem dX12_finish_3 : decode cX12_finish 3 = .ok (.invokevirtual 377, 3) := by decide +kernel
theorem dX12_finish_6 : decode cX12_finish 6 = .ok (.ifCond .ne 7, 3) := by decide +kernel
theorem dX12_finish_9 : decode cX12_finish 9 = .ok (.iconst 1, 1) := by decide +kernel
theorem dX12_finish_10 : decode cX12_finish 10 = .ok (.goto 18, 3) := by decide +kernel
theorem dX12_finish_13 : decode cX12_finish 13 = .ok (.aload_n 0, 1) := by decide +kernel
theorem dX12_finish_14 : decode cX12_finish 14 = .ok (.getfield 25, 3) := by decide +kernel
theorem dX12_finish_17 : decode cX12_finish 17 = .ok (.iload_n 1, 1) := by decide +kernel
theorem dX12_finish_18 : decode cX12_finish 18 = .ok (.iaload, 1) := by decide +kernel
theorem dX12_finish_19 : decode cX12_finish 19 = .ok (.iconst 2, 1) := by decide +kernel
theorem dX12_finish_20 : decode cX12_finish 20 = .ok (.if_icmp .ne 7, 3) := by decide +kernel
theorem dX12_finish_23 : decode cX12_finish 23 = .ok (.iconst 0, 1) := by decide +kernel
theorem dX12_finish_24 : decode cX12_finish 24 = .ok (.goto 4, 3) := by decide +kernel
theorem dX12_finish_27 : decode cX12_finish 27 = .ok (.iconst 2, 1) := by decide +kernel
theorem dX12_finish_28 : decode cX12_finish 28 = .ok (.invokevirtual 374, 3) := by decide +kernel
theorem dX12_finish_31 : decode cX12_finish 31 = .ok (.ifCond .ne 5, 3) := by decide +kernel
theorem dX12_finish_34 : decode cX12_finish 34 = .ok (.iconst 0, 1) := by decide +kernel
theorem dX12_finish_35 : decode cX12_finish 35 = .ok (.ireturn, 1) := by decide +kernel
theorem dX12_finish_36 : decode cX12_finish 36 = .ok (.aload_n 0, 1) := by decide +kernel
theorem dX12_finish_37 : decode cX12_finish 37 = .ok (.iload_n 1, 1) := by decide +kernel
theorem dX12_finish_38 : decode cX12_finish 38 = .ok (.invokevirtual 386, 3) := by decide +kernel
theorem dX12_finish_41 : decode cX12_finish 41 = .ok (.ifCond .ne 55, 3) := by decide +kernel
theorem dX12_finish_44 : decode cX12_finish 44 = .ok (.aload_n 0, 1) := by decide +kernel
theorem dX12_finish_45 : decode cX12_finish 45 = .ok (.aload_n 0, 1) := by decide +kernel
theorem dX12_finish_46 : decode cX12_finish 46 = .ok (.getfield 28, 3) := by decide +kernel
theorem dX12_finish_49 : decode cX12_finish 49 = .ok (.iload_n 1, 1) := by decide +kernel
theorem dX12_finish_50 : decode cX12_finish 50 = .ok (.laload, 1) := by decide +kernel
theorem dX12_finish_51 : decode cX12_finish 51 = .ok (.bipush 16, 2) := by decide +kernel
theorem dX12_finish_53 : decode cX12_finish 53 = .ok (.invokevirtual 146, 3) := by decide +kernel
theorem dX12_finish_56 : decode cX12_finish 56 = .ok (.iconst 1, 1) := by decide +kernel
theorem dX12_finish_57 : decode cX12_finish 57 = .ok (.if_icmp .ne 39, 3) := by decide +kernel
theorem dX12_finish_60 : decode cX12_finish 60 = .ok (.aload_n 0, 1) := by decide +kernel
theorem dX12_finish_61 : decode cX12_finish 61 = .ok (.iload_n 1, 1) := by decide +kernel
theorem dX12_finish_62 : decode cX12_finish 62 = .ok (.aload_n 0, 1) := by decide +kernel
theorem dX12_finish_63 : decode cX12_finish 63 = .ok (.aload_n 0, 1) := by decide +kernel
theorem dX12_finish_64 : decode cX12_finish 64 = .ok (.getfield 28, 3) := by decide +kernel
theorem dX12_finish_67 : decode cX12_finish 67 = .ok (.iload_n 1, 1) := by decide +kernel
theorem dX12_finish_68 : decode cX12_finish 68 = .ok (.laload, 1) := by decide +kernel
theorem dX12_finish_69 : decode cX12_finish 69 = .ok (.bipush 16, 2) := by decide +kernel
theorem dX12_finish_71 : decode cX12_finish 71 = .ok (.iload_n 2, 1) := by decide +kernel
theorem dX12_finish_72 : decode cX12_finish 72 = .ok (.ifCond .eq 7, 3) := by decide +kernel
theorem dX12_finish_75 : decode cX12_finish 75 = .ok (.iconst 2, 1) := by decide +kernel
theorem dX12_finish_76 : decode cX12_finish 76 = .ok (.goto 4, 3) := by decide +kernel
theorem dX12_finish_79 : decode cX12_finish 79 = .ok (.iconst 3, 1) := by decide +kernel
theorem dX12_finish_80 : decode cX12_finish 80 = .ok (.invokevirtual 150, 3) := by decide +kernel
theorem dX12_finish_83 : decode cX12_finish 83 = .ok (.aload_n 0, 1) := by decide +kernel
theorem dX12_finish_84 : decode cX12_finish 84 = .ok (.getfield 32, 3) := by decide +kernel
theorem dX12_finish_87 : decode cX12_finish 87 = .ok (.iload_n 1, 1) := by decide +kernel
theorem dX12_finish_88 : decode cX12_finish 88 = .ok (.laload, 1) := by decide +kernel
theorem dX12_finish_89 : decode cX12_finish 89 = .ok (.iconst 0, 1) := by decide +kernel
theorem dX12_finish_90 : decode cX12_finish 90 = .ok (.invokevirtual 185, 3) := by decide +kernel
theorem dX12_finish_93 : decode cX12_finish 93 = .ok (.ifCond .ne 7, 3) := by decide +kernel
theorem dX12_finish_96 : decode cX12_finish 96 = .ok (.iconst 1, 1) := by decide +kernel
theorem dX12_finish_97 : decode cX12_finish 97 = .ok (.goto 4, 3) := by decide +kernel
theorem dX12_finish_100 : decode cX12_finish 100 = .ok (.iconst 0, 1) := by decide +kernel
theorem dX12_finish_101 : decode cX12_finish 101 = .ok (.istore_n 3, 1) := by decide +kernel
theorem dX12_finish_102 : decode cX12_finish 102 = .ok (.aload_n 0, 1) := by decide +kernel
theorem dX12_finish_103 : decode cX12_finish 103 = .ok (.iload_n 3, 1) := by decide +kernel
theorem dX12_finish_104 : decode cX12_finish 104 = .ok (.ifCond .eq 7, 3) := by decide +kernel
theorem dX12_finish_107 : decode cX12_finish 107 = .ok (.iconst 3, 1) := by decide +kernel
theorem dX12_finish_108 : decode cX12_finish 108 = .ok (.goto 4, 3) := by decide +kernel
theorem dX12_finish_111 : decode cX12_finish 111 = .ok (.iconst 0, 1) := by decide +kernel
theorem dX12_finish_112 : decode cX12_finish 112 = .ok (.invokevirtual 374, 3) := by decide +kernel
theorem dX12_finish_115 : decode cX12_finish 115 = .ok (.ifCond .eq 12, 3) := by decide +kernel
theorem dX12_finish_118 : decode cX12_finish 118 = .ok (.aload_n 0, 1) := by decide +kernel
theorem dX12_finish_119 : decode cX12_finish 119 = .ok (.getfield 35, 3) := by decide +kernel
theorem dX12_finish_122 : decode cX12_finish 122 = .ok (.iload_n 1, 1) := by decide +kernel
theorem dX12_finish_123 : decode cX12_finish 123 = .ok (.iaload, 1) := by decide +kernel
theorem dX12_finish_124 : decode cX12_finish 124 = .ok (.goto 4, 3) := by decide +kernel
theorem dX12_finish_127 : decode cX12_finish 127 = .ok (.iconst 0, 1) := by decide +kernel
theorem dX12_finish_128 : decode cX12_finish 128 = .ok (.ireturn, 1) := by decide +kernel
theorem dX12_rule_0 : decode cX12_rule 0 = .ok (.iload_n 1, 1) := by decide +kernel
theorem dX12_rule_1 : decode cX12_rule 1 = .ok (.invokestatic 371, 3) := by decide +kernel
theorem dX12_rule_4 : decode cX12_rule 4 = .ok (.ifCond .eq 43, 3) := by decide +kernel
theorem dX12_rule_7 : decode cX12_rule 7 = .ok (.aload_n 0, 1) := by decide +kernel
theorem dX12_rule_8 : decode cX12_rule 8 = .ok (.iload_n 1, 1) := by decide +kernel
theorem dX12_rule_9 : decode cX12_rule 9 = .ok (.iload_n 2, 1) := by decide +kernel
theorem dX12_rule_10 : decode cX12_rule 10 = .ok (.invokevirtual 380, 3) := by decide +kernel
theorem dX12_rule_13 : decode cX12_rule 13 = .ok (.ifCond .eq 34, 3) := by decide +kernel
theorem dX12_rule_16 : decode cX12_rule 16 = .ok (.iload_n 3, 1) := by decide +kernel
theorem dX12_rule_17 : decode cX12_rule 17 = .ok (.iload 4, 2) := by decide +kernel
theorem dX12_rule_19 : decode cX12_rule 19 = .ok (.if_icmp .gt 28, 3) := by decide +kernel
theorem dX12_rule_22 : decode cX12_rule 22 = .ok (.aload_n 0, 1) := by decide +kernel
theorem dX12_rule_23 : decode cX12_rule 23 = .ok (.iload_n 1, 1) := by decide +kernel
theorem dX12_rule_24 : decode cX12_rule 24 = .ok (.iload 5, 2) := by decide +kernel
theorem dX12_rule_26 : decode cX12_rule 26 = .ok (.invokevirtual 380, 3) := by decide +kernel
theorem dX12_rule_29 : decode cX12_rule 29 = .ok (.ifCond .eq 18, 3) := by decide +kernel
theorem dX12_rule_32 : decode cX12_rule 32 = .ok (.aload_n 0, 1) := by decide +kernel
theorem dX12_rule_33 : decode cX12_rule 33 = .ok (.iload 5, 2) := by decide +kernel
theorem dX12_rule_35 : decode cX12_rule 35 = .ok (.iload 6, 2) := by decide +kernel
theorem dX12_rule_37 : decode cX12_rule 37 = .ok (.invokevirtual 383, 3) := by decide +kernel
theorem dX12_rule_40 : decode cX12_rule 40 = .ok (.ifCond .eq 7, 3) := by decide +kernel
theorem dX12_rule_43 : decode cX12_rule 43 = .ok (.iconst 1, 1) := by decide +kernel
theorem dX12_rule_44 : decode cX12_rule 44 = .ok (.goto 4, 3) := by decide +kernel
theorem dX12_rule_47 : decode cX12_rule 47 = .ok (.iconst 0, 1) := by decide +kernel
theorem dX12_rule_48 : decode cX12_rule 48 = .ok (.istore 7, 2) := by decide +kernel
theorem dX12_rule_50 : decode cX12_rule 50 = .ok (.aload_n 0, 1) := by decide +kernel
theorem dX12_rule_51 : decode cX12_rule 51 = .ok (.iload 7, 2) := by decide +kernel
theorem dX12_rule_53 : decode cX12_rule 53 = .ok (.ifCond .ne 7, 3) := by decide +kernel
theorem dX12_rule_56 : decode cX12_rule 56 = .ok (.iconst 1, 1) := by decide +kernel
theorem dX12_rule_57 : decode cX12_rule 57 = .ok (.goto 17, 3) := by decide +kernel
theorem dX12_rule_60 : decode cX12_rule 60 = .ok (.aload_n 0, 1) := by decide +kernel
theorem dX12_rule_61 : decode cX12_rule 61 = .ok (.getfield 165, 3) := by decide +kernel
theorem dX12_rule_64 : decode cX12_rule 64 = .ok (.bipush 8, 2) := by decide +kernel
theorem dX12_rule_66 : decode cX12_rule 66 = .ok (.if_icmp .ne 7, 3) := by decide +kernel
theorem dX12_rule_69 : decode cX12_rule 69 = .ok (.iconst 2, 1) := by decide +kernel
theorem dX12_rule_70 : decode cX12_rule 70 = .ok (.goto 4, 3) := by decide +kernel
theorem dX12_rule_73 : decode cX12_rule 73 = .ok (.iconst 0, 1) := by decide +kernel
theorem dX12_rule_74 : decode cX12_rule 74 = .ok (.invokevirtual 374, 3) := by decide +kernel
theorem dX12_rule_77 : decode cX12_rule 77 = .ok (.ifCond .ne 5, 3) := by decide +kernel
theorem dX12_rule_80 : decode cX12_rule 80 = .ok (.iconst 0, 1) := by decide +kernel
theorem dX12_rule_81 : decode cX12_rule 81 = .ok (.ireturn, 1) := by decide +kernel
theorem dX12_rule_82 : decode cX12_rule 82 = .ok (.aload_n 0, 1) := by decide +kernel
theorem dX12_rule_83 : decode cX12_rule 83 = .ok (.getfield 59, 3) := by decide +kernel
theorem dX12_rule_86 : decode cX12_rule 86 = .ok (.aload_n 0, 1) := by decide +kernel
theorem dX12_rule_87 : decode cX12_rule 87 = .ok (.getfield 165, 3) := by decide +kernel
theorem dX12_rule_90 : decode cX12_rule 90 = .ok (.iload_n 1, 1) := by decide +kernel
theorem dX12_rule_91 : decode cX12_rule 91 = .ok (.iastore, 1) := by decide +kernel
theorem dX12_rule_92 : decode cX12_rule 92 = .ok (.aload_n 0, 1) := by decide +kernel
theorem dX12_rule_93 : decode cX12_rule 93 = .ok (.getfield 62, 3) := by decide +kernel
theorem dX12_rule_96 : decode cX12_rule 96 = .ok (.aload_n 0, 1) := by decide +kernel
theorem dX12_rule_97 : decode cX12_rule 97 = .ok (.getfield 165, 3) := by decide +kernel
theorem dX12_rule_100 : decode cX12_rule 100 = .ok (.iload_n 2, 1) := by decide +kernel
theorem dX12_rule_101 : decode cX12_rule 101 = .ok (.iastore, 1) := by decide +kernel
theorem dX12_rule_102 : decode cX12_rule 102 = .ok (.aload_n 0, 1) := by decide +kernel
theorem dX12_rule_103 : decode cX12_rule 103 = .ok (.getfield 65, 3) := by decide +kernel
theorem dX12_rule_106 : decode cX12_rule 106 = .ok (.aload_n 0, 1) := by decide +kernel
theorem dX12_rule_107 : decode cX12_rule 107 = .ok (.getfield 165, 3) := by decide +kernel
theorem dX12_rule_110 : decode cX12_rule 110 = .ok (.iload_n 3, 1) := by decide +kernel
theorem dX12_rule_111 : decode cX12_rule 111 = .ok (.iastore, 1) := by decide +kernel
theorem dX12_rule_112 : decode cX12_rule 112 = .ok (.aload_n 0, 1) := by decide +kernel
theorem dX12_rule_113 : decode cX12_rule 113 = .ok (.getfield 68, 3) := by decide +kernel
theorem dX12_rule_116 : decode cX12_rule 116 = .ok (.aload_n 0, 1) := by decide +kernel
theorem dX12_rule_117 : decode cX12_rule 117 = .ok (.getfield 165, 3) := by decide +kernel
theorem dX12_rule_120 : decode cX12_rule 120 = .ok (.iload 4, 2) := by decide +kernel
theorem dX12_rule_122 : decode cX12_rule 122 = .ok (.iastore, 1) := by decide +kernel
theorem dX12_rule_123 : decode cX12_rule 123 = .ok (.aload_n 0, 1) := by decide +kernel
theorem dX12_rule_124 : decode cX12_rule 124 = .ok (.getfield 71, 3) := by decide +kernel
theorem dX12_rule_127 : decode cX12_rule 127 = .ok (.aload_n 0, 1) := by decide +kernel
theorem dX12_rule_128 : decode cX12_rule 128 = .ok (.getfield 165, 3) := by decide +kernel
theorem dX12_rule_131 : decode cX12_rule 131 = .ok (.iload 5, 2) := by decide +kernel
theorem dX12_rule_133 : decode cX12_rule 133 = .ok (.iastore, 1) := by decide +kernel
theorem dX12_rule_134 : decode cX12_rule 134 = .ok (.aload_n 0, 1) := by decide +kernel
theorem dX12_rule_135 : decode cX12_rule 135 = .ok (.getfield 74, 3) := by decide +kernel
theorem dX12_rule_138 : decode cX12_rule 138 = .ok (.aload_n 0, 1) := by decide +kernel
theorem dX12_rule_139 : decode cX12_rule 139 = .ok (.getfield 165, 3) := by decide +kernel
theorem dX12_rule_142 : decode cX12_rule 142 = .ok (.iload 6, 2) := by decide +kernel
theorem dX12_rule_144 : decode cX12_rule 144 = .ok (.iastore, 1) := by decide +kernel
theorem dX12_rule_145 : decode cX12_rule 145 = .ok (.aload_n 0, 1) := by decide +kernel
theorem dX12_rule_146 : decode cX12_rule 146 = .ok (.dup, 1) := by decide +kernel
theorem dX12_rule_147 : decode cX12_rule 147 = .ok (.getfield 165, 3) := by decide +kernel
theorem dX12_rule_150 : decode cX12_rule 150 = .ok (.iconst 1, 1) := by decide +kernel
theorem dX12_rule_151 : decode cX12_rule 151 = .ok (.iadd, 1) := by decide +kernel
theorem dX12_rule_152 : decode cX12_rule 152 = .ok (.putfield 165, 3) := by decide +kernel
theorem dX12_rule_155 : decode cX12_rule 155 = .ok (.aload_n 0, 1) := by decide +kernel
theorem dX12_rule_156 : decode cX12_rule 156 = .ok (.getfield 165, 3) := by decide +kernel
theorem dX12_rule_159 : decode cX12_rule 159 = .ok (.ireturn, 1) := by decide +kernel
theorem dX12_check_0 : decode cX12_check 0 = .ok (.aload_n 0, 1) := by decide +kernel
theorem dX12_check_1 : decode cX12_check 1 = .ok (.iload_n 1, 1) := by decide +kernel
theorem dX12_check_2 : decode cX12_check 2 = .ok (.invokestatic 371, 3) := by decide +kernel
theorem dX12_check_5 : decode cX12_check 5 = .ok (.ifCond .eq 12, 3) := by decide +kernel
theorem dX12_check_8 : decode cX12_check 8 = .ok (.aload_n 0, 1) := by decide +kernel
theorem dX12_check_9 : decode cX12_check 9 = .ok (.iload_n 1, 1) := by decide +kernel
theorem dX12_check_10 : decode cX12_check 10 = .ok (.iload_n 2, 1) := by decide +kernel
theorem dX12_check_11 : decode cX12_check 11 = .ok (.invokevirtual 380, 3) := by decide +kernel
theorem dX12_check_14 : decode cX12_check 14 = .ok (.ifCond .ne 7, 3) := by decide +kernel
theorem dX12_check_17 : decode cX12_check 17 = .ok (.iconst 1, 1) := by decide +kernel
theorem dX12_check_18 : decode cX12_check 18 = .ok (.goto 17, 3) := by decide +kernel
theorem dX12_check_21 : decode cX12_check 21 = .ok (.aload_n 0, 1) := by decide +kernel
theorem dX12_check_22 : decode cX12_check 22 = .ok (.getfield 172, 3) := by decide +kernel
theorem dX12_check_25 : decode cX12_check 25 = .ok (.bipush 8, 2) := by decide +kernel
theorem dX12_check_27 : decode cX12_check 27 = .ok (.if_icmp .ne 7, 3) := by decide +kernel
theorem dX12_check_30 : decode cX12_check 30 = .ok (.iconst 2, 1) := by decide +kernel
theorem dX12_check_31 : decode cX12_check 31 = .ok (.goto 4, 3) := by decide +kernel
theorem dX12_check_34 : decode cX12_check 34 = .ok (.iconst 0, 1) := by decide +kernel
theorem dX12_check_35 : decode cX12_check 35 = .ok (.invokevirtual 374, 3) := by decide +kernel
theorem dX12_check_38 : decode cX12_check 38 = .ok (.ifCond .ne 5, 3) := by decide +kernel
theorem dX12_check_41 : decode cX12_check 41 = .ok (.iconst 0, 1) := by decide +kernel
theorem dX12_check_42 : decode cX12_check 42 = .ok (.ireturn, 1) := by decide +kernel
theorem dX12_check_43 : decode cX12_check 43 = .ok (.aload_n 0, 1) := by decide +kernel
theorem dX12_check_44 : decode cX12_check 44 = .ok (.getfield 77, 3) := by decide +kernel
theorem dX12_check_47 : decode cX12_check 47 = .ok (.aload_n 0, 1) := by decide +kernel
theorem dX12_check_48 : decode cX12_check 48 = .ok (.getfield 172, 3) := by decide +kernel
theorem dX12_check_51 : decode cX12_check 51 = .ok (.iload_n 1, 1) := by decide +kernel
theorem dX12_check_52 : decode cX12_check 52 = .ok (.iastore, 1) := by decide +kernel
theorem dX12_check_53 : decode cX12_check 53 = .ok (.aload_n 0, 1) := by decide +kernel
theorem dX12_check_54 : decode cX12_check 54 = .ok (.getfield 80, 3) := by decide +kernel
theorem dX12_check_57 : decode cX12_check 57 = .ok (.aload_n 0, 1) := by decide +kernel
theorem dX12_check_58 : decode cX12_check 58 = .ok (.getfield 172, 3) := by decide +kernel
theorem dX12_check_61 : decode cX12_check 61 = .ok (.iload_n 2, 1) := by decide +kernel
theorem dX12_check_62 : decode cX12_check 62 = .ok (.iastore, 1) := by decide +kernel
theorem dX12_check_63 : decode cX12_check 63 = .ok (.aload_n 0, 1) := by decide +kernel
theorem dX12_check_64 : decode cX12_check 64 = .ok (.getfield 83, 3) := by decide +kernel
theorem dX12_check_67 : decode cX12_check 67 = .ok (.aload_n 0, 1) := by decide +kernel
theorem dX12_check_68 : decode cX12_check 68 = .ok (.getfield 172, 3) := by decide +kernel
theorem dX12_check_71 : decode cX12_check 71 = .ok (.iload_n 3, 1) := by decide +kernel
theorem dX12_check_72 : decode cX12_check 72 = .ok (.iastore, 1) := by decide +kernel
theorem dX12_check_73 : decode cX12_check 73 = .ok (.aload_n 0, 1) := by decide +kernel
theorem dX12_check_74 : decode cX12_check 74 = .ok (.dup, 1) := by decide +kernel
theorem dX12_check_75 : decode cX12_check 75 = .ok (.getfield 172, 3) := by decide +kernel
theorem dX12_check_78 : decode cX12_check 78 = .ok (.iconst 1, 1) := by decide +kernel
theorem dX12_check_79 : decode cX12_check 79 = .ok (.iadd, 1) := by decide +kernel
theorem dX12_check_80 : decode cX12_check 80 = .ok (.putfield 172, 3) := by decide +kernel
theorem dX12_check_83 : decode cX12_check 83 = .ok (.aload_n 0, 1) := by decide +kernel
theorem dX12_check_84 : decode cX12_check 84 = .ok (.getfield 172, 3) := by decide +kernel
theorem dX12_check_87 : decode cX12_check 87 = .ok (.ireturn, 1) := by decide +kernel
theorem dX12_clear_0 : decode cX12_clear 0 = .ok (.aload_n 0, 1) := by decide +kernel
theorem dX12_clear_1 : decode cX12_clear 1 = .ok (.iconst 0, 1) := by decide +kernel
theorem dX12_clear_2 : decode cX12_clear 2 = .ok (.putfield 134, 3) := by decide +kernel
theorem dX12_clear_5 : decode cX12_clear 5 = .ok (.aload_n 0, 1) := by decide +kernel
theorem dX12_clear_6 : decode cX12_clear 6 = .ok (.getfield 165, 3) := by decide +kernel
theorem dX12_clear_9 : decode cX12_clear 9 = .ok (.aload_n 0, 1) := by decide +kernel
theorem dX12_clear_10 : decode cX12_clear 10 = .ok (.getfield 172, 3) := by decide +kernel
theorem dX12_clear_13 : decode cX12_clear 13 = .ok (.iadd, 1) := by decide +kernel
theorem dX12_clear_14 : decode cX12_clear 14 = .ok (.istore_n 1, 1) := by decide +kernel
theorem dX12_clear_15 : decode cX12_clear 15 = .ok (.aload_n 0, 1) := by decide +kernel
theorem dX12_clear_16 : decode cX12_clear 16 = .ok (.iconst 0, 1) := by decide +kernel
theorem dX12_clear_17 : decode cX12_clear 17 = .ok (.putfield 165, 3) := by decide +kernel
theorem dX12_clear_20 : decode cX12_clear 20 = .ok (.aload_n 0, 1) := by decide +kernel
theorem dX12_clear_21 : decode cX12_clear 21 = .ok (.iconst 0, 1) := by decide +kernel
theorem dX12_clear_22 : decode cX12_clear 22 = .ok (.putfield 172, 3) := by decide +kernel
theorem dX12_clear_25 : decode cX12_clear 25 = .ok (.iload_n 1, 1) := by decide +kernel
theorem dX12_clear_26 : decode cX12_clear 26 = .ok (.ireturn, 1) := by decide +kernel
theorem dX12_quota_0 : decode cX12_quota 0 = .ok (.aload_n 0, 1) := by decide +kernel
theorem dX12_quota_1 : decode cX12_quota 1 = .ok (.iload_n 1, 1) := by decide +kernel
theorem dX12_quota_2 : decode cX12_quota 2 = .ok (.iconst 0, 1) := by decide +kernel
theorem dX12_quota_3 : decode cX12_quota 3 = .ok (.bipush 60, 2) := by decide +kernel
theorem dX12_quota_5 : decode cX12_quota 5 = .ok (.invokestatic 140, 3) := by decide +kernel
theorem dX12_quota_8 : decode cX12_quota 8 = .ok (.ifCond .eq 7, 3) := by decide +kernel
theorem dX12_quota_11 : decode cX12_quota 11 = .ok (.iconst 0, 1) := by decide +kernel
theorem dX12_quota_12 : decode cX12_quota 12 = .ok (.goto 4, 3) := by decide +kernel
theorem dX12_quota_15 : decode cX12_quota 15 = .ok (.iconst 1, 1) := by decide +kernel
theorem dX12_quota_16 : decode cX12_quota 16 = .ok (.invokevirtual 374, 3) := by decide +kernel
theorem dX12_quota_19 : decode cX12_quota 19 = .ok (.ifCond .ne 5, 3) := by decide +kernel
theorem dX12_quota_22 : decode cX12_quota 22 = .ok (.iconst 0, 1) := by decide +kernel
theorem dX12_quota_23 : decode cX12_quota 23 = .ok (.ireturn, 1) := by decide +kernel
theorem dX12_quota_24 : decode cX12_quota 24 = .ok (.aload_n 0, 1) := by decide +kernel
theorem dX12_quota_25 : decode cX12_quota 25 = .ok (.getfield 86, 3) := by decide +kernel
theorem dX12_quota_28 : decode cX12_quota 28 = .ok (.istore_n 2, 1) := by decide +kernel
theorem dX12_quota_29 : decode cX12_quota 29 = .ok (.aload_n 0, 1) := by decide +kernel
theorem dX12_quota_30 : decode cX12_quota 30 = .ok (.iload_n 1, 1) := by decide +kernel
theorem dX12_quota_31 : decode cX12_quota 31 = .ok (.putfield 86, 3) := by decide +kernel
theorem dX12_quota_34 : decode cX12_quota 34 = .ok (.iload_n 2, 1) := by decide +kernel
theorem dX12_quota_35 : decode cX12_quota 35 = .ok (.ireturn, 1) := by decide +kernel
theorem dX12_isController_0 : decode cX12_isController 0 = .ok (.iload_n 0, 1) := by decide +kernel
theorem dX12_isController_1 : decode cX12_isController 1 = .ok (.iconst 0, 1) := by decide +kernel
theorem dX12_isController_2 : decode cX12_isController 2 = .ok (.bipush 7, 2) := by decide +kernel
theorem dX12_isController_4 : decode cX12_isController 4 = .ok (.invokestatic 140, 3) := by decide +kernel
theorem dX12_isController_7 : decode cX12_isController 7 = .ok (.ireturn, 1) := by decide +kernel
theorem dX12_asks_0 : decode cX12_asks 0 = .ok (.aload_n 0, 1) := by decide +kernel
theorem dX12_asks_1 : decode cX12_asks 1 = .ok (.iload_n 1, 1) := by decide +kernel
theorem dX12_asks_2 : decode cX12_asks 2 = .ok (.invokestatic 389, 3) := by decide +kernel
theorem dX12_asks_5 : decode cX12_asks 5 = .ok (.ifCond .eq 7, 3) := by decide +kernel
theorem dX12_asks_8 : decode cX12_asks 8 = .ok (.iconst 0, 1) := by decide +kernel
theorem dX12_asks_9 : decode cX12_asks 9 = .ok (.goto 4, 3) := by decide +kernel
theorem dX12_asks_12 : decode cX12_asks 12 = .ok (.iconst 1, 1) := by decide +kernel
theorem dX12_asks_13 : decode cX12_asks 13 = .ok (.invokevirtual 374, 3) := by decide +kernel
theorem dX12_asks_16 : decode cX12_asks 16 = .ok (.ireturn, 1) := by decide +kernel
theorem dX12_see_0 : decode cX12_see 0 = .ok (.aload_n 0, 1) := by decide +kernel
theorem dX12_see_1 : decode cX12_see 1 = .ok (.iload_n 1, 1) := by decide +kernel
theorem dX12_see_2 : decode cX12_see 2 = .ok (.invokestatic 389, 3) := by decide +kernel
theorem dX12_see_5 : decode cX12_see 5 = .ok (.ifCond .eq 18, 3) := by decide +kernel
theorem dX12_see_8 : decode cX12_see 8 = .ok (.iload_n 2, 1) := by decide +kernel
theorem dX12_see_9 : decode cX12_see 9 = .ok (.iconst 1, 1) := by decide +kernel
theorem dX12_see_10 : decode cX12_see 10 = .ok (.sipush 400, 3) := by decide +kernel
theorem dX12_see_13 : decode cX12_see 13 = .ok (.invokestatic 140, 3) := by decide +kernel
theorem dX12_see_16 : decode cX12_see 16 = .ok (.ifCond .eq 7, 3) := by decide +kernel
theorem dX12_see_19 : decode cX12_see 19 = .ok (.iconst 0, 1) := by decide +kernel
theorem dX12_see_20 : decode cX12_see 20 = .ok (.goto 4, 3) := by decide +kernel
theorem dX12_see_23 : decode cX12_see 23 = .ok (.iconst 1, 1) := by decide +kernel
theorem dX12_see_24 : decode cX12_see 24 = .ok (.invokevirtual 374, 3) := by decide +kernel
theorem dX12_see_27 : decode cX12_see 27 = .ok (.ifCond .ne 5, 3) := by decide +kernel
theorem dX12_see_30 : decode cX12_see 30 = .ok (.iconst 0, 1) := by decide +kernel
theorem dX12_see_31 : decode cX12_see 31 = .ok (.ireturn, 1) := by decide +kernel
theorem dX12_see_32 : decode cX12_see 32 = .ok (.aload_n 0, 1) := by decide +kernel
theorem dX12_see_33 : decode cX12_see 33 = .ok (.iload_n 1, 1) := by decide +kernel
theorem dX12_see_34 : decode cX12_see 34 = .ok (.putfield 193, 3) := by decide +kernel
theorem dX12_see_37 : decode cX12_see 37 = .ok (.aload_n 0, 1) := by decide +kernel
theorem dX12_see_38 : decode cX12_see 38 = .ok (.iload_n 2, 1) := by decide +kernel
theorem dX12_see_39 : decode cX12_see 39 = .ok (.invokevirtual 392, 3) := by decide +kernel
theorem dX12_see_42 : decode cX12_see 42 = .ok (.ireturn, 1) := by decide +kernel
theorem dX12_work_0 : decode cX12_work 0 = .ok (.aload_n 0, 1) := by decide +kernel
theorem dX12_work_1 : decode cX12_work 1 = .ok (.iload_n 1, 1) := by decide +kernel
theorem dX12_work_2 : decode cX12_work 2 = .ok (.invokevirtual 395, 3) := by decide +kernel
theorem dX12_work_5 : decode cX12_work 5 = .ok (.ifCond .ne 5, 3) := by decide +kernel
theorem dX12_work_8 : decode cX12_work 8 = .ok (.iconst 0, 1) := by decide +kernel
theorem dX12_work_9 : decode cX12_work 9 = .ok (.ireturn, 1) := by decide +kernel
theorem dX12_work_10 : decode cX12_work 10 = .ok (.aload_n 0, 1) := by decide +kernel
theorem dX12_work_11 : decode cX12_work 11 = .ok (.iload_n 1, 1) := by decide +kernel
theorem dX12_work_12 : decode cX12_work 12 = .ok (.putfield 193, 3) := by decide +kernel
theorem dX12_work_15 : decode cX12_work 15 = .ok (.aload_n 0, 1) := by decide +kernel
theorem dX12_work_16 : decode cX12_work 16 = .ok (.invokevirtual 398, 3) := by decide +kernel
theorem dX12_work_19 : decode cX12_work 19 = .ok (.ireturn, 1) := by decide +kernel
theorem dX12_turn_0 : decode cX12_turn 0 = .ok (.aload_n 0, 1) := by decide +kernel
theorem dX12_turn_1 : decode cX12_turn 1 = .ok (.iload_n 1, 1) := by decide +kernel
theorem dX12_turn_2 : decode cX12_turn 2 = .ok (.iconst 1, 1) := by decide +kernel
theorem dX12_turn_3 : decode cX12_turn 3 = .ok (.bipush 10, 2) := by decide +kernel
theorem dX12_turn_5 : decode cX12_turn 5 = .ok (.invokestatic 140, 3) := by decide +kernel
theorem dX12_turn_8 : decode cX12_turn 8 = .ok (.ifCond .eq 7, 3) := by decide +kernel
theorem dX12_turn_11 : decode cX12_turn 11 = .ok (.iconst 0, 1) := by decide +kernel
theorem dX12_turn_12 : decode cX12_turn 12 = .ok (.goto 4, 3) := by decide +kernel
theorem dX12_turn_15 : decode cX12_turn 15 = .ok (.iconst 1, 1) := by decide +kernel
theorem dX12_turn_16 : decode cX12_turn 16 = .ok (.invokevirtual 374, 3) := by decide +kernel
theorem dX12_turn_19 : decode cX12_turn 19 = .ok (.ifCond .ne 5, 3) := by decide +kernel
theorem dX12_turn_22 : decode cX12_turn 22 = .ok (.iconst 0, 1) := by decide +kernel
theorem dX12_turn_23 : decode cX12_turn 23 = .ok (.ireturn, 1) := by decide +kernel
theorem dX12_turn_24 : decode cX12_turn 24 = .ok (.aload_n 0, 1) := by decide +kernel
theorem dX12_turn_25 : decode cX12_turn 25 = .ok (.getfield 154, 3) := by decide +kernel
theorem dX12_turn_28 : decode cX12_turn 28 = .ok (.istore_n 2, 1) := by decide +kernel
theorem dX12_turn_29 : decode cX12_turn 29 = .ok (.iconst 0, 1) := by decide +kernel
theorem dX12_turn_30 : decode cX12_turn 30 = .ok (.istore_n 3, 1) := by decide +kernel
theorem dX12_turn_31 : decode cX12_turn 31 = .ok (.iload_n 3, 1) := by decide +kernel
theorem dX12_turn_32 : decode cX12_turn 32 = .ok (.iload_n 1, 1) := by decide +kernel
theorem dX12_turn_33 : decode cX12_turn 33 = .ok (.bipush 8, 2) := by decide +kernel
theorem dX12_turn_35 : decode cX12_turn 35 = .ok (.imul, 1) := by decide +kernel
theorem dX12_turn_36 : decode cX12_turn 36 = .ok (.if_icmp .ge 62, 3) := by decide +kernel
theorem dX12_turn_39 : decode cX12_turn 39 = .ok (.aload_n 0, 1) := by decide +kernel
theorem dX12_turn_40 : decode cX12_turn 40 = .ok (.iload_n 3, 1) := by decide +kernel
theorem dX12_turn_41 : decode cX12_turn 41 = .ok (.bipush 8, 2) := by decide +kernel
theorem dX12_turn_43 : decode cX12_turn 43 = .ok (.irem, 1) := by decide +kernel
theorem dX12_turn_44 : decode cX12_turn 44 = .ok (.putfield 193, 3) := by decide +kernel
theorem dX12_turn_47 : decode cX12_turn 47 = .ok (.aload_n 0, 1) := by decide +kernel
theorem dX12_turn_48 : decode cX12_turn 48 = .ok (.sipush 400, 3) := by decide +kernel
theorem dX12_turn_51 : decode cX12_turn 51 = .ok (.invokevirtual 392, 3) := by decide +kernel
theorem dX12_turn_54 : decode cX12_turn 54 = .ok (.istore 4, 2) := by decide +kernel
theorem dX12_turn_56 : decode cX12_turn 56 = .ok (.aload_n 0, 1) := by decide +kernel
theorem dX12_turn_57 : decode cX12_turn 57 = .ok (.getfield 106, 3) := by decide +kernel
theorem dX12_turn_60 : decode cX12_turn 60 = .ok (.aload_n 0, 1) := by decide +kernel
theorem dX12_turn_61 : decode cX12_turn 61 = .ok (.getfield 193, 3) := by decide +kernel
theorem dX12_turn_64 : decode cX12_turn 64 = .ok (.iaload, 1) := by decide +kernel
theorem dX12_turn_65 : decode cX12_turn 65 = .ok (.istore 5, 2) := by decide +kernel
theorem dX12_turn_67 : decode cX12_turn 67 = .ok (.iconst 0, 1) := by decide +kernel
theorem dX12_turn_68 : decode cX12_turn 68 = .ok (.istore 6, 2) := by decide +kernel
theorem dX12_turn_70 : decode cX12_turn 70 = .ok (.iload 6, 2) := by decide +kernel
theorem dX12_turn_72 : decode cX12_turn 72 = .ok (.iload 5, 2) := by decide +kernel
theorem dX12_turn_74 : decode cX12_turn 74 = .ok (.if_icmp .ge 18, 3) := by decide +kernel
theorem dX12_turn_77 : decode cX12_turn 77 = .ok (.iload 4, 2) := by decide +kernel
theorem dX12_turn_79 : decode cX12_turn 79 = .ok (.aload_n 0, 1) := by decide +kernel
theorem dX12_turn_80 : decode cX12_turn 80 = .ok (.invokevirtual 398, 3) := by decide +kernel
theorem dX12_turn_83 : decode cX12_turn 83 = .ok (.iadd, 1) := by decide +kernel
theorem dX12_turn_84 : decode cX12_turn 84 = .ok (.istore 4, 2) := by decide +kernel
theorem dX12_turn_86 : decode cX12_turn 86 = .ok (.iinc 6 1, 3) := by decide +kernel
theorem dX12_turn_89 : decode cX12_turn 89 = .ok (.goto (-19), 3) := by decide +kernel
theorem dX12_turn_92 : decode cX12_turn 92 = .ok (.iinc 3 1, 3) := by decide +kernel
theorem dX12_turn_95 : decode cX12_turn 95 = .ok (.goto (-64), 3) := by decide +kernel
theorem dX12_turn_98 : decode cX12_turn 98 = .ok (.aload_n 0, 1) := by decide +kernel
theorem dX12_turn_99 : decode cX12_turn 99 = .ok (.getfield 154, 3) := by decide +kernel
theorem dX12_turn_102 : decode cX12_turn 102 = .ok (.iload_n 2, 1) := by decide +kernel
theorem dX12_turn_103 : decode cX12_turn 103 = .ok (.isub, 1) := by decide +kernel
theorem dX12_turn_104 : decode cX12_turn 104 = .ok (.ireturn, 1) := by decide +kernel
theorem dX12_seen_0 : decode cX12_seen 0 = .ok (.aload_n 0, 1) := by decide +kernel
theorem dX12_seen_1 : decode cX12_seen 1 = .ok (.iload_n 1, 1) := by decide +kernel
theorem dX12_seen_2 : decode cX12_seen 2 = .ok (.invokevirtual 395, 3) := by decide +kernel
theorem dX12_seen_5 : decode cX12_seen 5 = .ok (.ifCond .eq 12, 3) := by decide +kernel
theorem dX12_seen_8 : decode cX12_seen 8 = .ok (.aload_n 0, 1) := by decide +kernel
theorem dX12_seen_9 : decode cX12_seen 9 = .ok (.getfield 90, 3) := by decide +kernel
theorem dX12_seen_12 : decode cX12_seen 12 = .ok (.iload_n 1, 1) := by decide +kernel
theorem dX12_seen_13 : decode cX12_seen 13 = .ok (.iaload, 1) := by decide +kernel
theorem dX12_seen_14 : decode cX12_seen 14 = .ok (.goto 4, 3) := by decide +kernel
theorem dX12_seen_17 : decode cX12_seen 17 = .ok (.iconst 0, 1) := by decide +kernel
theorem dX12_seen_18 : decode cX12_seen 18 = .ok (.ireturn, 1) := by decide +kernel
theorem dX12_queued_0 : decode cX12_queued 0 = .ok (.aload_n 0, 1) := by decide +kernel
theorem dX12_queued_1 : decode cX12_queued 1 = .ok (.iload_n 1, 1) := by decide +kernel
theorem dX12_queued_2 : decode cX12_queued 2 = .ok (.invokevirtual 395, 3) := by decide +kernel
theorem dX12_queued_5 : decode cX12_queued 5 = .ok (.ifCond .eq 19, 3) := by decide +kernel
theorem dX12_queued_8 : decode cX12_queued 8 = .ok (.aload_n 0, 1) := by decide +kernel
theorem dX12_queued_9 : decode cX12_queued 9 = .ok (.iload_n 2, 1) := by decide +kernel
theorem dX12_queued_10 : decode cX12_queued 10 = .ok (.ifCond .lt 7, 3) := by decide +kernel
theorem dX12_queued_13 : decode cX12_queued 13 = .ok (.iconst 0, 1) := by decide +kernel
theorem dX12_queued_14 : decode cX12_queued 14 = .ok (.goto 4, 3) := by decide +kernel
theorem dX12_queued_17 : decode cX12_queued 17 = .ok (.iconst 2, 1) := by decide +kernel
theorem dX12_queued_18 : decode cX12_queued 18 = .ok (.invokevirtual 374, 3) := by decide +kernel
theorem dX12_queued_21 : decode cX12_queued 21 = .ok (.ifCond .ne 5, 3) := by decide +kernel
theorem dX12_queued_24 : decode cX12_queued 24 = .ok (.iconst 0, 1) := by decide +kernel
theorem dX12_queued_25 : decode cX12_queued 25 = .ok (.ireturn, 1) := by decide +kernel
theorem dX12_queued_26 : decode cX12_queued 26 = .ok (.iload_n 2, 1) := by decide +kernel
theorem dX12_queued_27 : decode cX12_queued 27 = .ok (.aload_n 0, 1) := by decide +kernel
theorem dX12_queued_28 : decode cX12_queued 28 = .ok (.getfield 106, 3) := by decide +kernel
theorem dX12_queued_31 : decode cX12_queued 31 = .ok (.iload_n 1, 1) := by decide +kernel
theorem dX12_queued_32 : decode cX12_queued 32 = .ok (.iaload, 1) := by decide +kernel
theorem dX12_queued_33 : decode cX12_queued 33 = .ok (.if_icmp .ge 17, 3) := by decide +kernel
theorem dX12_queued_36 : decode cX12_queued 36 = .ok (.aload_n 0, 1) := by decide +kernel
theorem dX12_queued_37 : decode cX12_queued 37 = .ok (.getfield 109, 3) := by decide +kernel
theorem dX12_queued_40 : decode cX12_queued 40 = .ok (.bipush 60, 2) := by decide +kernel
theorem dX12_queued_42 : decode cX12_queued 42 = .ok (.iload_n 1, 1) := by decide +kernel
theorem dX12_queued_43 : decode cX12_queued 43 = .ok (.imul, 1) := by decide +kernel
theorem dX12_queued_44 : decode cX12_queued 44 = .ok (.iload_n 2, 1) := by decide +kernel
theorem dX12_queued_45 : decode cX12_queued 45 = .ok (.iadd, 1) := by decide +kernel
theorem dX12_queued_46 : decode cX12_queued 46 = .ok (.iaload, 1) := by decide +kernel
theorem dX12_queued_47 : decode cX12_queued 47 = .ok (.goto 4, 3) := by decide +kernel
theorem dX12_queued_50 : decode cX12_queued 50 = .ok (.iconst (-1), 1) := by decide +kernel
theorem dX12_queued_51 : decode cX12_queued 51 = .ok (.ireturn, 1) := by decide +kernel
theorem dX12_failures_0 : decode cX12_failures 0 = .ok (.aload_n 0, 1) := by decide +kernel
theorem dX12_failures_1 : decode cX12_failures 1 = .ok (.iload_n 1, 1) := by decide +kernel
theorem dX12_failures_2 : decode cX12_failures 2 = .ok (.invokevirtual 395, 3) := by decide +kernel
theorem dX12_failures_5 : decode cX12_failures 5 = .ok (.ifCond .eq 37, 3) := by decide +kernel
theorem dX12_failures_8 : decode cX12_failures 8 = .ok (.aload_n 0, 1) := by decide +kernel
theorem dX12_failures_9 : decode cX12_failures 9 = .ok (.aload_n 0, 1) := by decide +kernel
theorem dX12_failures_10 : decode cX12_failures 10 = .ok (.iload_n 2, 1) := by decide +kernel
theorem dX12_failures_11 : decode cX12_failures 11 = .ok (.invokevirtual 377, 3) := by decide +kernel
theorem dX12_failures_14 : decode cX12_failures 14 = .ok (.ifCond .eq 7, 3) := by decide +kernel
theorem dX12_failures_17 : decode cX12_failures 17 = .ok (.iconst 0, 1) := by decide +kernel
theorem dX12_failures_18 : decode cX12_failures 18 = .ok (.goto 4, 3) := by decide +kernel
theorem dX12_failures_21 : decode cX12_failures 21 = .ok (.iconst 2, 1) := by decide +kernel
theorem dX12_failures_22 : decode cX12_failures 22 = .ok (.invokevirtual 374, 3) := by decide +kernel
theorem dX12_failures_25 : decode cX12_failures 25 = .ok (.ifCond .eq 17, 3) := by decide +kernel
theorem dX12_failures_28 : decode cX12_failures 28 = .ok (.aload_n 0, 1) := by decide +kernel
theorem dX12_failures_29 : decode cX12_failures 29 = .ok (.getfield 112, 3) := by decide +kernel
theorem dX12_failures_32 : decode cX12_failures 32 = .ok (.bipush 60, 2) := by decide +kernel
theorem dX12_failures_34 : decode cX12_failures 34 = .ok (.iload_n 1, 1) := by decide +kernel
theorem dX12_failures_35 : decode cX12_failures 35 = .ok (.imul, 1) := by decide +kernel
theorem dX12_failures_36 : decode cX12_failures 36 = .ok (.iload_n 2, 1) := by decide +kernel
theorem dX12_failures_37 : decode cX12_failures 37 = .ok (.iadd, 1) := by decide +kernel
theorem dX12_failures_38 : decode cX12_failures 38 = .ok (.iaload, 1) := by decide +kernel
theorem dX12_failures_39 : decode cX12_failures 39 = .ok (.goto 4, 3) := by decide +kernel
theorem dX12_failures_42 : decode cX12_failures 42 = .ok (.iconst 0, 1) := by decide +kernel
theorem dX12_failures_43 : decode cX12_failures 43 = .ok (.ireturn, 1) := by decide +kernel
theorem dX12_believed_0 : decode cX12_believed 0 = .ok (.aload_n 0, 1) := by decide +kernel
theorem dX12_believed_1 : decode cX12_believed 1 = .ok (.iload_n 1, 1) := by decide +kernel
theorem dX12_believed_2 : decode cX12_believed 2 = .ok (.invokevirtual 395, 3) := by decide +kernel
theorem dX12_believed_5 : decode cX12_believed 5 = .ok (.ifCond .eq 49, 3) := by decide +kernel
theorem dX12_believed_8 : decode cX12_believed 8 = .ok (.aload_n 0, 1) := by decide +kernel
theorem dX12_believed_9 : decode cX12_believed 9 = .ok (.aload_n 0, 1) := by decide +kernel
theorem dX12_believed_10 : decode cX12_believed 10 = .ok (.iload_n 2, 1) := by decide +kernel
theorem dX12_believed_11 : decode cX12_believed 11 = .ok (.invokevirtual 377, 3) := by decide +kernel
theorem dX12_believed_14 : decode cX12_believed 14 = .ok (.ifCond .eq 7, 3) := by decide +kernel
theorem dX12_believed_17 : decode cX12_believed 17 = .ok (.iconst 0, 1) := by decide +kernel
theorem dX12_believed_18 : decode cX12_believed 18 = .ok (.goto 4, 3) := by decide +kernel
theorem dX12_believed_21 : decode cX12_believed 21 = .ok (.iconst 2, 1) := by decide +kernel
theorem dX12_believed_22 : decode cX12_believed 22 = .ok (.invokevirtual 374, 3) := by decide +kernel
theorem dX12_believed_25 : decode cX12_believed 25 = .ok (.ifCond .eq 29, 3) := by decide +kernel
theorem dX12_believed_28 : decode cX12_believed 28 = .ok (.aload_n 0, 1) := by decide +kernel
theorem dX12_believed_29 : decode cX12_believed 29 = .ok (.aload_n 0, 1) := by decide +kernel
theorem dX12_believed_30 : decode cX12_believed 30 = .ok (.aload_n 0, 1) := by decide +kernel
theorem dX12_believed_31 : decode cX12_believed 31 = .ok (.getfield 25, 3) := by decide +kernel
theorem dX12_believed_34 : decode cX12_believed 34 = .ok (.iload_n 2, 1) := by decide +kernel
theorem dX12_believed_35 : decode cX12_believed 35 = .ok (.iaload, 1) := by decide +kernel
theorem dX12_believed_36 : decode cX12_believed 36 = .ok (.iload_n 3, 1) := by decide +kernel
theorem dX12_believed_37 : decode cX12_believed 37 = .ok (.invokevirtual 380, 3) := by decide +kernel
theorem dX12_believed_40 : decode cX12_believed 40 = .ok (.ifCond .eq 7, 3) := by decide +kernel
theorem dX12_believed_43 : decode cX12_believed 43 = .ok (.iconst 0, 1) := by decide +kernel
theorem dX12_believed_44 : decode cX12_believed 44 = .ok (.goto 4, 3) := by decide +kernel
theorem dX12_believed_47 : decode cX12_believed 47 = .ok (.iconst 1, 1) := by decide +kernel
theorem dX12_believed_48 : decode cX12_believed 48 = .ok (.invokevirtual 374, 3) := by decide +kernel
theorem dX12_believed_51 : decode cX12_believed 51 = .ok (.ifCond .ne 5, 3) := by decide +kernel
theorem dX12_believed_54 : decode cX12_believed 54 = .ok (.iconst 0, 1) := by decide +kernel
theorem dX12_believed_55 : decode cX12_believed 55 = .ok (.ireturn, 1) := by decide +kernel
theorem dX12_believed_56 : decode cX12_believed 56 = .ok (.aload_n 0, 1) := by decide +kernel
theorem dX12_believed_57 : decode cX12_believed 57 = .ok (.getfield 93, 3) := by decide +kernel
theorem dX12_believed_60 : decode cX12_believed 60 = .ok (.bipush 60, 2) := by decide +kernel
theorem dX12_believed_62 : decode cX12_believed 62 = .ok (.iload_n 1, 1) := by decide +kernel
theorem dX12_believed_63 : decode cX12_believed 63 = .ok (.imul, 1) := by decide +kernel
theorem dX12_believed_64 : decode cX12_believed 64 = .ok (.iload_n 2, 1) := by decide +kernel
theorem dX12_believed_65 : decode cX12_believed 65 = .ok (.iadd, 1) := by decide +kernel
theorem dX12_believed_66 : decode cX12_believed 66 = .ok (.baload, 1) := by decide +kernel
theorem dX12_believed_67 : decode cX12_believed 67 = .ok (.ifCond .eq 22, 3) := by decide +kernel
theorem dX12_believed_70 : decode cX12_believed 70 = .ok (.aload_n 0, 1) := by decide +kernel
theorem dX12_believed_71 : decode cX12_believed 71 = .ok (.aload_n 0, 1) := by decide +kernel
theorem dX12_believed_72 : decode cX12_believed 72 = .ok (.getfield 97, 3) := by decide +kernel
theorem dX12_believed_75 : decode cX12_believed 75 = .ok (.bipush 60, 2) := by decide +kernel
theorem dX12_believed_77 : decode cX12_believed 77 = .ok (.iload_n 1, 1) := by decide +kernel
theorem dX12_believed_78 : decode cX12_believed 78 = .ok (.imul, 1) := by decide +kernel
theorem dX12_believed_79 : decode cX12_believed 79 = .ok (.iload_n 2, 1) := by decide +kernel
theorem dX12_believed_80 : decode cX12_believed 80 = .ok (.iadd, 1) := by decide +kernel
theorem dX12_believed_81 : decode cX12_believed 81 = .ok (.laload, 1) := by decide +kernel
theorem dX12_believed_82 : decode cX12_believed 82 = .ok (.iload_n 3, 1) := by decide +kernel
theorem dX12_believed_83 : decode cX12_believed 83 = .ok (.invokevirtual 146, 3) := by decide +kernel
theorem dX12_believed_86 : decode cX12_believed 86 = .ok (.goto 4, 3) := by decide +kernel
theorem dX12_believed_89 : decode cX12_believed 89 = .ok (.iconst (-1), 1) := by decide +kernel
theorem dX12_believed_90 : decode cX12_believed 90 = .ok (.ireturn, 1) := by decide +kernel
theorem dX12_isSettled_0 : decode cX12_isSettled 0 = .ok (.aload_n 0, 1) := by decide +kernel
theorem dX12_isSettled_1 : decode cX12_isSettled 1 = .ok (.iconst 0, 1) := by decide +kernel
theorem dX12_isSettled_2 : decode cX12_isSettled 2 = .ok (.putfield 134, 3) := by decide +kernel
theorem dX12_isSettled_5 : decode cX12_isSettled 5 = .ok (.iconst 1, 1) := by decide +kernel
theorem dX12_isSettled_6 : decode cX12_isSettled 6 = .ok (.istore_n 1, 1) := by decide +kernel
theorem dX12_isSettled_7 : decode cX12_isSettled 7 = .ok (.iconst 0, 1) := by decide +kernel
theorem dX12_isSettled_8 : decode cX12_isSettled 8 = .ok (.istore_n 2, 1) := by decide +kernel
theorem dX12_isSettled_9 : decode cX12_isSettled 9 = .ok (.iload_n 2, 1) := by decide +kernel
theorem dX12_isSettled_10 : decode cX12_isSettled 10 = .ok (.bipush 8, 2) := by decide +kernel
theorem dX12_isSettled_12 : decode cX12_isSettled 12 = .ok (.if_icmp .ge 41, 3) := by decide +kernel
theorem dX12_isSettled_15 : decode cX12_isSettled 15 = .ok (.iload_n 1, 1) := by decide +kernel
theorem dX12_isSettled_16 : decode cX12_isSettled 16 = .ok (.ifCond .eq 29, 3) := by decide +kernel
theorem dX12_isSettled_19 : decode cX12_isSettled 19 = .ok (.aload_n 0, 1) := by decide +kernel
theorem dX12_isSettled_20 : decode cX12_isSettled 20 = .ok (.getfield 90, 3) := by decide +kernel
theorem dX12_isSettled_23 : decode cX12_isSettled 23 = .ok (.iload_n 2, 1) := by decide +kernel
theorem dX12_isSettled_24 : decode cX12_isSettled 24 = .ok (.iaload, 1) := by decide +kernel
theorem dX12_isSettled_25 : decode cX12_isSettled 25 = .ok (.aload_n 0, 1) := by decide +kernel
theorem dX12_isSettled_26 : decode cX12_isSettled 26 = .ok (.getfield 154, 3) := by decide +kernel
theorem dX12_isSettled_29 : decode cX12_isSettled 29 = .ok (.if_icmp .ne 16, 3) := by decide +kernel
theorem dX12_isSettled_32 : decode cX12_isSettled 32 = .ok (.aload_n 0, 1) := by decide +kernel
theorem dX12_isSettled_33 : decode cX12_isSettled 33 = .ok (.getfield 106, 3) := by decide +kernel
theorem dX12_isSettled_36 : decode cX12_isSettled 36 = .ok (.iload_n 2, 1) := by decide +kernel
theorem dX12_isSettled_37 : decode cX12_isSettled 37 = .ok (.iaload, 1) := by decide +kernel
theorem dX12_isSettled_38 : decode cX12_isSettled 38 = .ok (.ifCond .ne 7, 3) := by decide +kernel
theorem dX12_isSettled_41 : decode cX12_isSettled 41 = .ok (.iconst 1, 1) := by decide +kernel
theorem dX12_isSettled_42 : decode cX12_isSettled 42 = .ok (.goto 4, 3) := by decide +kernel
theorem dX12_isSettled_45 : decode cX12_isSettled 45 = .ok (.iconst 0, 1) := by decide +kernel
theorem dX12_isSettled_46 : decode cX12_isSettled 46 = .ok (.istore_n 1, 1) := by decide +kernel
theorem dX12_isSettled_47 : decode cX12_isSettled 47 = .ok (.iinc 2 1, 3) := by decide +kernel
theorem dX12_isSettled_50 : decode cX12_isSettled 50 = .ok (.goto (-41), 3) := by decide +kernel
theorem dX12_isSettled_53 : decode cX12_isSettled 53 = .ok (.iload_n 1, 1) := by decide +kernel
theorem dX12_isSettled_54 : decode cX12_isSettled 54 = .ok (.ireturn, 1) := by decide +kernel
theorem dX12_isReader_0 : decode cX12_isReader 0 = .ok (.iload_n 0, 1) := by decide +kernel
theorem dX12_isReader_1 : decode cX12_isReader 1 = .ok (.iconst 0, 1) := by decide +kernel
theorem dX12_isReader_2 : decode cX12_isReader 2 = .ok (.iconst 3, 1) := by decide +kernel
theorem dX12_isReader_3 : decode cX12_isReader 3 = .ok (.invokestatic 140, 3) := by decide +kernel
theorem dX12_isReader_6 : decode cX12_isReader 6 = .ok (.ireturn, 1) := by decide +kernel
theorem dX12_watch_0 : decode cX12_watch 0 = .ok (.aload_n 0, 1) := by decide +kernel
theorem dX12_watch_1 : decode cX12_watch 1 = .ok (.iload_n 1, 1) := by decide +kernel
theorem dX12_watch_2 : decode cX12_watch 2 = .ok (.invokestatic 401, 3) := by decide +kernel
theorem dX12_watch_5 : decode cX12_watch 5 = .ok (.ifCond .eq 15, 3) := by decide +kernel
theorem dX12_watch_8 : decode cX12_watch 8 = .ok (.iload_n 2, 1) := by decide +kernel
theorem dX12_watch_9 : decode cX12_watch 9 = .ok (.iconst 0, 1) := by decide +kernel
theorem dX12_watch_10 : decode cX12_watch 10 = .ok (.aload_n 0, 1) := by decide +kernel
theorem dX12_watch_11 : decode cX12_watch 11 = .ok (.getfield 154, 3) := by decide +kernel
theorem dX12_watch_14 : decode cX12_watch 14 = .ok (.invokestatic 140, 3) := by decide +kernel
theorem dX12_watch_17 : decode cX12_watch 17 = .ok (.ifCond .ne 7, 3) := by decide +kernel
theorem dX12_watch_20 : decode cX12_watch 20 = .ok (.iconst 1, 1) := by decide +kernel
theorem dX12_watch_21 : decode cX12_watch 21 = .ok (.goto 16, 3) := by decide +kernel
theorem dX12_watch_24 : decode cX12_watch 24 = .ok (.iload_n 2, 1) := by decide +kernel
theorem dX12_watch_25 : decode cX12_watch 25 = .ok (.aload_n 0, 1) := by decide +kernel
theorem dX12_watch_26 : decode cX12_watch 26 = .ok (.getfield 234, 3) := by decide +kernel
theorem dX12_watch_29 : decode cX12_watch 29 = .ok (.if_icmp .ge 7, 3) := by decide +kernel
theorem dX12_watch_32 : decode cX12_watch 32 = .ok (.iconst 2, 1) := by decide +kernel
theorem dX12_watch_33 : decode cX12_watch 33 = .ok (.goto 4, 3) := by decide +kernel
theorem dX12_watch_36 : decode cX12_watch 36 = .ok (.iconst 0, 1) := by decide +kernel
theorem dX12_watch_37 : decode cX12_watch 37 = .ok (.invokevirtual 374, 3) := by decide +kernel
theorem dX12_watch_40 : decode cX12_watch 40 = .ok (.ifCond .ne 5, 3) := by decide +kernel
theorem dX12_watch_43 : decode cX12_watch 43 = .ok (.iconst 0, 1) := by decide +kernel
theorem dX12_watch_44 : decode cX12_watch 44 = .ok (.ireturn, 1) := by decide +kernel
theorem dX12_watch_45 : decode cX12_watch 45 = .ok (.aload_n 0, 1) := by decide +kernel
theorem dX12_watch_46 : decode cX12_watch 46 = .ok (.getfield 127, 3) := by decide +kernel
theorem dX12_watch_49 : decode cX12_watch 49 = .ok (.iload_n 1, 1) := by decide +kernel
theorem dX12_watch_50 : decode cX12_watch 50 = .ok (.iload_n 2, 1) := by decide +kernel
theorem dX12_watch_51 : decode cX12_watch 51 = .ok (.iastore, 1) := by decide +kernel
theorem dX12_watch_52 : decode cX12_watch 52 = .ok (.aload_n 0, 1) := by decide +kernel
theorem dX12_watch_53 : decode cX12_watch 53 = .ok (.getfield 154, 3) := by decide +kernel
theorem dX12_watch_56 : decode cX12_watch 56 = .ok (.iload_n 2, 1) := by decide +kernel
theorem dX12_watch_57 : decode cX12_watch 57 = .ok (.isub, 1) := by decide +kernel
theorem dX12_watch_58 : decode cX12_watch 58 = .ok (.ireturn, 1) := by decide +kernel
theorem dX12_next_0 : decode cX12_next 0 = .ok (.aload_n 0, 1) := by decide +kernel
theorem dX12_next_1 : decode cX12_next 1 = .ok (.iload_n 1, 1) := by decide +kernel
theorem dX12_next_2 : decode cX12_next 2 = .ok (.invokestatic 401, 3) := by decide +kernel
theorem dX12_next_5 : decode cX12_next 5 = .ok (.ifCond .ne 7, 3) := by decide +kernel
theorem dX12_next_8 : decode cX12_next 8 = .ok (.iconst 1, 1) := by decide +kernel
theorem dX12_next_9 : decode cX12_next 9 = .ok (.goto 4, 3) := by decide +kernel
theorem dX12_next_12 : decode cX12_next 12 = .ok (.iconst 0, 1) := by decide +kernel
theorem dX12_next_13 : decode cX12_next 13 = .ok (.invokevirtual 374, 3) := by decide +kernel
theorem dX12_next_16 : decode cX12_next 16 = .ok (.ifCond .eq 28, 3) := by decide +kernel
theorem dX12_next_19 : decode cX12_next 19 = .ok (.aload_n 0, 1) := by decide +kernel
theorem dX12_next_20 : decode cX12_next 20 = .ok (.aload_n 0, 1) := by decide +kernel
theorem dX12_next_21 : decode cX12_next 21 = .ok (.getfield 127, 3) := by decide +kernel
theorem dX12_next_24 : decode cX12_next 24 = .ok (.iload_n 1, 1) := by decide +kernel
theorem dX12_next_25 : decode cX12_next 25 = .ok (.iaload, 1) := by decide +kernel
theorem dX12_next_26 : decode cX12_next 26 = .ok (.aload_n 0, 1) := by decide +kernel
theorem dX12_next_27 : decode cX12_next 27 = .ok (.getfield 234, 3) := by decide +kernel
theorem dX12_next_30 : decode cX12_next 30 = .ok (.if_icmp .ge 7, 3) := by decide +kernel
theorem dX12_next_33 : decode cX12_next 33 = .ok (.iconst 2, 1) := by decide +kernel
theorem dX12_next_34 : decode cX12_next 34 = .ok (.goto 4, 3) := by decide +kernel
theorem dX12_next_37 : decode cX12_next 37 = .ok (.iconst 0, 1) := by decide +kernel
theorem dX12_next_38 : decode cX12_next 38 = .ok (.invokevirtual 374, 3) := by decide +kernel
theorem dX12_next_41 : decode cX12_next 41 = .ok (.ifCond .ne 5, 3) := by decide +kernel
theorem dX12_next_44 : decode cX12_next 44 = .ok (.iconst 0, 1) := by decide +kernel
theorem dX12_next_45 : decode cX12_next 45 = .ok (.ireturn, 1) := by decide +kernel
theorem dX12_next_46 : decode cX12_next 46 = .ok (.aload_n 0, 1) := by decide +kernel
theorem dX12_next_47 : decode cX12_next 47 = .ok (.getfield 127, 3) := by decide +kernel
theorem dX12_next_50 : decode cX12_next 50 = .ok (.iload_n 1, 1) := by decide +kernel
theorem dX12_next_51 : decode cX12_next 51 = .ok (.iaload, 1) := by decide +kernel
theorem dX12_next_52 : decode cX12_next 52 = .ok (.aload_n 0, 1) := by decide +kernel
theorem dX12_next_53 : decode cX12_next 53 = .ok (.getfield 154, 3) := by decide +kernel
theorem dX12_next_56 : decode cX12_next 56 = .ok (.if_icmp .ne 5, 3) := by decide +kernel
theorem dX12_next_59 : decode cX12_next 59 = .ok (.iconst (-1), 1) := by decide +kernel
theorem dX12_next_60 : decode cX12_next 60 = .ok (.ireturn, 1) := by decide +kernel
theorem dX12_next_61 : decode cX12_next 61 = .ok (.aload_n 0, 1) := by decide +kernel
theorem dX12_next_62 : decode cX12_next 62 = .ok (.getfield 127, 3) := by decide +kernel
theorem dX12_next_65 : decode cX12_next 65 = .ok (.iload_n 1, 1) := by decide +kernel
theorem dX12_next_66 : decode cX12_next 66 = .ok (.dup2, 1) := by decide +kernel
theorem dX12_next_67 : decode cX12_next 67 = .ok (.iaload, 1) := by decide +kernel
theorem dX12_next_68 : decode cX12_next 68 = .ok (.iconst 1, 1) := by decide +kernel
theorem dX12_next_69 : decode cX12_next 69 = .ok (.iadd, 1) := by decide +kernel
theorem dX12_next_70 : decode cX12_next 70 = .ok (.iastore, 1) := by decide +kernel
theorem dX12_next_71 : decode cX12_next 71 = .ok (.aload_n 0, 1) := by decide +kernel
theorem dX12_next_72 : decode cX12_next 72 = .ok (.getfield 50, 3) := by decide +kernel
theorem dX12_next_75 : decode cX12_next 75 = .ok (.aload_n 0, 1) := by decide +kernel
theorem dX12_next_76 : decode cX12_next 76 = .ok (.getfield 127, 3) := by decide +kernel
theorem dX12_next_79 : decode cX12_next 79 = .ok (.iload_n 1, 1) := by decide +kernel
theorem dX12_next_80 : decode cX12_next 80 = .ok (.iaload, 1) := by decide +kernel
theorem dX12_next_81 : decode cX12_next 81 = .ok (.iaload, 1) := by decide +kernel
theorem dX12_next_82 : decode cX12_next 82 = .ok (.ireturn, 1) := by decide +kernel
theorem dX12_list_0 : decode cX12_list 0 = .ok (.aload_n 0, 1) := by decide +kernel
theorem dX12_list_1 : decode cX12_list 1 = .ok (.iload_n 1, 1) := by decide +kernel
theorem dX12_list_2 : decode cX12_list 2 = .ok (.invokestatic 401, 3) := by decide +kernel
theorem dX12_list_5 : decode cX12_list 5 = .ok (.ifCond .eq 7, 3) := by decide +kernel
theorem dX12_list_8 : decode cX12_list 8 = .ok (.iconst 0, 1) := by decide +kernel
theorem dX12_list_9 : decode cX12_list 9 = .ok (.goto 4, 3) := by decide +kernel
theorem dX12_list_12 : decode cX12_list 12 = .ok (.iconst 1, 1) := by decide +kernel
theorem dX12_list_13 : decode cX12_list 13 = .ok (.invokevirtual 374, 3) := by decide +kernel
theorem dX12_list_16 : decode cX12_list 16 = .ok (.ifCond .ne 5, 3) := by decide +kernel
theorem dX12_list_19 : decode cX12_list 19 = .ok (.iconst 0, 1) := by decide +kernel
theorem dX12_list_20 : decode cX12_list 20 = .ok (.ireturn, 1) := by decide +kernel
theorem dX12_list_21 : decode cX12_list 21 = .ok (.aload_n 0, 1) := by decide +kernel
theorem dX12_list_22 : decode cX12_list 22 = .ok (.getfield 127, 3) := by decide +kernel
theorem dX12_list_25 : decode cX12_list 25 = .ok (.iload_n 1, 1) := by decide +kernel
theorem dX12_list_26 : decode cX12_list 26 = .ok (.aload_n 0, 1) := by decide +kernel
theorem dX12_list_27 : decode cX12_list 27 = .ok (.getfield 154, 3) := by decide +kernel
theorem dX12_list_30 : decode cX12_list 30 = .ok (.iastore, 1) := by decide +kernel
theorem dX12_list_31 : decode cX12_list 31 = .ok (.iconst 0, 1) := by decide +kernel
theorem dX12_list_32 : decode cX12_list 32 = .ok (.istore_n 2, 1) := by decide +kernel
theorem dX12_list_33 : decode cX12_list 33 = .ok (.iconst 0, 1) := by decide +kernel
theorem dX12_list_34 : decode cX12_list 34 = .ok (.istore_n 3, 1) := by decide +kernel
theorem dX12_list_35 : decode cX12_list 35 = .ok (.iload_n 3, 1) := by decide +kernel
theorem dX12_list_36 : decode cX12_list 36 = .ok (.aload_n 0, 1) := by decide +kernel
theorem dX12_list_37 : decode cX12_list 37 = .ok (.getfield 137, 3) := by decide +kernel
theorem dX12_list_40 : decode cX12_list 40 = .ok (.if_icmp .ge 25, 3) := by decide +kernel
theorem dX12_list_43 : decode cX12_list 43 = .ok (.iload_n 2, 1) := by decide +kernel
theorem dX12_list_44 : decode cX12_list 44 = .ok (.aload_n 0, 1) := by decide +kernel
theorem dX12_list_45 : decode cX12_list 45 = .ok (.iload_n 3, 1) := by decide +kernel
theorem dX12_list_46 : decode cX12_list 46 = .ok (.invokevirtual 386, 3) := by decide +kernel
theorem dX12_list_49 : decode cX12_list 49 = .ok (.ifCond .eq 7, 3) := by decide +kernel
theorem dX12_list_52 : decode cX12_list 52 = .ok (.iconst 0, 1) := by decide +kernel
theorem dX12_list_53 : decode cX12_list 53 = .ok (.goto 4, 3) := by decide +kernel
theorem dX12_list_56 : decode cX12_list 56 = .ok (.iconst 1, 1) := by decide +kernel
theorem dX12_list_57 : decode cX12_list 57 = .ok (.iadd, 1) := by decide +kernel
theorem dX12_list_58 : decode cX12_list 58 = .ok (.istore_n 2, 1) := by decide +kernel
theorem dX12_list_59 : decode cX12_list 59 = .ok (.iinc 3 1, 3) := by decide +kernel
theorem dX12_list_62 : decode cX12_list 62 = .ok (.goto (-27), 3) := by decide +kernel
theorem dX12_list_65 : decode cX12_list 65 = .ok (.iload_n 2, 1) := by decide +kernel
theorem dX12_list_66 : decode cX12_list 66 = .ok (.ireturn, 1) := by decide +kernel
theorem dX12_compact_0 : decode cX12_compact 0 = .ok (.aload_n 0, 1) := by decide +kernel
theorem dX12_compact_1 : decode cX12_compact 1 = .ok (.iload_n 1, 1) := by decide +kernel
theorem dX12_compact_2 : decode cX12_compact 2 = .ok (.iconst 0, 1) := by decide +kernel
theorem dX12_compact_3 : decode cX12_compact 3 = .ok (.aload_n 0, 1) := by decide +kernel
theorem dX12_compact_4 : decode cX12_compact 4 = .ok (.getfield 154, 3) := by decide +kernel
theorem dX12_compact_7 : decode cX12_compact 7 = .ok (.invokestatic 140, 3) := by decide +kernel
theorem dX12_compact_10 : decode cX12_compact 10 = .ok (.ifCond .eq 7, 3) := by decide +kernel
theorem dX12_compact_13 : decode cX12_compact 13 = .ok (.iconst 0, 1) := by decide +kernel
theorem dX12_compact_14 : decode cX12_compact 14 = .ok (.goto 4, 3) := by decide +kernel
theorem dX12_compact_17 : decode cX12_compact 17 = .ok (.iconst 1, 1) := by decide +kernel
theorem dX12_compact_18 : decode cX12_compact 18 = .ok (.invokevirtual 374, 3) := by decide +kernel
theorem dX12_compact_21 : decode cX12_compact 21 = .ok (.ifCond .ne 5, 3) := by decide +kernel
theorem dX12_compact_24 : decode cX12_compact 24 = .ok (.iconst 0, 1) := by decide +kernel
theorem dX12_compact_25 : decode cX12_compact 25 = .ok (.ireturn, 1) := by decide +kernel
theorem dX12_compact_26 : decode cX12_compact 26 = .ok (.aload_n 0, 1) := by decide +kernel
theorem dX12_compact_27 : decode cX12_compact 27 = .ok (.iload_n 1, 1) := by decide +kernel
theorem dX12_compact_28 : decode cX12_compact 28 = .ok (.aload_n 0, 1) := by decide +kernel
theorem dX12_compact_29 : decode cX12_compact 29 = .ok (.getfield 234, 3) := by decide +kernel
theorem dX12_compact_32 : decode cX12_compact 32 = .ok (.if_icmp .le 7, 3) := by decide +kernel
theorem dX12_compact_35 : decode cX12_compact 35 = .ok (.iload_n 1, 1) := by decide +kernel
theorem dX12_compact_36 : decode cX12_compact 36 = .ok (.goto 7, 3) := by decide +kernel
theorem dX12_compact_39 : decode cX12_compact 39 = .ok (.aload_n 0, 1) := by decide +kernel
theorem dX12_compact_40 : decode cX12_compact 40 = .ok (.getfield 234, 3) := by decide +kernel
theorem dX12_compact_43 : decode cX12_compact 43 = .ok (.putfield 234, 3) := by decide +kernel
theorem dX12_compact_46 : decode cX12_compact 46 = .ok (.aload_n 0, 1) := by decide +kernel
theorem dX12_compact_47 : decode cX12_compact 47 = .ok (.getfield 234, 3) := by decide +kernel
theorem dX12_compact_50 : decode cX12_compact 50 = .ok (.ireturn, 1) := by decide +kernel
theorem dX12_tick_0 : decode cX12_tick 0 = .ok (.aload_n 0, 1) := by decide +kernel
theorem dX12_tick_1 : decode cX12_tick 1 = .ok (.iload_n 1, 1) := by decide +kernel
theorem dX12_tick_2 : decode cX12_tick 2 = .ok (.iconst 1, 1) := by decide +kernel
theorem dX12_tick_3 : decode cX12_tick 3 = .ok (.bipush 100, 2) := by decide +kernel
theorem dX12_tick_5 : decode cX12_tick 5 = .ok (.invokestatic 140, 3) := by decide +kernel
theorem dX12_tick_8 : decode cX12_tick 8 = .ok (.ifCond .ne 7, 3) := by decide +kernel
theorem dX12_tick_11 : decode cX12_tick 11 = .ok (.iconst 1, 1) := by decide +kernel
theorem dX12_tick_12 : decode cX12_tick 12 = .ok (.goto 20, 3) := by decide +kernel
theorem dX12_tick_15 : decode cX12_tick 15 = .ok (.aload_n 0, 1) := by decide +kernel
theorem dX12_tick_16 : decode cX12_tick 16 = .ok (.getfield 182, 3) := by decide +kernel
theorem dX12_tick_19 : decode cX12_tick 19 = .ok (.iload_n 1, 1) := by decide +kernel
theorem dX12_tick_20 : decode cX12_tick 20 = .ok (.iadd, 1) := by decide +kernel
theorem dX12_tick_21 : decode cX12_tick 21 = .ok (.sipush 10000, 3) := by decide +kernel
theorem dX12_tick_24 : decode cX12_tick 24 = .ok (.if_icmp .le 7, 3) := by decide +kernel
theorem dX12_tick_27 : decode cX12_tick 27 = .ok (.iconst 2, 1) := by decide +kernel
theorem dX12_tick_28 : decode cX12_tick 28 = .ok (.goto 4, 3) := by decide +kernel
theorem dX12_tick_31 : decode cX12_tick 31 = .ok (.iconst 0, 1) := by decide +kernel
theorem dX12_tick_32 : decode cX12_tick 32 = .ok (.invokevirtual 374, 3) := by decide +kernel
theorem dX12_tick_35 : decode cX12_tick 35 = .ok (.ifCond .ne 5, 3) := by decide +kernel
theorem dX12_tick_38 : decode cX12_tick 38 = .ok (.iconst 0, 1) := by decide +kernel
theorem dX12_tick_39 : decode cX12_tick 39 = .ok (.ireturn, 1) := by decide +kernel
theorem dX12_tick_40 : decode cX12_tick 40 = .ok (.iconst 0, 1) := by decide +kernel
theorem dX12_tick_41 : decode cX12_tick 41 = .ok (.istore_n 2, 1) := by decide +kernel
theorem dX12_tick_42 : decode cX12_tick 42 = .ok (.iload_n 2, 1) := by decide +kernel
theorem dX12_tick_43 : decode cX12_tick 43 = .ok (.iload_n 1, 1) := by decide +kernel
theorem dX12_tick_44 : decode cX12_tick 44 = .ok (.if_icmp .ge 116, 3) := by decide +kernel
theorem dX12_tick_47 : decode cX12_tick 47 = .ok (.aload_n 0, 1) := by decide +kernel
theorem dX12_tick_48 : decode cX12_tick 48 = .ok (.dup, 1) := by decide +kernel
theorem dX12_tick_49 : decode cX12_tick 49 = .ok (.getfield 182, 3) := by decide +kernel
theorem dX12_tick_52 : decode cX12_tick 52 = .ok (.iconst 1, 1) := by decide +kernel
theorem dX12_tick_53 : decode cX12_tick 53 = .ok (.iadd, 1) := by decide +kernel
theorem dX12_tick_54 : decode cX12_tick 54 = .ok (.putfield 182, 3) := by decide +kernel
theorem dX12_tick_57 : decode cX12_tick 57 = .ok (.iconst 0, 1) := by decide +kernel
theorem dX12_tick_58 : decode cX12_tick 58 = .ok (.istore_n 3, 1) := by decide +kernel
theorem dX12_tick_59 : decode cX12_tick 59 = .ok (.iload_n 3, 1) := by decide +kernel
theorem dX12_tick_60 : decode cX12_tick 60 = .ok (.aload_n 0, 1) := by decide +kernel
theorem dX12_tick_61 : decode cX12_tick 61 = .ok (.getfield 137, 3) := by decide +kernel
theorem dX12_tick_64 : decode cX12_tick 64 = .ok (.if_icmp .ge 90, 3) := by decide +kernel
theorem dX12_tick_67 : decode cX12_tick 67 = .ok (.aload_n 0, 1) := by decide +kernel
theorem dX12_tick_68 : decode cX12_tick 68 = .ok (.getfield 25, 3) := by decide +kernel
theorem dX12_tick_71 : decode cX12_tick 71 = .ok (.iload_n 3, 1) := by decide +kernel
theorem dX12_tick_72 : decode cX12_tick 72 = .ok (.iaload, 1) := by decide +kernel
theorem dX12_tick_73 : decode cX12_tick 73 = .ok (.iconst 4, 1) := by decide +kernel
theorem dX12_tick_74 : decode cX12_tick 74 = .ok (.if_icmp .ne 31, 3) := by decide +kernel
theorem dX12_tick_77 : decode cX12_tick 77 = .ok (.aload_n 0, 1) := by decide +kernel
theorem dX12_tick_78 : decode cX12_tick 78 = .ok (.iload_n 3, 1) := by decide +kernel
theorem dX12_tick_79 : decode cX12_tick 79 = .ok (.invokevirtual 386, 3) := by decide +kernel
theorem dX12_tick_82 : decode cX12_tick 82 = .ok (.ifCond .ne 23, 3) := by decide +kernel
theorem dX12_tick_85 : decode cX12_tick 85 = .ok (.aload_n 0, 1) := by decide +kernel
theorem dX12_tick_86 : decode cX12_tick 86 = .ok (.getfield 182, 3) := by decide +kernel
theorem dX12_tick_89 : decode cX12_tick 89 = .ok (.aload_n 0, 1) := by decide +kernel
theorem dX12_tick_90 : decode cX12_tick 90 = .ok (.getfield 41, 3) := by decide +kernel
theorem dX12_tick_93 : decode cX12_tick 93 = .ok (.iload_n 3, 1) := by decide +kernel
theorem dX12_tick_94 : decode cX12_tick 94 = .ok (.iaload, 1) := by decide +kernel
theorem dX12_tick_95 : decode cX12_tick 95 = .ok (.isub, 1) := by decide +kernel
theorem dX12_tick_96 : decode cX12_tick 96 = .ok (.bipush 20, 2) := by decide +kernel
theorem dX12_tick_98 : decode cX12_tick 98 = .ok (.if_icmp .le 7, 3) := by decide +kernel
theorem dX12_tick_101 : decode cX12_tick 101 = .ok (.iconst 1, 1) := by decide +kernel
theorem dX12_tick_102 : decode cX12_tick 102 = .ok (.goto 4, 3) := by decide +kernel
theorem dX12_tick_105 : decode cX12_tick 105 = .ok (.iconst 0, 1) := by decide +kernel
theorem dX12_tick_106 : decode cX12_tick 106 = .ok (.istore 4, 2) := by decide +kernel
theorem dX12_tick_108 : decode cX12_tick 108 = .ok (.iload 4, 2) := by decide +kernel
theorem dX12_tick_110 : decode cX12_tick 110 = .ok (.ifCond .eq 35, 3) := by decide +kernel
theorem dX12_tick_113 : decode cX12_tick 113 = .ok (.aload_n 0, 1) := by decide +kernel
theorem dX12_tick_114 : decode cX12_tick 114 = .ok (.iload_n 3, 1) := by decide +kernel
theorem dX12_tick_115 : decode cX12_tick 115 = .ok (.aload_n 0, 1) := by decide +kernel
theorem dX12_tick_116 : decode cX12_tick 116 = .ok (.aload_n 0, 1) := by decide +kernel
theorem dX12_tick_117 : decode cX12_tick 117 = .ok (.getfield 28, 3) := by decide +kernel
theorem dX12_tick_120 : decode cX12_tick 120 = .ok (.iload_n 3, 1) := by decide +kernel
theorem dX12_tick_121 : decode cX12_tick 121 = .ok (.laload, 1) := by decide +kernel
theorem dX12_tick_122 : decode cX12_tick 122 = .ok (.bipush 14, 2) := by decide +kernel
theorem dX12_tick_124 : decode cX12_tick 124 = .ok (.iconst 0, 1) := by decide +kernel
theorem dX12_tick_125 : decode cX12_tick 125 = .ok (.invokevirtual 150, 3) := by decide +kernel
theorem dX12_tick_128 : decode cX12_tick 128 = .ok (.aload_n 0, 1) := by decide +kernel
theorem dX12_tick_129 : decode cX12_tick 129 = .ok (.getfield 32, 3) := by decide +kernel
theorem dX12_tick_132 : decode cX12_tick 132 = .ok (.iload_n 3, 1) := by decide +kernel
theorem dX12_tick_133 : decode cX12_tick 133 = .ok (.laload, 1) := by decide +kernel
theorem dX12_tick_134 : decode cX12_tick 134 = .ok (.iconst 0, 1) := by decide +kernel
theorem dX12_tick_135 : decode cX12_tick 135 = .ok (.invokevirtual 185, 3) := by decide +kernel
theorem dX12_tick_138 : decode cX12_tick 138 = .ok (.ifCond .eq 7, 3) := by decide +kernel
theorem dX12_tick_141 : decode cX12_tick 141 = .ok (.iconst 1, 1) := by decide +kernel
theorem dX12_tick_142 : decode cX12_tick 142 = .ok (.goto 4, 3) := by decide +kernel
theorem dX12_tick_145 : decode cX12_tick 145 = .ok (.iconst 0, 1) := by decide +kernel
theorem dX12_tick_146 : decode cX12_tick 146 = .ok (.istore 5, 2) := by decide +kernel
theorem dX12_tick_148 : decode cX12_tick 148 = .ok (.iinc 3 1, 3) := by decide +kernel
theorem dX12_tick_151 : decode cX12_tick 151 = .ok (.goto (-92), 3) := by decide +kernel
theorem dX12_tick_154 : decode cX12_tick 154 = .ok (.iinc 2 1, 3) := by decide +kernel
theorem dX12_tick_157 : decode cX12_tick 157 = .ok (.goto (-115), 3) := by decide +kernel
theorem dX12_tick_160 : decode cX12_tick 160 = .ok (.aload_n 0, 1) := by decide +kernel
theorem dX12_tick_161 : decode cX12_tick 161 = .ok (.getfield 182, 3) := by decide +kernel
theorem dX12_tick_164 : decode cX12_tick 164 = .ok (.ireturn, 1) := by decide +kernel
theorem dX12_beat_0 : decode cX12_beat 0 = .ok (.aload_n 0, 1) := by decide +kernel
theorem dX12_beat_1 : decode cX12_beat 1 = .ok (.aload_n 0, 1) := by decide +kernel
theorem dX12_beat_2 : decode cX12_beat 2 = .ok (.iload_n 1, 1) := by decide +kernel
theorem dX12_beat_3 : decode cX12_beat 3 = .ok (.invokevirtual 377, 3) := by decide +kernel
theorem dX12_beat_6 : decode cX12_beat 6 = .ok (.ifCond .ne 7, 3) := by decide +kernel
theorem dX12_beat_9 : decode cX12_beat 9 = .ok (.iconst 1, 1) := by decide +kernel
theorem dX12_beat_10 : decode cX12_beat 10 = .ok (.goto 18, 3) := by decide +kernel
theorem dX12_beat_13 : decode cX12_beat 13 = .ok (.aload_n 0, 1) := by decide +kernel
theorem dX12_beat_14 : decode cX12_beat 14 = .ok (.getfield 25, 3) := by decide +kernel
theorem dX12_beat_17 : decode cX12_beat 17 = .ok (.iload_n 1, 1) := by decide +kernel
theorem dX12_beat_18 : decode cX12_beat 18 = .ok (.iaload, 1) := by decide +kernel
theorem dX12_beat_19 : decode cX12_beat 19 = .ok (.iconst 4, 1) := by decide +kernel
theorem dX12_beat_20 : decode cX12_beat 20 = .ok (.if_icmp .ne 7, 3) := by decide +kernel
theorem dX12_beat_23 : decode cX12_beat 23 = .ok (.iconst 0, 1) := by decide +kernel
theorem dX12_beat_24 : decode cX12_beat 24 = .ok (.goto 4, 3) := by decide +kernel
theorem dX12_beat_27 : decode cX12_beat 27 = .ok (.iconst 2, 1) := by decide +kernel
theorem dX12_beat_28 : decode cX12_beat 28 = .ok (.invokevirtual 374, 3) := by decide +kernel
theorem dX12_beat_31 : decode cX12_beat 31 = .ok (.ifCond .ne 5, 3) := by decide +kernel
theorem dX12_beat_34 : decode cX12_beat 34 = .ok (.iconst 0, 1) := by decide +kernel
theorem dX12_beat_35 : decode cX12_beat 35 = .ok (.ireturn, 1) := by decide +kernel
theorem dX12_beat_36 : decode cX12_beat 36 = .ok (.aload_n 0, 1) := by decide +kernel
theorem dX12_beat_37 : decode cX12_beat 37 = .ok (.aload_n 0, 1) := by decide +kernel
theorem dX12_beat_38 : decode cX12_beat 38 = .ok (.getfield 28, 3) := by decide +kernel
theorem dX12_beat_41 : decode cX12_beat 41 = .ok (.iload_n 1, 1) := by decide +kernel
theorem dX12_beat_42 : decode cX12_beat 42 = .ok (.laload, 1) := by decide +kernel
theorem dX12_beat_43 : decode cX12_beat 43 = .ok (.bipush 14, 2) := by decide +kernel
theorem dX12_beat_45 : decode cX12_beat 45 = .ok (.invokevirtual 146, 3) := by decide +kernel
theorem dX12_beat_48 : decode cX12_beat 48 = .ok (.iconst 1, 1) := by decide +kernel
theorem dX12_beat_49 : decode cX12_beat 49 = .ok (.if_icmp .ne 7, 3) := by decide +kernel
theorem dX12_beat_52 : decode cX12_beat 52 = .ok (.iconst 1, 1) := by decide +kernel
theorem dX12_beat_53 : decode cX12_beat 53 = .ok (.goto 4, 3) := by decide +kernel
theorem dX12_beat_56 : decode cX12_beat 56 = .ok (.iconst 0, 1) := by decide +kernel
theorem dX12_beat_57 : decode cX12_beat 57 = .ok (.istore_n 2, 1) := by decide +kernel
theorem dX12_beat_58 : decode cX12_beat 58 = .ok (.aload_n 0, 1) := by decide +kernel
theorem dX12_beat_59 : decode cX12_beat 59 = .ok (.iload_n 1, 1) := by decide +kernel
theorem dX12_beat_60 : decode cX12_beat 60 = .ok (.invokevirtual 386, 3) := by decide +kernel
theorem dX12_beat_63 : decode cX12_beat 63 = .ok (.ifCond .ne 31, 3) := by decide +kernel
theorem dX12_beat_66 : decode cX12_beat 66 = .ok (.aload_n 0, 1) := by decide +kernel
theorem dX12_beat_67 : decode cX12_beat 67 = .ok (.iload_n 1, 1) := by decide +kernel
theorem dX12_beat_68 : decode cX12_beat 68 = .ok (.aload_n 0, 1) := by decide +kernel
theorem dX12_beat_69 : decode cX12_beat 69 = .ok (.aload_n 0, 1) := by decide +kernel
theorem dX12_beat_70 : decode cX12_beat 70 = .ok (.getfield 28, 3) := by decide +kernel
theorem dX12_beat_73 : decode cX12_beat 73 = .ok (.iload_n 1, 1) := by decide +kernel
theorem dX12_beat_74 : decode cX12_beat 74 = .ok (.laload, 1) := by decide +kernel
theorem dX12_beat_75 : decode cX12_beat 75 = .ok (.bipush 14, 2) := by decide +kernel
theorem dX12_beat_77 : decode cX12_beat 77 = .ok (.iconst 1, 1) := by decide +kernel
theorem dX12_beat_78 : decode cX12_beat 78 = .ok (.invokevirtual 150, 3) := by decide +kernel
theorem dX12_beat_81 : decode cX12_beat 81 = .ok (.aload_n 0, 1) := by decide +kernel
theorem dX12_beat_82 : decode cX12_beat 82 = .ok (.getfield 32, 3) := by decide +kernel
theorem dX12_beat_85 : decode cX12_beat 85 = .ok (.iload_n 1, 1) := by decide +kernel
theorem dX12_beat_86 : decode cX12_beat 86 = .ok (.laload, 1) := by decide +kernel
theorem dX12_beat_87 : decode cX12_beat 87 = .ok (.iconst 0, 1) := by decide +kernel
theorem dX12_beat_88 : decode cX12_beat 88 = .ok (.invokevirtual 185, 3) := by decide +kernel
theorem dX12_beat_91 : decode cX12_beat 91 = .ok (.ifCond .ne 7, 3) := by decide +kernel
theorem dX12_beat_94 : decode cX12_beat 94 = .ok (.iconst 1, 1) := by decide +kernel
theorem dX12_beat_95 : decode cX12_beat 95 = .ok (.goto 4, 3) := by decide +kernel
theorem dX12_beat_98 : decode cX12_beat 98 = .ok (.iconst 0, 1) := by decide +kernel
theorem dX12_beat_99 : decode cX12_beat 99 = .ok (.istore_n 3, 1) := by decide +kernel
theorem dX12_beat_100 : decode cX12_beat 100 = .ok (.aload_n 0, 1) := by decide +kernel
theorem dX12_beat_101 : decode cX12_beat 101 = .ok (.iload_n 3, 1) := by decide +kernel
theorem dX12_beat_102 : decode cX12_beat 102 = .ok (.ifCond .eq 7, 3) := by decide +kernel
theorem dX12_beat_105 : decode cX12_beat 105 = .ok (.iconst 3, 1) := by decide +kernel
theorem dX12_beat_106 : decode cX12_beat 106 = .ok (.goto 4, 3) := by decide +kernel
theorem dX12_beat_109 : decode cX12_beat 109 = .ok (.iconst 0, 1) := by decide +kernel
theorem dX12_beat_110 : decode cX12_beat 110 = .ok (.invokevirtual 374, 3) := by decide +kernel
theorem dX12_beat_113 : decode cX12_beat 113 = .ok (.ifCond .ne 5, 3) := by decide +kernel
theorem dX12_beat_116 : decode cX12_beat 116 = .ok (.iconst 0, 1) := by decide +kernel
theorem dX12_beat_117 : decode cX12_beat 117 = .ok (.ireturn, 1) := by decide +kernel
theorem dX12_beat_118 : decode cX12_beat 118 = .ok (.aload_n 0, 1) := by decide +kernel
theorem dX12_beat_119 : decode cX12_beat 119 = .ok (.getfield 41, 3) := by decide +kernel
theorem dX12_beat_122 : decode cX12_beat 122 = .ok (.iload_n 1, 1) := by decide +kernel
theorem dX12_beat_123 : decode cX12_beat 123 = .ok (.aload_n 0, 1) := by decide +kernel
theorem dX12_beat_124 : decode cX12_beat 124 = .ok (.getfield 182, 3) := by decide +kernel
theorem dX12_beat_127 : decode cX12_beat 127 = .ok (.iastore, 1) := by decide +kernel
theorem dX12_beat_128 : decode cX12_beat 128 = .ok (.iload_n 2, 1) := by decide +kernel
theorem dX12_beat_129 : decode cX12_beat 129 = .ok (.ireturn, 1) := by decide +kernel
theorem dX12_wish_0 : decode cX12_wish 0 = .ok (.aload_n 0, 1) := by decide +kernel
theorem dX12_wish_1 : decode cX12_wish 1 = .ok (.aload_n 0, 1) := by decide +kernel
theorem dX12_wish_2 : decode cX12_wish 2 = .ok (.iload_n 1, 1) := by decide +kernel
theorem dX12_wish_3 : decode cX12_wish 3 = .ok (.invokevirtual 377, 3) := by decide +kernel
theorem dX12_wish_6 : decode cX12_wish 6 = .ok (.ifCond .ne 7, 3) := by decide +kernel
theorem dX12_wish_9 : decode cX12_wish 9 = .ok (.iconst 1, 1) := by decide +kernel
theorem dX12_wish_10 : decode cX12_wish 10 = .ok (.goto 27, 3) := by decide +kernel
theorem dX12_wish_13 : decode cX12_wish 13 = .ok (.aload_n 0, 1) := by decide +kernel
theorem dX12_wish_14 : decode cX12_wish 14 = .ok (.getfield 25, 3) := by decide +kernel
theorem dX12_wish_17 : decode cX12_wish 17 = .ok (.iload_n 1, 1) := by decide +kernel
theorem dX12_wish_18 : decode cX12_wish 18 = .ok (.iaload, 1) := by decide +kernel
theorem dX12_wish_19 : decode cX12_wish 19 = .ok (.ifCond .ne 17, 3) := by decide +kernel
theorem dX12_wish_22 : decode cX12_wish 22 = .ok (.iload_n 2, 1) := by decide +kernel
theorem dX12_wish_23 : decode cX12_wish 23 = .ok (.iconst (-1), 1) := by decide +kernel
theorem dX12_wish_24 : decode cX12_wish 24 = .ok (.bipush 9, 2) := by decide +kernel
theorem dX12_wish_26 : decode cX12_wish 26 = .ok (.invokestatic 140, 3) := by decide +kernel
theorem dX12_wish_29 : decode cX12_wish 29 = .ok (.ifCond .eq 7, 3) := by decide +kernel
theorem dX12_wish_32 : decode cX12_wish 32 = .ok (.iconst 0, 1) := by decide +kernel
theorem dX12_wish_33 : decode cX12_wish 33 = .ok (.goto 4, 3) := by decide +kernel
theorem dX12_wish_36 : decode cX12_wish 36 = .ok (.iconst 2, 1) := by decide +kernel
theorem dX12_wish_37 : decode cX12_wish 37 = .ok (.invokevirtual 374, 3) := by decide +kernel
theorem dX12_wish_40 : decode cX12_wish 40 = .ok (.ifCond .ne 5, 3) := by decide +kernel
theorem dX12_wish_43 : decode cX12_wish 43 = .ok (.iconst 0, 1) := by decide +kernel
theorem dX12_wish_44 : decode cX12_wish 44 = .ok (.ireturn, 1) := by decide +kernel
theorem dX12_wish_45 : decode cX12_wish 45 = .ok (.aload_n 0, 1) := by decide +kernel
theorem dX12_wish_46 : decode cX12_wish 46 = .ok (.getfield 44, 3) := by decide +kernel
theorem dX12_wish_49 : decode cX12_wish 49 = .ok (.iload_n 1, 1) := by decide +kernel
theorem dX12_wish_50 : decode cX12_wish 50 = .ok (.iaload, 1) := by decide +kernel
theorem dX12_wish_51 : decode cX12_wish 51 = .ok (.istore_n 3, 1) := by decide +kernel
theorem dX12_wish_52 : decode cX12_wish 52 = .ok (.aload_n 0, 1) := by decide +kernel
theorem dX12_wish_53 : decode cX12_wish 53 = .ok (.getfield 44, 3) := by decide +kernel
theorem dX12_wish_56 : decode cX12_wish 56 = .ok (.iload_n 1, 1) := by decide +kernel
theorem dX12_wish_57 : decode cX12_wish 57 = .ok (.iload_n 2, 1) := by decide +kernel
theorem dX12_wish_58 : decode cX12_wish 58 = .ok (.iastore, 1) := by decide +kernel
theorem dX12_wish_59 : decode cX12_wish 59 = .ok (.iload_n 3, 1) := by decide +kernel
theorem dX12_wish_60 : decode cX12_wish 60 = .ok (.ireturn, 1) := by decide +kernel
theorem dX12_hub_0 : decode cX12_hub 0 = .ok (.aload_n 0, 1) := by decide +kernel
theorem dX12_hub_1 : decode cX12_hub 1 = .ok (.iconst 0, 1) := by decide +kernel
theorem dX12_hub_2 : decode cX12_hub 2 = .ok (.putfield 134, 3) := by decide +kernel
theorem dX12_hub_5 : decode cX12_hub 5 = .ok (.aload_n 0, 1) := by decide +kernel
theorem dX12_hub_6 : decode cX12_hub 6 = .ok (.iload_n 1, 1) := by decide +kernel
theorem dX12_hub_7 : decode cX12_hub 7 = .ok (.putfield 404, 3) := by decide +kernel
theorem dX12_hub_10 : decode cX12_hub 10 = .ok (.aload_n 0, 1) := by decide +kernel
theorem dX12_hub_11 : decode cX12_hub 11 = .ok (.getfield 154, 3) := by decide +kernel
theorem dX12_hub_14 : decode cX12_hub 14 = .ok (.istore_n 2, 1) := by decide +kernel
theorem dX12_hub_15 : decode cX12_hub 15 = .ok (.iconst 0, 1) := by decide +kernel
theorem dX12_hub_16 : decode cX12_hub 16 = .ok (.istore_n 3, 1) := by decide +kernel
theorem dX12_hub_17 : decode cX12_hub 17 = .ok (.iload_n 3, 1) := by decide +kernel
theorem dX12_hub_18 : decode cX12_hub 18 = .ok (.aload_n 0, 1) := by decide +kernel
theorem dX12_hub_19 : decode cX12_hub 19 = .ok (.getfield 137, 3) := by decide +kernel
theorem dX12_hub_22 : decode cX12_hub 22 = .ok (.if_icmp .ge 78, 3) := by decide +kernel
theorem dX12_hub_25 : decode cX12_hub 25 = .ok (.aload_n 0, 1) := by decide +kernel
theorem dX12_hub_26 : decode cX12_hub 26 = .ok (.getfield 404, 3) := by decide +kernel
theorem dX12_hub_29 : decode cX12_hub 29 = .ok (.ifCond .ne 71, 3) := by decide +kernel
theorem dX12_hub_32 : decode cX12_hub 32 = .ok (.aload_n 0, 1) := by decide +kernel
theorem dX12_hub_33 : decode cX12_hub 33 = .ok (.getfield 25, 3) := by decide +kernel
theorem dX12_hub_36 : decode cX12_hub 36 = .ok (.iload_n 3, 1) := by decide +kernel
theorem dX12_hub_37 : decode cX12_hub 37 = .ok (.iaload, 1) := by decide +kernel
theorem dX12_hub_38 : decode cX12_hub 38 = .ok (.ifCond .ne 25, 3) := by decide +kernel
theorem dX12_hub_41 : decode cX12_hub 41 = .ok (.aload_n 0, 1) := by decide +kernel
theorem dX12_hub_42 : decode cX12_hub 42 = .ok (.getfield 44, 3) := by decide +kernel
theorem dX12_hub_45 : decode cX12_hub 45 = .ok (.iload_n 3, 1) := by decide +kernel
theorem dX12_hub_46 : decode cX12_hub 46 = .ok (.iaload, 1) := by decide +kernel
theorem dX12_hub_47 : decode cX12_hub 47 = .ok (.iconst (-1), 1) := by decide +kernel
theorem dX12_hub_48 : decode cX12_hub 48 = .ok (.if_icmp .eq 15, 3) := by decide +kernel
theorem dX12_hub_51 : decode cX12_hub 51 = .ok (.aload_n 0, 1) := by decide +kernel
theorem dX12_hub_52 : decode cX12_hub 52 = .ok (.iload_n 3, 1) := by decide +kernel
theorem dX12_hub_53 : decode cX12_hub 53 = .ok (.invokevirtual 386, 3) := by decide +kernel
theorem dX12_hub_56 : decode cX12_hub 56 = .ok (.ifCond .ne 7, 3) := by decide +kernel
theorem dX12_hub_59 : decode cX12_hub 59 = .ok (.iconst 1, 1) := by decide +kernel
theorem dX12_hub_60 : decode cX12_hub 60 = .ok (.goto 4, 3) := by decide +kernel
theorem dX12_hub_63 : decode cX12_hub 63 = .ok (.iconst 0, 1) := by decide +kernel
theorem dX12_hub_64 : decode cX12_hub 64 = .ok (.istore 4, 2) := by decide +kernel
theorem dX12_hub_66 : decode cX12_hub 66 = .ok (.iload 4, 2) := by decide +kernel
theorem dX12_hub_68 : decode cX12_hub 68 = .ok (.ifCond .eq 23, 3) := by decide +kernel
theorem dX12_hub_71 : decode cX12_hub 71 = .ok (.aload_n 0, 1) := by decide +kernel
theorem dX12_hub_72 : decode cX12_hub 72 = .ok (.iconst 5, 1) := by decide +kernel
theorem dX12_hub_73 : decode cX12_hub 73 = .ok (.iload_n 3, 1) := by decide +kernel
theorem dX12_hub_74 : decode cX12_hub 74 = .ok (.iconst 1, 1) := by decide +kernel
theorem dX12_hub_75 : decode cX12_hub 75 = .ok (.aload_n 0, 1) := by decide +kernel
theorem dX12_hub_76 : decode cX12_hub 76 = .ok (.getfield 44, 3) := by decide +kernel
theorem dX12_hub_79 : decode cX12_hub 79 = .ok (.iload_n 3, 1) := by decide +kernel
theorem dX12_hub_80 : decode cX12_hub 80 = .ok (.iaload, 1) := by decide +kernel
theorem dX12_hub_81 : decode cX12_hub 81 = .ok (.invokevirtual 253, 3) := by decide +kernel
theorem dX12_hub_84 : decode cX12_hub 84 = .ok (.ifCond .eq 7, 3) := by decide +kernel
theorem dX12_hub_87 : decode cX12_hub 87 = .ok (.iconst 1, 1) := by decide +kernel
theorem dX12_hub_88 : decode cX12_hub 88 = .ok (.goto 4, 3) := by decide +kernel
theorem dX12_hub_91 : decode cX12_hub 91 = .ok (.iconst 0, 1) := by decide +kernel
theorem dX12_hub_92 : decode cX12_hub 92 = .ok (.istore 5, 2) := by decide +kernel
theorem dX12_hub_94 : decode cX12_hub 94 = .ok (.iinc 3 1, 3) := by decide +kernel
theorem dX12_hub_97 : decode cX12_hub 97 = .ok (.goto (-80), 3) := by decide +kernel
theorem dX12_hub_100 : decode cX12_hub 100 = .ok (.aload_n 0, 1) := by decide +kernel
theorem dX12_hub_101 : decode cX12_hub 101 = .ok (.getfield 154, 3) := by decide +kernel
theorem dX12_hub_104 : decode cX12_hub 104 = .ok (.iload_n 2, 1) := by decide +kernel
theorem dX12_hub_105 : decode cX12_hub 105 = .ok (.isub, 1) := by decide +kernel
theorem dX12_hub_106 : decode cX12_hub 106 = .ok (.ireturn, 1) := by decide +kernel
theorem dX12_objects_0 : decode cX12_objects 0 = .ok (.aload_n 0, 1) := by decide +kernel
theorem dX12_objects_1 : decode cX12_objects 1 = .ok (.iconst 0, 1) := by decide +kernel
theorem dX12_objects_2 : decode cX12_objects 2 = .ok (.putfield 134, 3) := by decide +kernel
theorem dX12_objects_5 : decode cX12_objects 5 = .ok (.aload_n 0, 1) := by decide +kernel
theorem dX12_objects_6 : decode cX12_objects 6 = .ok (.getfield 137, 3) := by decide +kernel
theorem dX12_objects_9 : decode cX12_objects 9 = .ok (.ireturn, 1) := by decide +kernel
theorem dX12_version_0 : decode cX12_version 0 = .ok (.aload_n 0, 1) := by decide +kernel
theorem dX12_version_1 : decode cX12_version 1 = .ok (.iconst 0, 1) := by decide +kernel
theorem dX12_version_2 : decode cX12_version 2 = .ok (.putfield 134, 3) := by decide +kernel
theorem dX12_version_5 : decode cX12_version 5 = .ok (.aload_n 0, 1) := by decide +kernel
theorem dX12_version_6 : decode cX12_version 6 = .ok (.getfield 154, 3) := by decide +kernel
theorem dX12_version_9 : decode cX12_version 9 = .ok (.ireturn, 1) := by decide +kernel
theorem dX12_asksObject_0 : decode cX12_asksObject 0 = .ok (.aload_n 0, 1) := by decide +kernel
theorem dX12_asksObject_1 : decode cX12_asksObject 1 = .ok (.aload_n 0, 1) := by decide +kernel
theorem dX12_asksObject_2 : decode cX12_asksObject 2 = .ok (.iload_n 1, 1) := by decide +kernel
theorem dX12_asksObject_3 : decode cX12_asksObject 3 = .ok (.invokevirtual 377, 3) := by decide +kernel
theorem dX12_asksObject_6 : decode cX12_asksObject 6 = .ok (.ifCond .eq 7, 3) := by decide +kernel
theorem dX12_asksObject_9 : decode cX12_asksObject 9 = .ok (.iconst 0, 1) := by decide +kernel
theorem dX12_asksObject_10 : decode cX12_asksObject 10 = .ok (.goto 4, 3) := by decide +kernel
theorem dX12_asksObject_13 : decode cX12_asksObject 13 = .ok (.iconst 1, 1) := by decide +kernel
theorem dX12_asksObject_14 : decode cX12_asksObject 14 = .ok (.invokevirtual 374, 3) := by decide +kernel
theorem dX12_asksObject_17 : decode cX12_asksObject 17 = .ok (.ireturn, 1) := by decide +kernel
theorem dX12_asksOf_0 : decode cX12_asksOf 0 = .ok (.aload_n 0, 1) := by decide +kernel
theorem dX12_asksOf_1 : decode cX12_asksOf 1 = .ok (.aload_n 0, 1) := by decide +kernel
theorem dX12_asksOf_2 : decode cX12_asksOf 2 = .ok (.iload_n 1, 1) := by decide +kernel
theorem dX12_asksOf_3 : decode cX12_asksOf 3 = .ok (.invokevirtual 377, 3) := by decide +kernel
theorem dX12_asksOf_6 : decode cX12_asksOf 6 = .ok (.ifCond .ne 7, 3) := by decide +kernel
theorem dX12_asksOf_9 : decode cX12_asksOf 9 = .ok (.iconst 1, 1) := by decide +kernel
theorem dX12_asksOf_10 : decode cX12_asksOf 10 = .ok (.goto 18, 3) := by decide +kernel
theorem dX12_asksOf_13 : decode cX12_asksOf 13 = .ok (.aload_n 0, 1) := by decide +kernel
theorem dX12_asksOf_14 : decode cX12_asksOf 14 = .ok (.getfield 25, 3) := by decide +kernel
theorem dX12_asksOf_17 : decode cX12_asksOf 17 = .ok (.iload_n 1, 1) := by decide +kernel
theorem dX12_asksOf_18 : decode cX12_asksOf 18 = .ok (.iaload, 1) := by decide +kernel
theorem dX12_asksOf_19 : decode cX12_asksOf 19 = .ok (.iload_n 2, 1) := by decide +kernel
theorem dX12_asksOf_20 : decode cX12_asksOf 20 = .ok (.if_icmp .ne 7, 3) := by decide +kernel
theorem dX12_asksOf_23 : decode cX12_asksOf 23 = .ok (.iconst 0, 1) := by decide +kernel
theorem dX12_asksOf_24 : decode cX12_asksOf 24 = .ok (.goto 4, 3) := by decide +kernel
theorem dX12_asksOf_27 : decode cX12_asksOf 27 = .ok (.iconst 2, 1) := by decide +kernel
theorem dX12_asksOf_28 : decode cX12_asksOf 28 = .ok (.invokevirtual 374, 3) := by decide +kernel
theorem dX12_asksOf_31 : decode cX12_asksOf 31 = .ok (.ireturn, 1) := by decide +kernel
theorem dX12_asksField_0 : decode cX12_asksField 0 = .ok (.aload_n 0, 1) := by decide +kernel
theorem dX12_asksField_1 : decode cX12_asksField 1 = .ok (.aload_n 0, 1) := by decide +kernel
theorem dX12_asksField_2 : decode cX12_asksField 2 = .ok (.iload_n 1, 1) := by decide +kernel
theorem dX12_asksField_3 : decode cX12_asksField 3 = .ok (.invokevirtual 377, 3) := by decide +kernel
theorem dX12_asksField_6 : decode cX12_asksField 6 = .ok (.ifCond .ne 7, 3) := by decide +kernel
theorem dX12_asksField_9 : decode cX12_asksField 9 = .ok (.iconst 1, 1) := by decide +kernel
theorem dX12_asksField_10 : decode cX12_asksField 10 = .ok (.goto 22, 3) := by decide +kernel
theorem dX12_asksField_13 : decode cX12_asksField 13 = .ok (.aload_n 0, 1) := by decide +kernel
theorem dX12_asksField_14 : decode cX12_asksField 14 = .ok (.aload_n 0, 1) := by decide +kernel
theorem dX12_asksField_15 : decode cX12_asksField 15 = .ok (.getfield 25, 3) := by decide +kernel
theorem dX12_asksField_18 : decode cX12_asksField 18 = .ok (.iload_n 1, 1) := by decide +kernel
theorem dX12_asksField_19 : decode cX12_asksField 19 = .ok (.iaload, 1) := by decide +kernel
theorem dX12_asksField_20 : decode cX12_asksField 20 = .ok (.iload_n 2, 1) := by decide +kernel
theorem dX12_asksField_21 : decode cX12_asksField 21 = .ok (.invokevirtual 380, 3) := by decide +kernel
theorem dX12_asksField_24 : decode cX12_asksField 24 = .ok (.ifCond .eq 7, 3) := by decide +kernel
theorem dX12_asksField_27 : decode cX12_asksField 27 = .ok (.iconst 0, 1) := by decide +kernel
theorem dX12_asksField_28 : decode cX12_asksField 28 = .ok (.goto 4, 3) := by decide +kernel
theorem dX12_asksField_31 : decode cX12_asksField 31 = .ok (.iconst 2, 1) := by decide +kernel
theorem dX12_asksField_32 : decode cX12_asksField 32 = .ok (.invokevirtual 374, 3) := by decide +kernel
theorem dX12_asksField_35 : decode cX12_asksField 35 = .ok (.ireturn, 1) := by decide +kernel
theorem dX12_kindOf_0 : decode cX12_kindOf 0 = .ok (.aload_n 0, 1) := by decide +kernel
theorem dX12_kindOf_1 : decode cX12_kindOf 1 = .ok (.iload_n 1, 1) := by decide +kernel
theorem dX12_kindOf_2 : decode cX12_kindOf 2 = .ok (.invokevirtual 407, 3) := by decide +kernel
theorem dX12_kindOf_5 : decode cX12_kindOf 5 = .ok (.ifCond .eq 12, 3) := by decide +kernel
theorem dX12_kindOf_8 : decode cX12_kindOf 8 = .ok (.aload_n 0, 1) := by decide +kernel
theorem dX12_kindOf_9 : decode cX12_kindOf 9 = .ok (.getfield 25, 3) := by decide +kernel
theorem dX12_kindOf_12 : decode cX12_kindOf 12 = .ok (.iload_n 1, 1) := by decide +kernel
theorem dX12_kindOf_13 : decode cX12_kindOf 13 = .ok (.iaload, 1) := by decide +kernel
theorem dX12_kindOf_14 : decode cX12_kindOf 14 = .ok (.goto 4, 3) := by decide +kernel
theorem dX12_kindOf_17 : decode cX12_kindOf 17 = .ok (.iconst 0, 1) := by decide +kernel
theorem dX12_kindOf_18 : decode cX12_kindOf 18 = .ok (.ireturn, 1) := by decide +kernel
theorem dX12_field_0 : decode cX12_field 0 = .ok (.aload_n 0, 1) := by decide +kernel
theorem dX12_field_1 : decode cX12_field 1 = .ok (.iload_n 1, 1) := by decide +kernel
theorem dX12_field_2 : decode cX12_field 2 = .ok (.iload_n 2, 1) := by decide +kernel
theorem dX12_field_3 : decode cX12_field 3 = .ok (.invokevirtual 410, 3) := by decide +kernel
theorem dX12_field_6 : decode cX12_field 6 = .ok (.ifCond .eq 17, 3) := by decide +kernel
theorem dX12_field_9 : decode cX12_field 9 = .ok (.aload_n 0, 1) := by decide +kernel
theorem dX12_field_10 : decode cX12_field 10 = .ok (.aload_n 0, 1) := by decide +kernel
theorem dX12_field_11 : decode cX12_field 11 = .ok (.getfield 28, 3) := by decide +kernel
theorem dX12_field_14 : decode cX12_field 14 = .ok (.iload_n 1, 1) := by decide +kernel
theorem dX12_field_15 : decode cX12_field 15 = .ok (.laload, 1) := by decide +kernel
theorem dX12_field_16 : decode cX12_field 16 = .ok (.iload_n 2, 1) := by decide +kernel
theorem dX12_field_17 : decode cX12_field 17 = .ok (.invokevirtual 146, 3) := by decide +kernel
theorem dX12_field_20 : decode cX12_field 20 = .ok (.goto 4, 3) := by decide +kernel
theorem dX12_field_23 : decode cX12_field 23 = .ok (.iconst 0, 1) := by decide +kernel
theorem dX12_field_24 : decode cX12_field 24 = .ok (.ireturn, 1) := by decide +kernel
theorem dX12_managerOf_0 : decode cX12_managerOf 0 = .ok (.aload_n 0, 1) := by decide +kernel
theorem dX12_managerOf_1 : decode cX12_managerOf 1 = .ok (.iload_n 1, 1) := by decide +kernel
theorem dX12_managerOf_2 : decode cX12_managerOf 2 = .ok (.iload_n 2, 1) := by decide +kernel
theorem dX12_managerOf_3 : decode cX12_managerOf 3 = .ok (.invokevirtual 410, 3) := by decide +kernel
theorem dX12_managerOf_6 : decode cX12_managerOf 6 = .ok (.ifCond .eq 17, 3) := by decide +kernel
theorem dX12_managerOf_9 : decode cX12_managerOf 9 = .ok (.aload_n 0, 1) := by decide +kernel
theorem dX12_managerOf_10 : decode cX12_managerOf 10 = .ok (.getfield 38, 3) := by decide +kernel
theorem dX12_managerOf_13 : decode cX12_managerOf 13 = .ok (.bipush 11, 2) := by decide +kernel
theorem dX12_managerOf_15 : decode cX12_managerOf 15 = .ok (.iload_n 1, 1) := by decide +kernel
theorem dX12_managerOf_16 : decode cX12_managerOf 16 = .ok (.imul, 1) := by decide +kernel
theorem dX12_managerOf_17 : decode cX12_managerOf 17 = .ok (.iload_n 2, 1) := by decide +kernel
theorem dX12_managerOf_18 : decode cX12_managerOf 18 = .ok (.iadd, 1) := by decide +kernel
theorem dX12_managerOf_19 : decode cX12_managerOf 19 = .ok (.iaload, 1) := by decide +kernel
theorem dX12_managerOf_20 : decode cX12_managerOf 20 = .ok (.goto 4, 3) := by decide +kernel
theorem dX12_managerOf_23 : decode cX12_managerOf 23 = .ok (.iconst 0, 1) := by decide +kernel
theorem dX12_managerOf_24 : decode cX12_managerOf 24 = .ok (.ireturn, 1) := by decide +kernel
theorem dX12_budget_0 : decode cX12_budget 0 = .ok (.aload_n 0, 1) := by decide +kernel
theorem dX12_budget_1 : decode cX12_budget 1 = .ok (.iload_n 1, 1) := by decide +kernel
theorem dX12_budget_2 : decode cX12_budget 2 = .ok (.iconst 0, 1) := by decide +kernel
theorem dX12_budget_3 : decode cX12_budget 3 = .ok (.invokevirtual 413, 3) := by decide +kernel
theorem dX12_budget_6 : decode cX12_budget 6 = .ok (.ifCond .eq 32, 3) := by decide +kernel
theorem dX12_budget_9 : decode cX12_budget 9 = .ok (.bipush 10, 2) := by decide +kernel
theorem dX12_budget_11 : decode cX12_budget 11 = .ok (.aload_n 0, 1) := by decide +kernel
theorem dX12_budget_12 : decode cX12_budget 12 = .ok (.aload_n 0, 1) := by decide +kernel
theorem dX12_budget_13 : decode cX12_budget 13 = .ok (.getfield 28, 3) := by decide +kernel
theorem dX12_budget_16 : decode cX12_budget 16 = .ok (.iload_n 1, 1) := by decide +kernel
theorem dX12_budget_17 : decode cX12_budget 17 = .ok (.laload, 1) := by decide +kernel
theorem dX12_budget_18 : decode cX12_budget 18 = .ok (.iconst 2, 1) := by decide +kernel
theorem dX12_budget_19 : decode cX12_budget 19 = .ok (.invokevirtual 146, 3) := by decide +kernel
theorem dX12_budget_22 : decode cX12_budget 22 = .ok (.imul, 1) := by decide +kernel
theorem dX12_budget_23 : decode cX12_budget 23 = .ok (.aload_n 0, 1) := by decide +kernel
theorem dX12_budget_24 : decode cX12_budget 24 = .ok (.aload_n 0, 1) := by decide +kernel
theorem dX12_budget_25 : decode cX12_budget 25 = .ok (.getfield 28, 3) := by decide +kernel
theorem dX12_budget_28 : decode cX12_budget 28 = .ok (.iload_n 1, 1) := by decide +kernel
theorem dX12_budget_29 : decode cX12_budget 29 = .ok (.laload, 1) := by decide +kernel
theorem dX12_budget_30 : decode cX12_budget 30 = .ok (.iconst 3, 1) := by decide +kernel
theorem dX12_budget_31 : decode cX12_budget 31 = .ok (.invokevirtual 146, 3) := by decide +kernel
theorem dX12_budget_34 : decode cX12_budget 34 = .ok (.iadd, 1) := by decide +kernel
theorem dX12_budget_35 : decode cX12_budget 35 = .ok (.goto 4, 3) := by decide +kernel
theorem dX12_budget_38 : decode cX12_budget 38 = .ok (.iconst 0, 1) := by decide +kernel
theorem dX12_budget_39 : decode cX12_budget 39 = .ok (.ireturn, 1) := by decide +kernel
theorem dX12_versionOf_0 : decode cX12_versionOf 0 = .ok (.aload_n 0, 1) := by decide +kernel
theorem dX12_versionOf_1 : decode cX12_versionOf 1 = .ok (.iload_n 1, 1) := by decide +kernel
theorem dX12_versionOf_2 : decode cX12_versionOf 2 = .ok (.invokevirtual 407, 3) := by decide +kernel
theorem dX12_versionOf_5 : decode cX12_versionOf 5 = .ok (.ifCond .eq 12, 3) := by decide +kernel
theorem dX12_versionOf_8 : decode cX12_versionOf 8 = .ok (.aload_n 0, 1) := by decide +kernel
theorem dX12_versionOf_9 : decode cX12_versionOf 9 = .ok (.getfield 35, 3) := by decide +kernel
theorem dX12_versionOf_12 : decode cX12_versionOf 12 = .ok (.iload_n 1, 1) := by decide +kernel
theorem dX12_versionOf_13 : decode cX12_versionOf 13 = .ok (.iaload, 1) := by decide +kernel
theorem dX12_versionOf_14 : decode cX12_versionOf 14 = .ok (.goto 4, 3) := by decide +kernel
theorem dX12_versionOf_17 : decode cX12_versionOf 17 = .ok (.iconst 0, 1) := by decide +kernel
theorem dX12_versionOf_18 : decode cX12_versionOf 18 = .ok (.ireturn, 1) := by decide +kernel
theorem dX12_goingOf_0 : decode cX12_goingOf 0 = .ok (.aload_n 0, 1) := by decide +kernel
theorem dX12_goingOf_1 : decode cX12_goingOf 1 = .ok (.iload_n 1, 1) := by decide +kernel
theorem dX12_goingOf_2 : decode cX12_goingOf 2 = .ok (.invokevirtual 407, 3) := by decide +kernel
theorem dX12_goingOf_5 : decode cX12_goingOf 5 = .ok (.ifCond .eq 18, 3) := by decide +kernel
theorem dX12_goingOf_8 : decode cX12_goingOf 8 = .ok (.aload_n 0, 1) := by decide +kernel
theorem dX12_goingOf_9 : decode cX12_goingOf 9 = .ok (.aload_n 0, 1) := by decide +kernel
theorem dX12_goingOf_10 : decode cX12_goingOf 10 = .ok (.getfield 28, 3) := by decide +kernel
theorem dX12_goingOf_13 : decode cX12_goingOf 13 = .ok (.iload_n 1, 1) := by decide +kernel
theorem dX12_goingOf_14 : decode cX12_goingOf 14 = .ok (.laload, 1) := by decide +kernel
theorem dX12_goingOf_15 : decode cX12_goingOf 15 = .ok (.bipush 13, 2) := by decide +kernel
theorem dX12_goingOf_17 : decode cX12_goingOf 17 = .ok (.invokevirtual 146, 3) := by decide +kernel
theorem dX12_goingOf_20 : decode cX12_goingOf 20 = .ok (.goto 4, 3) := by decide +kernel
theorem dX12_goingOf_23 : decode cX12_goingOf 23 = .ok (.iconst 0, 1) := by decide +kernel
theorem dX12_goingOf_24 : decode cX12_goingOf 24 = .ok (.ireturn, 1) := by decide +kernel
theorem dX12_ownerOf_0 : decode cX12_ownerOf 0 = .ok (.aload_n 0, 1) := by decide +kernel
theorem dX12_ownerOf_1 : decode cX12_ownerOf 1 = .ok (.iload_n 1, 1) := by decide +kernel
theorem dX12_ownerOf_2 : decode cX12_ownerOf 2 = .ok (.invokevirtual 407, 3) := by decide +kernel
theorem dX12_ownerOf_5 : decode cX12_ownerOf 5 = .ok (.ifCond .eq 16, 3) := by decide +kernel
theorem dX12_ownerOf_8 : decode cX12_ownerOf 8 = .ok (.aload_n 0, 1) := by decide +kernel
theorem dX12_ownerOf_9 : decode cX12_ownerOf 9 = .ok (.aload_n 0, 1) := by decide +kernel
theorem dX12_ownerOf_10 : decode cX12_ownerOf 10 = .ok (.getfield 28, 3) := by decide +kernel
theorem dX12_ownerOf_13 : decode cX12_ownerOf 13 = .ok (.iload_n 1, 1) := by decide +kernel
theorem dX12_ownerOf_14 : decode cX12_ownerOf 14 = .ok (.laload, 1) := by decide +kernel
theorem dX12_ownerOf_15 : decode cX12_ownerOf 15 = .ok (.invokevirtual 214, 3) := by decide +kernel
theorem dX12_ownerOf_18 : decode cX12_ownerOf 18 = .ok (.goto 4, 3) := by decide +kernel
theorem dX12_ownerOf_21 : decode cX12_ownerOf 21 = .ok (.iconst 0, 1) := by decide +kernel
theorem dX12_ownerOf_22 : decode cX12_ownerOf 22 = .ok (.ireturn, 1) := by decide +kernel
theorem dX12_phaseOf_0 : decode cX12_phaseOf 0 = .ok (.aload_n 0, 1) := by decide +kernel
theorem dX12_phaseOf_1 : decode cX12_phaseOf 1 = .ok (.iload_n 1, 1) := by decide +kernel
theorem dX12_phaseOf_2 : decode cX12_phaseOf 2 = .ok (.iconst 2, 1) := by decide +kernel
theorem dX12_phaseOf_3 : decode cX12_phaseOf 3 = .ok (.invokevirtual 413, 3) := by decide +kernel
theorem dX12_phaseOf_6 : decode cX12_phaseOf 6 = .ok (.ifCond .eq 18, 3) := by decide +kernel
theorem dX12_phaseOf_9 : decode cX12_phaseOf 9 = .ok (.aload_n 0, 1) := by decide +kernel
theorem dX12_phaseOf_10 : decode cX12_phaseOf 10 = .ok (.aload_n 0, 1) := by decide +kernel
theorem dX12_phaseOf_11 : decode cX12_phaseOf 11 = .ok (.getfield 28, 3) := by decide +kernel
theorem dX12_phaseOf_14 : decode cX12_phaseOf 14 = .ok (.iload_n 1, 1) := by decide +kernel
theorem dX12_phaseOf_15 : decode cX12_phaseOf 15 = .ok (.laload, 1) := by decide +kernel
theorem dX12_phaseOf_16 : decode cX12_phaseOf 16 = .ok (.bipush 16, 2) := by decide +kernel
theorem dX12_phaseOf_18 : decode cX12_phaseOf 18 = .ok (.invokevirtual 146, 3) := by decide +kernel
theorem dX12_phaseOf_21 : decode cX12_phaseOf 21 = .ok (.goto 4, 3) := by decide +kernel
theorem dX12_phaseOf_24 : decode cX12_phaseOf 24 = .ok (.iconst 0, 1) := by decide +kernel
theorem dX12_phaseOf_25 : decode cX12_phaseOf 25 = .ok (.ireturn, 1) := by decide +kernel
theorem dX12_placeOf_0 : decode cX12_placeOf 0 = .ok (.aload_n 0, 1) := by decide +kernel
theorem dX12_placeOf_1 : decode cX12_placeOf 1 = .ok (.iload_n 1, 1) := by decide +kernel
theorem dX12_placeOf_2 : decode cX12_placeOf 2 = .ok (.iconst 2, 1) := by decide +kernel
theorem dX12_placeOf_3 : decode cX12_placeOf 3 = .ok (.invokevirtual 413, 3) := by decide +kernel
theorem dX12_placeOf_6 : decode cX12_placeOf 6 = .ok (.ifCond .eq 20, 3) := by decide +kernel
theorem dX12_placeOf_9 : decode cX12_placeOf 9 = .ok (.aload_n 0, 1) := by decide +kernel
theorem dX12_placeOf_10 : decode cX12_placeOf 10 = .ok (.aload_n 0, 1) := by decide +kernel
theorem dX12_placeOf_11 : decode cX12_placeOf 11 = .ok (.getfield 28, 3) := by decide +kernel
theorem dX12_placeOf_14 : decode cX12_placeOf 14 = .ok (.iload_n 1, 1) := by decide +kernel
theorem dX12_placeOf_15 : decode cX12_placeOf 15 = .ok (.laload, 1) := by decide +kernel
theorem dX12_placeOf_16 : decode cX12_placeOf 16 = .ok (.bipush 15, 2) := by decide +kernel
theorem dX12_placeOf_18 : decode cX12_placeOf 18 = .ok (.invokevirtual 146, 3) := by decide +kernel
theorem dX12_placeOf_21 : decode cX12_placeOf 21 = .ok (.iconst 1, 1) := by decide +kernel
theorem dX12_placeOf_22 : decode cX12_placeOf 22 = .ok (.isub, 1) := by decide +kernel
theorem dX12_placeOf_23 : decode cX12_placeOf 23 = .ok (.goto 4, 3) := by decide +kernel
theorem dX12_placeOf_26 : decode cX12_placeOf 26 = .ok (.iconst 0, 1) := by decide +kernel
theorem dX12_placeOf_27 : decode cX12_placeOf 27 = .ok (.ireturn, 1) := by decide +kernel
theorem dX12_isReady_0 : decode cX12_isReady 0 = .ok (.aload_n 0, 1) := by decide +kernel
theorem dX12_isReady_1 : decode cX12_isReady 1 = .ok (.iload_n 1, 1) := by decide +kernel
theorem dX12_isReady_2 : decode cX12_isReady 2 = .ok (.iconst 4, 1) := by decide +kernel
theorem dX12_isReady_3 : decode cX12_isReady 3 = .ok (.invokevirtual 413, 3) := by decide +kernel
theorem dX12_isReady_6 : decode cX12_isReady 6 = .ok (.ifCond .eq 23, 3) := by decide +kernel
theorem dX12_isReady_9 : decode cX12_isReady 9 = .ok (.aload_n 0, 1) := by decide +kernel
theorem dX12_isReady_10 : decode cX12_isReady 10 = .ok (.aload_n 0, 1) := by decide +kernel
theorem dX12_isReady_11 : decode cX12_isReady 11 = .ok (.getfield 28, 3) := by decide +kernel
theorem dX12_isReady_14 : decode cX12_isReady 14 = .ok (.iload_n 1, 1) := by decide +kernel
theorem dX12_isReady_15 : decode cX12_isReady 15 = .ok (.laload, 1) := by decide +kernel
theorem dX12_isReady_16 : decode cX12_isReady 16 = .ok (.bipush 14, 2) := by decide +kernel
theorem dX12_isReady_18 : decode cX12_isReady 18 = .ok (.invokevirtual 146, 3) := by decide +kernel
theorem dX12_isReady_21 : decode cX12_isReady 21 = .ok (.iconst 1, 1) := by decide +kernel
theorem dX12_isReady_22 : decode cX12_isReady 22 = .ok (.if_icmp .ne 7, 3) := by decide +kernel
theorem dX12_isReady_25 : decode cX12_isReady 25 = .ok (.iconst 1, 1) := by decide +kernel
theorem dX12_isReady_26 : decode cX12_isReady 26 = .ok (.goto 4, 3) := by decide +kernel
theorem dX12_isReady_29 : decode cX12_isReady 29 = .ok (.iconst 0, 1) := by decide +kernel
theorem dX12_isReady_30 : decode cX12_isReady 30 = .ok (.ireturn, 1) := by decide +kernel
theorem dX12_isBehind_0 : decode cX12_isBehind 0 = .ok (.aload_n 0, 1) := by decide +kernel
theorem dX12_isBehind_1 : decode cX12_isBehind 1 = .ok (.iload_n 1, 1) := by decide +kernel
theorem dX12_isBehind_2 : decode cX12_isBehind 2 = .ok (.invokevirtual 377, 3) := by decide +kernel
theorem dX12_isBehind_5 : decode cX12_isBehind 5 = .ok (.ifCond .eq 15, 3) := by decide +kernel
theorem dX12_isBehind_8 : decode cX12_isBehind 8 = .ok (.aload_n 0, 1) := by decide +kernel
theorem dX12_isBehind_9 : decode cX12_isBehind 9 = .ok (.iload_n 2, 1) := by decide +kernel
theorem dX12_isBehind_10 : decode cX12_isBehind 10 = .ok (.invokevirtual 377, 3) := by decide +kernel
theorem dX12_isBehind_13 : decode cX12_isBehind 13 = .ok (.ifCond .eq 7, 3) := by decide +kernel
theorem dX12_isBehind_16 : decode cX12_isBehind 16 = .ok (.iconst 1, 1) := by decide +kernel
theorem dX12_isBehind_17 : decode cX12_isBehind 17 = .ok (.goto 4, 3) := by decide +kernel
theorem dX12_isBehind_20 : decode cX12_isBehind 20 = .ok (.iconst 0, 1) := by decide +kernel
theorem dX12_isBehind_21 : decode cX12_isBehind 21 = .ok (.istore_n 3, 1) := by decide +kernel
theorem dX12_isBehind_22 : decode cX12_isBehind 22 = .ok (.aload_n 0, 1) := by decide +kernel
theorem dX12_isBehind_23 : decode cX12_isBehind 23 = .ok (.iload_n 3, 1) := by decide +kernel
theorem dX12_isBehind_24 : decode cX12_isBehind 24 = .ok (.ifCond .ne 7, 3) := by decide +kernel
theorem dX12_isBehind_27 : decode cX12_isBehind 27 = .ok (.iconst 1, 1) := by decide +kernel
theorem dX12_isBehind_28 : decode cX12_isBehind 28 = .ok (.goto 18, 3) := by decide +kernel
theorem dX12_isBehind_31 : decode cX12_isBehind 31 = .ok (.aload_n 0, 1) := by decide +kernel
theorem dX12_isBehind_32 : decode cX12_isBehind 32 = .ok (.getfield 25, 3) := by decide +kernel
theorem dX12_isBehind_35 : decode cX12_isBehind 35 = .ok (.iload_n 1, 1) := by decide +kernel
theorem dX12_isBehind_36 : decode cX12_isBehind 36 = .ok (.iaload, 1) := by decide +kernel
theorem dX12_isBehind_37 : decode cX12_isBehind 37 = .ok (.iconst 5, 1) := by decide +kernel
theorem dX12_isBehind_38 : decode cX12_isBehind 38 = .ok (.if_icmp .ne 7, 3) := by decide +kernel
theorem dX12_isBehind_41 : decode cX12_isBehind 41 = .ok (.iconst 0, 1) := by decide +kernel
theorem dX12_isBehind_42 : decode cX12_isBehind 42 = .ok (.goto 4, 3) := by decide +kernel
theorem dX12_isBehind_45 : decode cX12_isBehind 45 = .ok (.iconst 2, 1) := by decide +kernel
theorem dX12_isBehind_46 : decode cX12_isBehind 46 = .ok (.invokevirtual 374, 3) := by decide +kernel
theorem dX12_isBehind_49 : decode cX12_isBehind 49 = .ok (.ifCond .eq 20, 3) := by decide +kernel
theorem dX12_isBehind_52 : decode cX12_isBehind 52 = .ok (.aload_n 0, 1) := by decide +kernel
theorem dX12_isBehind_53 : decode cX12_isBehind 53 = .ok (.getfield 32, 3) := by decide +kernel
theorem dX12_isBehind_56 : decode cX12_isBehind 56 = .ok (.iload_n 1, 1) := by decide +kernel
theorem dX12_isBehind_57 : decode cX12_isBehind 57 = .ok (.laload, 1) := by decide +kernel
theorem dX12_isBehind_58 : decode cX12_isBehind 58 = .ok (.iload_n 2, 1) := by decide +kernel
theorem dX12_isBehind_59 : decode cX12_isBehind 59 = .ok (.invokestatic 416, 3) := by decide +kernel
theorem dX12_isBehind_62 : decode cX12_isBehind 62 = .ok (.ifCond .eq 7, 3) := by decide +kernel
theorem dX12_isBehind_65 : decode cX12_isBehind 65 = .ok (.iconst 1, 1) := by decide +kernel
theorem dX12_isBehind_66 : decode cX12_isBehind 66 = .ok (.goto 4, 3) := by decide +kernel
theorem dX12_isBehind_69 : decode cX12_isBehind 69 = .ok (.iconst 0, 1) := by decide +kernel
theorem dX12_isBehind_70 : decode cX12_isBehind 70 = .ok (.ireturn, 1) := by decide +kernel
theorem dX12_isSetOf_0 : decode cX12_isSetOf 0 = .ok (.iload_n 1, 1) := by decide +kernel
theorem dX12_isSetOf_1 : decode cX12_isSetOf 1 = .ok (.iconst (-1), 1) := by decide +kernel
theorem dX12_isSetOf_2 : decode cX12_isSetOf 2 = .ok (.if_icmp .eq 46, 3) := by decide +kernel
theorem dX12_isSetOf_5 : decode cX12_isSetOf 5 = .ok (.aload_n 0, 1) := by decide +kernel
theorem dX12_isSetOf_6 : decode cX12_isSetOf 6 = .ok (.getfield 25, 3) := by decide +kernel
theorem dX12_isSetOf_9 : decode cX12_isSetOf 9 = .ok (.iload_n 1, 1) := by decide +kernel
theorem dX12_isSetOf_10 : decode cX12_isSetOf 10 = .ok (.iaload, 1) := by decide +kernel
theorem dX12_isSetOf_11 : decode cX12_isSetOf 11 = .ok (.iconst 1, 1) := by decide +kernel
theorem dX12_isSetOf_12 : decode cX12_isSetOf 12 = .ok (.if_icmp .ne 36, 3) := by decide +kernel
theorem dX12_isSetOf_15 : decode cX12_isSetOf 15 = .ok (.aload_n 0, 1) := by decide +kernel
theorem dX12_isSetOf_16 : decode cX12_isSetOf 16 = .ok (.aload_n 0, 1) := by decide +kernel
theorem dX12_isSetOf_17 : decode cX12_isSetOf 17 = .ok (.getfield 28, 3) := by decide +kernel
theorem dX12_isSetOf_20 : decode cX12_isSetOf 20 = .ok (.iload_n 1, 1) := by decide +kernel
theorem dX12_isSetOf_21 : decode cX12_isSetOf 21 = .ok (.laload, 1) := by decide +kernel
theorem dX12_isSetOf_22 : decode cX12_isSetOf 22 = .ok (.bipush 13, 2) := by decide +kernel
theorem dX12_isSetOf_24 : decode cX12_isSetOf 24 = .ok (.invokevirtual 146, 3) := by decide +kernel
theorem dX12_isSetOf_27 : decode cX12_isSetOf 27 = .ok (.ifCond .ne 21, 3) := by decide +kernel
theorem dX12_isSetOf_30 : decode cX12_isSetOf 30 = .ok (.aload_n 0, 1) := by decide +kernel
theorem dX12_isSetOf_31 : decode cX12_isSetOf 31 = .ok (.aload_n 0, 1) := by decide +kernel
theorem dX12_isSetOf_32 : decode cX12_isSetOf 32 = .ok (.getfield 28, 3) := by decide +kernel
theorem dX12_isSetOf_35 : decode cX12_isSetOf 35 = .ok (.iload_n 1, 1) := by decide +kernel
theorem dX12_isSetOf_36 : decode cX12_isSetOf 36 = .ok (.laload, 1) := by decide +kernel
theorem dX12_isSetOf_37 : decode cX12_isSetOf 37 = .ok (.invokevirtual 214, 3) := by decide +kernel
theorem dX12_isSetOf_40 : decode cX12_isSetOf 40 = .ok (.iload_n 2, 1) := by decide +kernel
theorem dX12_isSetOf_41 : decode cX12_isSetOf 41 = .ok (.if_icmp .ne 7, 3) := by decide +kernel
theorem dX12_isSetOf_44 : decode cX12_isSetOf 44 = .ok (.iconst 1, 1) := by decide +kernel
theorem dX12_isSetOf_45 : decode cX12_isSetOf 45 = .ok (.goto 4, 3) := by decide +kernel
theorem dX12_isSetOf_48 : decode cX12_isSetOf 48 = .ok (.iconst 0, 1) := by decide +kernel
theorem dX12_isSetOf_49 : decode cX12_isSetOf 49 = .ok (.ireturn, 1) := by decide +kernel
theorem dX12_latestOf_0 : decode cX12_latestOf 0 = .ok (.iconst (-1), 1) := by decide +kernel
theorem dX12_latestOf_1 : decode cX12_latestOf 1 = .ok (.istore_n 2, 1) := by decide +kernel
theorem dX12_latestOf_2 : decode cX12_latestOf 2 = .ok (.aload_n 0, 1) := by decide +kernel
theorem dX12_latestOf_3 : decode cX12_latestOf 3 = .ok (.getfield 137, 3) := by decide +kernel
theorem dX12_latestOf_6 : decode cX12_latestOf 6 = .ok (.iconst 1, 1) := by decide +kernel
theorem dX12_latestOf_7 : decode cX12_latestOf 7 = .ok (.isub, 1) := by decide +kernel
theorem dX12_latestOf_8 : decode cX12_latestOf 8 = .ok (.istore_n 3, 1) := by decide +kernel
theorem dX12_latestOf_9 : decode cX12_latestOf 9 = .ok (.iload_n 3, 1) := by decide +kernel
theorem dX12_latestOf_10 : decode cX12_latestOf 10 = .ok (.ifCond .lt 61, 3) := by decide +kernel
theorem dX12_latestOf_13 : decode cX12_latestOf 13 = .ok (.aload_n 0, 1) := by decide +kernel
theorem dX12_latestOf_14 : decode cX12_latestOf 14 = .ok (.iload_n 3, 1) := by decide +kernel
theorem dX12_latestOf_15 : decode cX12_latestOf 15 = .ok (.iload_n 1, 1) := by decide +kernel
theorem dX12_latestOf_16 : decode cX12_latestOf 16 = .ok (.invokevirtual 420, 3) := by decide +kernel
theorem dX12_latestOf_19 : decode cX12_latestOf 19 = .ok (.ifCond .eq 32, 3) := by decide +kernel
theorem dX12_latestOf_22 : decode cX12_latestOf 22 = .ok (.aload_n 0, 1) := by decide +kernel
theorem dX12_latestOf_23 : decode cX12_latestOf 23 = .ok (.aload_n 0, 1) := by decide +kernel
theorem dX12_latestOf_24 : decode cX12_latestOf 24 = .ok (.getfield 28, 3) := by decide +kernel
theorem dX12_latestOf_27 : decode cX12_latestOf 27 = .ok (.iload_n 3, 1) := by decide +kernel
theorem dX12_latestOf_28 : decode cX12_latestOf 28 = .ok (.laload, 1) := by decide +kernel
theorem dX12_latestOf_29 : decode cX12_latestOf 29 = .ok (.iconst 1, 1) := by decide +kernel
theorem dX12_latestOf_30 : decode cX12_latestOf 30 = .ok (.invokevirtual 146, 3) := by decide +kernel
theorem dX12_latestOf_33 : decode cX12_latestOf 33 = .ok (.aload_n 0, 1) := by decide +kernel
theorem dX12_latestOf_34 : decode cX12_latestOf 34 = .ok (.aload_n 0, 1) := by decide +kernel
theorem dX12_latestOf_35 : decode cX12_latestOf 35 = .ok (.getfield 28, 3) := by decide +kernel
theorem dX12_latestOf_38 : decode cX12_latestOf 38 = .ok (.iload_n 1, 1) := by decide +kernel
theorem dX12_latestOf_39 : decode cX12_latestOf 39 = .ok (.laload, 1) := by decide +kernel
theorem dX12_latestOf_40 : decode cX12_latestOf 40 = .ok (.iconst 1, 1) := by decide +kernel
theorem dX12_latestOf_41 : decode cX12_latestOf 41 = .ok (.invokevirtual 146, 3) := by decide +kernel
theorem dX12_latestOf_44 : decode cX12_latestOf 44 = .ok (.if_icmp .ne 7, 3) := by decide +kernel
theorem dX12_latestOf_47 : decode cX12_latestOf 47 = .ok (.iconst 1, 1) := by decide +kernel
theorem dX12_latestOf_48 : decode cX12_latestOf 48 = .ok (.goto 4, 3) := by decide +kernel
theorem dX12_latestOf_51 : decode cX12_latestOf 51 = .ok (.iconst 0, 1) := by decide +kernel
theorem dX12_latestOf_52 : decode cX12_latestOf 52 = .ok (.istore 4, 2) := by decide +kernel
theorem dX12_latestOf_54 : decode cX12_latestOf 54 = .ok (.iload 4, 2) := by decide +kernel
theorem dX12_latestOf_56 : decode cX12_latestOf 56 = .ok (.ifCond .eq 7, 3) := by decide +kernel
theorem dX12_latestOf_59 : decode cX12_latestOf 59 = .ok (.iload_n 3, 1) := by decide +kernel
theorem dX12_latestOf_60 : decode cX12_latestOf 60 = .ok (.goto 4, 3) := by decide +kernel
theorem dX12_latestOf_63 : decode cX12_latestOf 63 = .ok (.iload_n 2, 1) := by decide +kernel
theorem dX12_latestOf_64 : decode cX12_latestOf 64 = .ok (.istore_n 2, 1) := by decide +kernel
theorem dX12_latestOf_65 : decode cX12_latestOf 65 = .ok (.iinc 3 (-1), 3) := by decide +kernel
theorem dX12_latestOf_68 : decode cX12_latestOf 68 = .ok (.goto (-59), 3) := by decide +kernel
theorem dX12_latestOf_71 : decode cX12_latestOf 71 = .ok (.iload_n 2, 1) := by decide +kernel
theorem dX12_latestOf_72 : decode cX12_latestOf 72 = .ok (.ireturn, 1) := by decide +kernel
theorem dX12_running_0 : decode cX12_running 0 = .ok (.aload_n 0, 1) := by decide +kernel
theorem dX12_running_1 : decode cX12_running 1 = .ok (.iload_n 1, 1) := by decide +kernel
theorem dX12_running_2 : decode cX12_running 2 = .ok (.iconst 0, 1) := by decide +kernel
theorem dX12_running_3 : decode cX12_running 3 = .ok (.invokevirtual 413, 3) := by decide +kernel
theorem dX12_running_6 : decode cX12_running 6 = .ok (.ifCond .ne 5, 3) := by decide +kernel
theorem dX12_running_9 : decode cX12_running 9 = .ok (.iconst 0, 1) := by decide +kernel
theorem dX12_running_10 : decode cX12_running 10 = .ok (.ireturn, 1) := by decide +kernel
theorem dX12_running_11 : decode cX12_running 11 = .ok (.aload_n 0, 1) := by decide +kernel
theorem dX12_running_12 : decode cX12_running 12 = .ok (.iload_n 1, 1) := by decide +kernel
theorem dX12_running_13 : decode cX12_running 13 = .ok (.invokevirtual 423, 3) := by decide +kernel
theorem dX12_running_16 : decode cX12_running 16 = .ok (.istore_n 3, 1) := by decide +kernel
theorem dX12_running_17 : decode cX12_running 17 = .ok (.iconst 0, 1) := by decide +kernel
theorem dX12_running_18 : decode cX12_running 18 = .ok (.istore 4, 2) := by decide +kernel
theorem dX12_running_20 : decode cX12_running 20 = .ok (.iconst 0, 1) := by decide +kernel
theorem dX12_running_21 : decode cX12_running 21 = .ok (.istore 5, 2) := by decide +kernel
theorem dX12_running_23 : decode cX12_running 23 = .ok (.iload 5, 2) := by decide +kernel
theorem dX12_running_25 : decode cX12_running 25 = .ok (.aload_n 0, 1) := by decide +kernel
theorem dX12_running_26 : decode cX12_running 26 = .ok (.getfield 137, 3) := by decide +kernel
theorem dX12_running_29 : decode cX12_running 29 = .ok (.if_icmp .ge 108, 3) := by decide +kernel
theorem dX12_running_32 : decode cX12_running 32 = .ok (.aload_n 0, 1) := by decide +kernel
theorem dX12_running_33 : decode cX12_running 33 = .ok (.aload_n 0, 1) := by decide +kernel
theorem dX12_running_34 : decode cX12_running 34 = .ok (.getfield 28, 3) := by decide +kernel
theorem dX12_running_37 : decode cX12_running 37 = .ok (.iload 5, 2) := by decide +kernel
theorem dX12_running_39 : decode cX12_running 39 = .ok (.laload, 1) := by decide +kernel
theorem dX12_running_40 : decode cX12_running 40 = .ok (.invokevirtual 214, 3) := by decide +kernel
theorem dX12_running_43 : decode cX12_running 43 = .ok (.istore 6, 2) := by decide +kernel
theorem dX12_running_45 : decode cX12_running 45 = .ok (.aload_n 0, 1) := by decide +kernel
theorem dX12_running_46 : decode cX12_running 46 = .ok (.getfield 25, 3) := by decide +kernel
theorem dX12_running_49 : decode cX12_running 49 = .ok (.iload 5, 2) := by decide +kernel
theorem dX12_running_51 : decode cX12_running 51 = .ok (.iaload, 1) := by decide +kernel
theorem dX12_running_52 : decode cX12_running 52 = .ok (.iconst 2, 1) := by decide +kernel
theorem dX12_running_53 : decode cX12_running 53 = .ok (.if_icmp .ne 40, 3) := by decide +kernel
theorem dX12_running_56 : decode cX12_running 56 = .ok (.aload_n 0, 1) := by decide +kernel
theorem dX12_running_57 : decode cX12_running 57 = .ok (.aload_n 0, 1) := by decide +kernel
theorem dX12_running_58 : decode cX12_running 58 = .ok (.getfield 28, 3) := by decide +kernel
theorem dX12_running_61 : decode cX12_running 61 = .ok (.iload 5, 2) := by decide +kernel
theorem dX12_running_63 : decode cX12_running 63 = .ok (.laload, 1) := by decide +kernel
theorem dX12_running_64 : decode cX12_running 64 = .ok (.bipush 13, 2) := by decide +kernel
theorem dX12_running_66 : decode cX12_running 66 = .ok (.invokevirtual 146, 3) := by decide +kernel
theorem dX12_running_69 : decode cX12_running 69 = .ok (.ifCond .ne 24, 3) := by decide +kernel
theorem dX12_running_72 : decode cX12_running 72 = .ok (.aload_n 0, 1) := by decide +kernel
theorem dX12_running_73 : decode cX12_running 73 = .ok (.aload_n 0, 1) := by decide +kernel
theorem dX12_running_74 : decode cX12_running 74 = .ok (.getfield 28, 3) := by decide +kernel
theorem dX12_running_77 : decode cX12_running 77 = .ok (.iload 5, 2) := by decide +kernel
theorem dX12_running_79 : decode cX12_running 79 = .ok (.laload, 1) := by decide +kernel
theorem dX12_running_80 : decode cX12_running 80 = .ok (.bipush 16, 2) := by decide +kernel
theorem dX12_running_82 : decode cX12_running 82 = .ok (.invokevirtual 146, 3) := by decide +kernel
theorem dX12_running_85 : decode cX12_running 85 = .ok (.iconst 1, 1) := by decide +kernel
theorem dX12_running_86 : decode cX12_running 86 = .ok (.if_icmp .ne 7, 3) := by decide +kernel
theorem dX12_running_89 : decode cX12_running 89 = .ok (.iconst 1, 1) := by decide +kernel
theorem dX12_running_90 : decode cX12_running 90 = .ok (.goto 4, 3) := by decide +kernel
theorem dX12_running_93 : decode cX12_running 93 = .ok (.iconst 0, 1) := by decide +kernel
theorem dX12_running_94 : decode cX12_running 94 = .ok (.istore 7, 2) := by decide +kernel
theorem dX12_running_96 : decode cX12_running 96 = .ok (.iload 4, 2) := by decide +kernel
theorem dX12_running_98 : decode cX12_running 98 = .ok (.iload 7, 2) := by decide +kernel
theorem dX12_running_100 : decode cX12_running 100 = .ok (.ifCond .eq 27, 3) := by decide +kernel
theorem dX12_running_103 : decode cX12_running 103 = .ok (.aload_n 0, 1) := by decide +kernel
theorem dX12_running_104 : decode cX12_running 104 = .ok (.iload 6, 2) := by decide +kernel
theorem dX12_running_106 : decode cX12_running 106 = .ok (.iload_n 1, 1) := by decide +kernel
theorem dX12_running_107 : decode cX12_running 107 = .ok (.invokevirtual 420, 3) := by decide +kernel
theorem dX12_running_110 : decode cX12_running 110 = .ok (.ifCond .eq 17, 3) := by decide +kernel
theorem dX12_running_113 : decode cX12_running 113 = .ok (.iload_n 2, 1) := by decide +kernel
theorem dX12_running_114 : decode cX12_running 114 = .ok (.ifCond .eq 9, 3) := by decide +kernel
theorem dX12_running_117 : decode cX12_running 117 = .ok (.iload 6, 2) := by decide +kernel
theorem dX12_running_119 : decode cX12_running 119 = .ok (.iload_n 3, 1) := by decide +kernel
theorem dX12_running_120 : decode cX12_running 120 = .ok (.if_icmp .ne 7, 3) := by decide +kernel
theorem dX12_running_123 : decode cX12_running 123 = .ok (.iconst 1, 1) := by decide +kernel
theorem dX12_running_124 : decode cX12_running 124 = .ok (.goto 4, 3) := by decide +kernel
theorem dX12_running_127 : decode cX12_running 127 = .ok (.iconst 0, 1) := by decide +kernel
theorem dX12_running_128 : decode cX12_running 128 = .ok (.iadd, 1) := by decide +kernel
theorem dX12_running_129 : decode cX12_running 129 = .ok (.istore 4, 2) := by decide +kernel
theorem dX12_running_131 : decode cX12_running 131 = .ok (.iinc 5 1, 3) := by decide +kernel
theorem dX12_running_134 : decode cX12_running 134 = .ok (.goto (-111), 3) := by decide +kernel
theorem dX12_running_137 : decode cX12_running 137 = .ok (.iload 4, 2) := by decide +kernel
theorem dX12_running_139 : decode cX12_running 139 = .ok (.ireturn, 1) := by decide +kernel
theorem dX12_objectOf_0 : decode cX12_objectOf 0 = .ok (.aload_n 0, 1) := by decide +kernel
theorem dX12_objectOf_1 : decode cX12_objectOf 1 = .ok (.iload_n 1, 1) := by decide +kernel
theorem dX12_objectOf_2 : decode cX12_objectOf 2 = .ok (.iconst 1, 1) := by decide +kernel
theorem dX12_objectOf_3 : decode cX12_objectOf 3 = .ok (.aload_n 0, 1) := by decide +kernel
theorem dX12_objectOf_4 : decode cX12_objectOf 4 = .ok (.getfield 154, 3) := by decide +kernel
theorem dX12_objectOf_7 : decode cX12_objectOf 7 = .ok (.invokestatic 140, 3) := by decide +kernel
theorem dX12_objectOf_10 : decode cX12_objectOf 10 = .ok (.ifCond .eq 7, 3) := by decide +kernel
theorem dX12_objectOf_13 : decode cX12_objectOf 13 = .ok (.iconst 0, 1) := by decide +kernel
theorem dX12_objectOf_14 : decode cX12_objectOf 14 = .ok (.goto 4, 3) := by decide +kernel
theorem dX12_objectOf_17 : decode cX12_objectOf 17 = .ok (.iconst 1, 1) := by decide +kernel
theorem dX12_objectOf_18 : decode cX12_objectOf 18 = .ok (.invokevirtual 374, 3) := by decide +kernel
theorem dX12_objectOf_21 : decode cX12_objectOf 21 = .ok (.ifCond .eq 12, 3) := by decide +kernel
theorem dX12_objectOf_24 : decode cX12_objectOf 24 = .ok (.aload_n 0, 1) := by decide +kernel
theorem dX12_objectOf_25 : decode cX12_objectOf 25 = .ok (.getfield 50, 3) := by decide +kernel
theorem dX12_objectOf_28 : decode cX12_objectOf 28 = .ok (.iload_n 1, 1) := by decide +kernel
theorem dX12_objectOf_29 : decode cX12_objectOf 29 = .ok (.iaload, 1) := by decide +kernel
theorem dX12_objectOf_30 : decode cX12_objectOf 30 = .ok (.goto 4, 3) := by decide +kernel
theorem dX12_objectOf_33 : decode cX12_objectOf 33 = .ok (.iconst 0, 1) := by decide +kernel
theorem dX12_objectOf_34 : decode cX12_objectOf 34 = .ok (.ireturn, 1) := by decide +kernel
end
