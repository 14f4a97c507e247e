theorem dL_areFactors_203 : decode cL_areFactors 203 = .ok (.aload_n 2, 1) := by decide +kernel
theorem dL_areFactors_204 : decode cL_areFactors 204 = .ok (.iconst 0, 1) := by decide +kernel
theorem dL_areFactors_205 : decode cL_areFactors 205 = .ok (.iaload, 1) := by decide +kernel
theorem dL_areFactors_206 : decode cL_areFactors 206 = .ok (.if_icmp .ge 67, 3) := by decide +kernel
theorem dL_areFactors_209 : decode cL_areFactors 209 = .ok (.iload 4, 2) := by decide +kernel
theorem dL_areFactors_211 : decode cL_areFactors 211 = .ok (.ifCond .eq 62, 3) := by decide +kernel
theorem dL_areFactors_214 : decode cL_areFactors 214 = .ok (.aload_n 0, 1) := by decide +kernel
theorem dL_areFactors_215 : decode cL_areFactors 215 = .ok (.iload 5, 2) := by decide +kernel
theorem dL_areFactors_217 : decode cL_areFactors 217 = .ok (.iload 9, 2) := by decide +kernel
theorem dL_areFactors_219 : decode cL_areFactors 219 = .ok (.iconst 0, 1) := by decide +kernel
theorem dL_areFactors_220 : decode cL_areFactors 220 = .ok (.invokevirtual 68, 3) := by decide +kernel
theorem dL_areFactors_223 : decode cL_areFactors 223 = .ok (.aload_n 1, 1) := by decide +kernel
theorem dL_areFactors_224 : decode cL_areFactors 224 = .ok (.iload 5, 2) := by decide +kernel
theorem dL_areFactors_226 : decode cL_areFactors 226 = .ok (.iaload, 1) := by decide +kernel
theorem dL_areFactors_227 : decode cL_areFactors 227 = .ok (.aload_n 1, 1) := by decide +kernel
theorem dL_areFactors_228 : decode cL_areFactors 228 = .ok (.iload 9, 2) := by decide +kernel
theorem dL_areFactors_230 : decode cL_areFactors 230 = .ok (.iaload, 1) := by decide +kernel
theorem dL_areFactors_231 : decode cL_areFactors 231 = .ok (.invokestatic 15, 3) := by decide +kernel
theorem dL_areFactors_234 : decode cL_areFactors 234 = .ok (.if_icmp .ne 30, 3) := by decide +kernel
theorem dL_areFactors_237 : decode cL_areFactors 237 = .ok (.aload_n 0, 1) := by decide +kernel
theorem dL_areFactors_238 : decode cL_areFactors 238 = .ok (.iload 5, 2) := by decide +kernel
theorem dL_areFactors_240 : decode cL_areFactors 240 = .ok (.iload 9, 2) := by decide +kernel
theorem dL_areFactors_242 : decode cL_areFactors 242 = .ok (.iconst 1, 1) := by decide +kernel
theorem dL_areFactors_243 : decode cL_areFactors 243 = .ok (.invokevirtual 68, 3) := by decide +kernel
theorem dL_areFactors_246 : decode cL_areFactors 246 = .ok (.aload_n 1, 1) := by decide +kernel
theorem dL_areFactors_247 : decode cL_areFactors 247 = .ok (.iload 5, 2) := by decide +kernel
theorem dL_areFactors_249 : decode cL_areFactors 249 = .ok (.iaload, 1) := by decide +kernel
theorem dL_areFactors_250 : decode cL_areFactors 250 = .ok (.aload_n 1, 1) := by decide +kernel
theorem dL_areFactors_251 : decode cL_areFactors 251 = .ok (.iload 9, 2) := by decide +kernel
theorem dL_areFactors_253 : decode cL_areFactors 253 = .ok (.iaload, 1) := by decide +kernel
theorem dL_areFactors_254 : decode cL_areFactors 254 = .ok (.invokestatic 15, 3) := by decide +kernel
theorem dL_areFactors_257 : decode cL_areFactors 257 = .ok (.if_icmp .ne 7, 3) := by decide +kernel
theorem dL_areFactors_260 : decode cL_areFactors 260 = .ok (.iconst 1, 1) := by decide +kernel
theorem dL_areFactors_261 : decode cL_areFactors 261 = .ok (.goto 4, 3) := by decide +kernel
theorem dL_areFactors_264 : decode cL_areFactors 264 = .ok (.iconst 0, 1) := by decide +kernel
theorem dL_areFactors_265 : decode cL_areFactors 265 = .ok (.istore 4, 2) := by decide +kernel
theorem dL_areFactors_267 : decode cL_areFactors 267 = .ok (.iinc 9 1, 3) := by decide +kernel
theorem dL_areFactors_270 : decode cL_areFactors 270 = .ok (.goto (-69), 3) := by decide +kernel
theorem dL_areFactors_273 : decode cL_areFactors 273 = .ok (.iinc 5 1, 3) := by decide +kernel
theorem dL_areFactors_276 : decode cL_areFactors 276 = .ok (.goto (-270), 3) := by decide +kernel
theorem dL_areFactors_279 : decode cL_areFactors 279 = .ok (.iload 4, 2) := by decide +kernel
theorem dL_areFactors_281 : decode cL_areFactors 281 = .ok (.ireturn, 1) := by decide +kernel
set_option maxRecDepth 20000 in
theorem ggL_areAccounts_X8_prime : GoodIn wsL_areAccounts wsX8_prime := goodIn_r _ [5, 6, 7, 8, 9, 10, 11, 12, 13, 14, 15, 16, 17, 18, 19, 20, 21, 22, 23, 24, 25, 26, 27, 28, 29, 30, 31, 32, 33, 34, 35, 36, 37, 38, 39, 40, 41, 42, 43, 44, 45, 46, 47, 48, 49, 50, 51, 52, 53, 54, 55, 56, 57, 58, 59, 60, 61, 62, 63, 64, 65, 66, 67, 156, 157, 158, 159, 160, 161, 162, 163, 164, 165, 166, 167, 168, 169, 170, 171, 172, 173, 174, 175, 176] (by decide +kernel) (by decide +kernel)
set_option maxRecDepth 20000 in
theorem gL_areAccounts_X8_prime : GoodIn wsL_areAccounts (wsV RL 71 RX8 yX8_prime wsX8_prime) := goodIn_app (goodIn_of _ (by decide +kernel)) ggL_areAccounts_X8_prime
set_option maxRecDepth 20000 in
theorem ggL_areAccounts_L_exponent : GoodIn wsL_areAccounts wsL_exponent := goodIn_r _ [71] (by decide +kernel) (by decide +kernel)
set_option maxRecDepth 20000 in
theorem gL_areAccounts_L_exponent : GoodIn wsL_areAccounts (va_wsS RL 23 yL_exponent wsL_exponent) := goodIn_app (goodIn_of _ (by decide +kernel)) ggL_areAccounts_L_exponent
set_option maxRecDepth 20000 in
theorem ggL_areAccounts_X8_count : GoodIn wsL_areAccounts wsX8_count := goodIn_r _ [75, 6, 76, 77, 78, 79, 80, 81, 41, 82, 43, 83, 84, 85, 86, 87, 44, 45, 46, 47, 48, 88, 89, 9, 90, 67, 15, 16, 91, 92, 93, 94, 95, 96, 97, 98, 99, 31, 100, 101, 102, 103, 104, 105, 106, 30, 32, 107, 108, 109, 110, 111, 112, 61, 113, 114, 115, 116, 117, 118, 119, 120, 121, 122, 60, 62, 123, 124, 125, 126, 127, 128, 129, 130, 131, 132, 133, 20, 134, 27, 22, 29, 135, 136, 137, 138, 139, 140, 141, 142, 143, 12, 13, 14, 144, 145, 146, 147, 148, 149, 150, 151, 50, 51, 52, 53, 54, 152, 153, 154, 155, 156, 157, 158, 159, 160, 161, 162, 163, 164, 165, 166, 167, 168, 169, 170, 171, 172, 177, 178, 179, 180, 181, 182, 183, 184, 185, 186, 187, 188, 189, 190, 173, 174, 175, 176] (by decide +kernel) (by decide +kernel)
set_option maxRecDepth 20000 in
theorem gL_areAccounts_X8_count : GoodIn wsL_areAccounts (wsV RL 53 RX8 yX8_count wsX8_count) := goodIn_app (goodIn_of _ (by decide +kernel)) ggL_areAccounts_X8_count
theorem dL_areAccounts_0 : decode cL_areAccounts 0 = .ok (.iconst 0, 1) := by decide +kernel
theorem dL_areAccounts_1 : decode cL_areAccounts 1 = .ok (.istore 6, 2) := by decide +kernel
theorem dL_areAccounts_3 : decode cL_areAccounts 3 = .ok (.iconst 0, 1) := by decide +kernel
theorem dL_areAccounts_4 : decode cL_areAccounts 4 = .ok (.istore 7, 2) := by decide +kernel
theorem dL_areAccounts_6 : decode cL_areAccounts 6 = .ok (.iconst 0, 1) := by decide +kernel
theorem dL_areAccounts_7 : decode cL_areAccounts 7 = .ok (.istore 8, 2) := by decide +kernel
theorem dL_areAccounts_9 : decode cL_areAccounts 9 = .ok (.aload_n 0, 1) := by decide +kernel
theorem dL_areAccounts_10 : decode cL_areAccounts 10 = .ok (.iconst 1, 1) := by decide +kernel
theorem dL_areAccounts_11 : decode cL_areAccounts 11 = .ok (.iconst 0, 1) := by decide +kernel
theorem dL_areAccounts_12 : decode cL_areAccounts 12 = .ok (.invokevirtual 71, 3) := by decide +kernel
theorem dL_areAccounts_15 : decode cL_areAccounts 15 = .ok (.iconst (-1), 1) := by decide +kernel
theorem dL_areAccounts_16 : decode cL_areAccounts 16 = .ok (.if_icmp .ne 29, 3) := by decide +kernel
theorem dL_areAccounts_19 : decode cL_areAccounts 19 = .ok (.aload_n 0, 1) := by decide +kernel
theorem dL_areAccounts_20 : decode cL_areAccounts 20 = .ok (.bipush 91, 2) := by decide +kernel
theorem dL_areAccounts_22 : decode cL_areAccounts 22 = .ok (.iconst 0, 1) := by decide +kernel
theorem dL_areAccounts_23 : decode cL_areAccounts 23 = .ok (.invokevirtual 71, 3) := by decide +kernel
theorem dL_areAccounts_26 : decode cL_areAccounts 26 = .ok (.iconst (-1), 1) := by decide +kernel
theorem dL_areAccounts_27 : decode cL_areAccounts 27 = .ok (.if_icmp .ne 18, 3) := by decide +kernel
theorem dL_areAccounts_30 : decode cL_areAccounts 30 = .ok (.aload_n 0, 1) := by decide +kernel
theorem dL_areAccounts_31 : decode cL_areAccounts 31 = .ok (.bipush 101, 2) := by decide +kernel
theorem dL_areAccounts_33 : decode cL_areAccounts 33 = .ok (.iconst 5, 1) := by decide +kernel
theorem dL_areAccounts_34 : decode cL_areAccounts 34 = .ok (.invokevirtual 71, 3) := by decide +kernel
theorem dL_areAccounts_37 : decode cL_areAccounts 37 = .ok (.iconst (-1), 1) := by decide +kernel
theorem dL_areAccounts_38 : decode cL_areAccounts 38 = .ok (.if_icmp .ne 7, 3) := by decide +kernel
theorem dL_areAccounts_41 : decode cL_areAccounts 41 = .ok (.iconst 1, 1) := by decide +kernel
theorem dL_areAccounts_42 : decode cL_areAccounts 42 = .ok (.goto 4, 3) := by decide +kernel
theorem dL_areAccounts_45 : decode cL_areAccounts 45 = .ok (.iconst 0, 1) := by decide +kernel
theorem dL_areAccounts_46 : decode cL_areAccounts 46 = .ok (.istore 9, 2) := by decide +kernel
theorem dL_areAccounts_48 : decode cL_areAccounts 48 = .ok (.iconst 0, 1) := by decide +kernel
theorem dL_areAccounts_49 : decode cL_areAccounts 49 = .ok (.istore 10, 2) := by decide +kernel
theorem dL_areAccounts_51 : decode cL_areAccounts 51 = .ok (.iload 10, 2) := by decide +kernel
theorem dL_areAccounts_53 : decode cL_areAccounts 53 = .ok (.bipush 25, 2) := by decide +kernel
theorem dL_areAccounts_55 : decode cL_areAccounts 55 = .ok (.if_icmp .ge 235, 3) := by decide +kernel
theorem dL_areAccounts_58 : decode cL_areAccounts 58 = .ok (.iload 9, 2) := by decide +kernel
theorem dL_areAccounts_60 : decode cL_areAccounts 60 = .ok (.ifCond .eq 230, 3) := by decide +kernel
theorem dL_areAccounts_63 : decode cL_areAccounts 63 = .ok (.iconst 0, 1) := by decide +kernel
theorem dL_areAccounts_64 : decode cL_areAccounts 64 = .ok (.istore 11, 2) := by decide +kernel
theorem dL_areAccounts_66 : decode cL_areAccounts 66 = .ok (.iconst 0, 1) := by decide +kernel
theorem dL_areAccounts_67 : decode cL_areAccounts 67 = .ok (.istore 12, 2) := by decide +kernel
theorem dL_areAccounts_69 : decode cL_areAccounts 69 = .ok (.iconst 0, 1) := by decide +kernel
theorem dL_areAccounts_70 : decode cL_areAccounts 70 = .ok (.istore 13, 2) := by decide +kernel
theorem dL_areAccounts_72 : decode cL_areAccounts 72 = .ok (.iconst 0, 1) := by decide +kernel
theorem dL_areAccounts_73 : decode cL_areAccounts 73 = .ok (.istore 14, 2) := by decide +kernel
theorem dL_areAccounts_75 : decode cL_areAccounts 75 = .ok (.iload 14, 2) := by decide +kernel
theorem dL_areAccounts_77 : decode cL_areAccounts 77 = .ok (.aload_n 2, 1) := by decide +kernel
theorem dL_areAccounts_78 : decode cL_areAccounts 78 = .ok (.iconst 0, 1) := by decide +kernel
theorem dL_areAccounts_79 : decode cL_areAccounts 79 = .ok (.iaload, 1) := by decide +kernel
theorem dL_areAccounts_80 : decode cL_areAccounts 80 = .ok (.if_icmp .ge 61, 3) := by decide +kernel
theorem dL_areAccounts_83 : decode cL_areAccounts 83 = .ok (.aload_n 1, 1) := by decide +kernel
theorem dL_areAccounts_84 : decode cL_areAccounts 84 = .ok (.iload 14, 2) := by decide +kernel
theorem dL_areAccounts_86 : decode cL_areAccounts 86 = .ok (.iaload, 1) := by decide +kernel
theorem dL_areAccounts_87 : decode cL_areAccounts 87 = .ok (.aload 5, 2) := by decide +kernel
theorem dL_areAccounts_89 : decode cL_areAccounts 89 = .ok (.iload 10, 2) := by decide +kernel
theorem dL_areAccounts_91 : decode cL_areAccounts 91 = .ok (.iaload, 1) := by decide +kernel
theorem dL_areAccounts_92 : decode cL_areAccounts 92 = .ok (.invokestatic 23, 3) := by decide +kernel
theorem dL_areAccounts_95 : decode cL_areAccounts 95 = .ok (.istore 15, 2) := by decide +kernel
theorem dL_areAccounts_97 : decode cL_areAccounts 97 = .ok (.iload 11, 2) := by decide +kernel
theorem dL_areAccounts_99 : decode cL_areAccounts 99 = .ok (.iload 15, 2) := by decide +kernel
theorem dL_areAccounts_101 : decode cL_areAccounts 101 = .ok (.iadd, 1) := by decide +kernel
theorem dL_areAccounts_102 : decode cL_areAccounts 102 = .ok (.istore 11, 2) := by decide +kernel
theorem dL_areAccounts_104 : decode cL_areAccounts 104 = .ok (.iload 15, 2) := by decide +kernel
theorem dL_areAccounts_106 : decode cL_areAccounts 106 = .ok (.iload 12, 2) := by decide +kernel
theorem dL_areAccounts_108 : decode cL_areAccounts 108 = .ok (.if_icmp .le 8, 3) := by decide +kernel
theorem dL_areAccounts_111 : decode cL_areAccounts 111 = .ok (.iload 15, 2) := by decide +kernel
theorem dL_areAccounts_113 : decode cL_areAccounts 113 = .ok (.goto 5, 3) := by decide +kernel
theorem dL_areAccounts_116 : decode cL_areAccounts 116 = .ok (.iload 12, 2) := by decide +kernel
theorem dL_areAccounts_118 : decode cL_areAccounts 118 = .ok (.istore 12, 2) := by decide +kernel
theorem dL_areAccounts_120 : decode cL_areAccounts 120 = .ok (.iload 13, 2) := by decide +kernel
theorem dL_areAccounts_122 : decode cL_areAccounts 122 = .ok (.iload 15, 2) := by decide +kernel
theorem dL_areAccounts_124 : decode cL_areAccounts 124 = .ok (.ifCond .le 7, 3) := by decide +kernel
theorem dL_areAccounts_127 : decode cL_areAccounts 127 = .ok (.iconst 1, 1) := by decide +kernel
theorem dL_areAccounts_128 : decode cL_areAccounts 128 = .ok (.goto 4, 3) := by decide +kernel
theorem dL_areAccounts_131 : decode cL_areAccounts 131 = .ok (.iconst 0, 1) := by decide +kernel
theorem dL_areAccounts_132 : decode cL_areAccounts 132 = .ok (.iadd, 1) := by decide +kernel
theorem dL_areAccounts_133 : decode cL_areAccounts 133 = .ok (.istore 13, 2) := by decide +kernel
theorem dL_areAccounts_135 : decode cL_areAccounts 135 = .ok (.iinc 14 1, 3) := by decide +kernel
theorem dL_areAccounts_138 : decode cL_areAccounts 138 = .ok (.goto (-63), 3) := by decide +kernel
theorem dL_areAccounts_141 : decode cL_areAccounts 141 = .ok (.iload 6, 2) := by decide +kernel
theorem dL_areAccounts_143 : decode cL_areAccounts 143 = .ok (.aload_n 3, 1) := by decide +kernel
theorem dL_areAccounts_144 : decode cL_areAccounts 144 = .ok (.iload 10, 2) := by decide +kernel
theorem dL_areAccounts_146 : decode cL_areAccounts 146 = .ok (.iaload, 1) := by decide +kernel
theorem dL_areAccounts_147 : decode cL_areAccounts 147 = .ok (.iadd, 1) := by decide +kernel
theorem dL_areAccounts_148 : decode cL_areAccounts 148 = .ok (.istore 6, 2) := by decide +kernel
theorem dL_areAccounts_150 : decode cL_areAccounts 150 = .ok (.iload 7, 2) := by decide +kernel
theorem dL_areAccounts_152 : decode cL_areAccounts 152 = .ok (.aload_n 3, 1) := by decide +kernel
theorem dL_areAccounts_153 : decode cL_areAccounts 153 = .ok (.iload 10, 2) := by decide +kernel
theorem dL_areAccounts_155 : decode cL_areAccounts 155 = .ok (.iaload, 1) := by decide +kernel
theorem dL_areAccounts_156 : decode cL_areAccounts 156 = .ok (.ifCond .le 7, 3) := by decide +kernel
theorem dL_areAccounts_159 : decode cL_areAccounts 159 = .ok (.iconst 1, 1) := by decide +kernel
theorem dL_areAccounts_160 : decode cL_areAccounts 160 = .ok (.goto 4, 3) := by decide +kernel
theorem dL_areAccounts_163 : decode cL_areAccounts 163 = .ok (.iconst 0, 1) := by decide +kernel
theorem dL_areAccounts_164 : decode cL_areAccounts 164 = .ok (.iadd, 1) := by decide +kernel
theorem dL_areAccounts_165 : decode cL_areAccounts 165 = .ok (.istore 7, 2) := by decide +kernel
theorem dL_areAccounts_167 : decode cL_areAccounts 167 = .ok (.iload 8, 2) := by decide +kernel
theorem dL_areAccounts_169 : decode cL_areAccounts 169 = .ok (.iload 13, 2) := by decide +kernel
theorem dL_areAccounts_171 : decode cL_areAccounts 171 = .ok (.ifCond .le 7, 3) := by decide +kernel
theorem dL_areAccounts_174 : decode cL_areAccounts 174 = .ok (.iconst 1, 1) := by decide +kernel
theorem dL_areAccounts_175 : decode cL_areAccounts 175 = .ok (.goto 4, 3) := by decide +kernel
theorem dL_areAccounts_178 : decode cL_areAccounts 178 = .ok (.iconst 0, 1) := by decide +kernel
theorem dL_areAccounts_179 : decode cL_areAccounts 179 = .ok (.iadd, 1) := by decide +kernel
theorem dL_areAccounts_180 : decode cL_areAccounts 180 = .ok (.istore 8, 2) := by decide +kernel
theorem dL_areAccounts_182 : decode cL_areAccounts 182 = .ok (.aload 4, 2) := by decide +kernel
theorem dL_areAccounts_184 : decode cL_areAccounts 184 = .ok (.iload 10, 2) := by decide +kernel
theorem dL_areAccounts_186 : decode cL_areAccounts 186 = .ok (.iaload, 1) := by decide +kernel
theorem dL_areAccounts_187 : decode cL_areAccounts 187 = .ok (.aload_n 3, 1) := by decide +kernel
theorem dL_areAccounts_188 : decode cL_areAccounts 188 = .ok (.iload 10, 2) := by decide +kernel
theorem dL_areAccounts_190 : decode cL_areAccounts 190 = .ok (.iaload, 1) := by decide +kernel
theorem dL_areAccounts_191 : decode cL_areAccounts 191 = .ok (.iload 11, 2) := by decide +kernel
theorem dL_areAccounts_193 : decode cL_areAccounts 193 = .ok (.iadd, 1) := by decide +kernel
theorem dL_areAccounts_194 : decode cL_areAccounts 194 = .ok (.if_icmp .ne 87, 3) := by decide +kernel
theorem dL_areAccounts_197 : decode cL_areAccounts 197 = .ok (.aload_n 0, 1) := by decide +kernel
theorem dL_areAccounts_198 : decode cL_areAccounts 198 = .ok (.aload 5, 2) := by decide +kernel
theorem dL_areAccounts_200 : decode cL_areAccounts 200 = .ok (.iload 10, 2) := by decide +kernel
theorem dL_areAccounts_202 : decode cL_areAccounts 202 = .ok (.iaload, 1) := by decide +kernel
theorem dL_areAccounts_203 : decode cL_areAccounts 203 = .ok (.iconst 0, 1) := by decide +kernel
theorem dL_areAccounts_204 : decode cL_areAccounts 204 = .ok (.invokevirtual 71, 3) := by decide +kernel
theorem dL_areAccounts_207 : decode cL_areAccounts 207 = .ok (.aload_n 3, 1) := by decide +kernel
theorem dL_areAccounts_208 : decode cL_areAccounts 208 = .ok (.iload 10, 2) := by decide +kernel
theorem dL_areAccounts_210 : decode cL_areAccounts 210 = .ok (.iaload, 1) := by decide +kernel
theorem dL_areAccounts_211 : decode cL_areAccounts 211 = .ok (.if_icmp .ne 70, 3) := by decide +kernel
theorem dL_areAccounts_214 : decode cL_areAccounts 214 = .ok (.aload_n 0, 1) := by decide +kernel
theorem dL_areAccounts_215 : decode cL_areAccounts 215 = .ok (.aload 5, 2) := by decide +kernel
theorem dL_areAccounts_217 : decode cL_areAccounts 217 = .ok (.iload 10, 2) := by decide +kernel
theorem dL_areAccounts_219 : decode cL_areAccounts 219 = .ok (.iaload, 1) := by decide +kernel
theorem dL_areAccounts_220 : decode cL_areAccounts 220 = .ok (.iconst 1, 1) := by decide +kernel
theorem dL_areAccounts_221 : decode cL_areAccounts 221 = .ok (.invokevirtual 71, 3) := by decide +kernel
theorem dL_areAccounts_224 : decode cL_areAccounts 224 = .ok (.aload 4, 2) := by decide +kernel
theorem dL_areAccounts_226 : decode cL_areAccounts 226 = .ok (.iload 10, 2) := by decide +kernel
theorem dL_areAccounts_228 : decode cL_areAccounts 228 = .ok (.iaload, 1) := by decide +kernel
theorem dL_areAccounts_229 : decode cL_areAccounts 229 = .ok (.if_icmp .ne 52, 3) := by decide +kernel
theorem dL_areAccounts_232 : decode cL_areAccounts 232 = .ok (.aload_n 0, 1) := by decide +kernel
theorem dL_areAccounts_233 : decode cL_areAccounts 233 = .ok (.aload 5, 2) := by decide +kernel
theorem dL_areAccounts_235 : decode cL_areAccounts 235 = .ok (.iload 10, 2) := by decide +kernel
theorem dL_areAccounts_237 : decode cL_areAccounts 237 = .ok (.iaload, 1) := by decide +kernel
theorem dL_areAccounts_238 : decode cL_areAccounts 238 = .ok (.iconst 2, 1) := by decide +kernel
theorem dL_areAccounts_239 : decode cL_areAccounts 239 = .ok (.invokevirtual 71, 3) := by decide +kernel
theorem dL_areAccounts_242 : decode cL_areAccounts 242 = .ok (.iload 11, 2) := by decide +kernel
theorem dL_areAccounts_244 : decode cL_areAccounts 244 = .ok (.if_icmp .ne 37, 3) := by decide +kernel
theorem dL_areAccounts_247 : decode cL_areAccounts 247 = .ok (.aload_n 0, 1) := by decide +kernel
theorem dL_areAccounts_248 : decode cL_areAccounts 248 = .ok (.aload 5, 2) := by decide +kernel
theorem dL_areAccounts_250 : decode cL_areAccounts 250 = .ok (.iload 10, 2) := by decide +kernel
theorem dL_areAccounts_252 : decode cL_areAccounts 252 = .ok (.iaload, 1) := by decide +kernel
theorem dL_areAccounts_253 : decode cL_areAccounts 253 = .ok (.iconst 3, 1) := by decide +kernel
theorem dL_areAccounts_254 : decode cL_areAccounts 254 = .ok (.invokevirtual 71, 3) := by decide +kernel
theorem dL_areAccounts_257 : decode cL_areAccounts 257 = .ok (.iload 12, 2) := by decide +kernel
theorem dL_areAccounts_259 : decode cL_areAccounts 259 = .ok (.if_icmp .ne 22, 3) := by decide +kernel
theorem dL_areAccounts_262 : decode cL_areAccounts 262 = .ok (.aload_n 0, 1) := by decide +kernel
theorem dL_areAccounts_263 : decode cL_areAccounts 263 = .ok (.aload 5, 2) := by decide +kernel
theorem dL_areAccounts_265 : decode cL_areAccounts 265 = .ok (.iload 10, 2) := by decide +kernel
theorem dL_areAccounts_267 : decode cL_areAccounts 267 = .ok (.iaload, 1) := by decide +kernel
theorem dL_areAccounts_268 : decode cL_areAccounts 268 = .ok (.iconst 4, 1) := by decide +kernel
theorem dL_areAccounts_269 : decode cL_areAccounts 269 = .ok (.invokevirtual 71, 3) := by decide +kernel
theorem dL_areAccounts_272 : decode cL_areAccounts 272 = .ok (.iload 13, 2) := by decide +kernel
theorem dL_areAccounts_274 : decode cL_areAccounts 274 = .ok (.if_icmp .ne 7, 3) := by decide +kernel
theorem dL_areAccounts_277 : decode cL_areAccounts 277 = .ok (.iconst 1, 1) := by decide +kernel
theorem dL_areAccounts_278 : decode cL_areAccounts 278 = .ok (.goto 4, 3) := by decide +kernel
theorem dL_areAccounts_281 : decode cL_areAccounts 281 = .ok (.iconst 0, 1) := by decide +kernel
theorem dL_areAccounts_282 : decode cL_areAccounts 282 = .ok (.istore 9, 2) := by decide +kernel
theorem dL_areAccounts_284 : decode cL_areAccounts 284 = .ok (.iinc 10 1, 3) := by decide +kernel
theorem dL_areAccounts_287 : decode cL_areAccounts 287 = .ok (.goto (-236), 3) := by decide +kernel
theorem dL_areAccounts_290 : decode cL_areAccounts 290 = .ok (.iload 9, 2) := by decide +kernel
theorem dL_areAccounts_292 : decode cL_areAccounts 292 = .ok (.ifCond .eq 39, 3) := by decide +kernel
theorem dL_areAccounts_295 : decode cL_areAccounts 295 = .ok (.aload_n 0, 1) := by decide +kernel
theorem dL_areAccounts_296 : decode cL_areAccounts 296 = .ok (.iconst 5, 1) := by decide +kernel
theorem dL_areAccounts_297 : decode cL_areAccounts 297 = .ok (.invokevirtual 53, 3) := by decide +kernel
theorem dL_areAccounts_300 : decode cL_areAccounts 300 = .ok (.iload 6, 2) := by decide +kernel
theorem dL_areAccounts_302 : decode cL_areAccounts 302 = .ok (.if_icmp .ne 29, 3) := by decide +kernel
theorem dL_areAccounts_305 : decode cL_areAccounts 305 = .ok (.aload_n 0, 1) := by decide +kernel
theorem dL_areAccounts_306 : decode cL_areAccounts 306 = .ok (.bipush 6, 2) := by decide +kernel
theorem dL_areAccounts_308 : decode cL_areAccounts 308 = .ok (.invokevirtual 53, 3) := by decide +kernel
theorem dL_areAccounts_311 : decode cL_areAccounts 311 = .ok (.iload 7, 2) := by decide +kernel
theorem dL_areAccounts_313 : decode cL_areAccounts 313 = .ok (.if_icmp .ne 18, 3) := by decide +kernel
theorem dL_areAccounts_316 : decode cL_areAccounts 316 = .ok (.aload_n 0, 1) := by decide +kernel
theorem dL_areAccounts_317 : decode cL_areAccounts 317 = .ok (.bipush 8, 2) := by decide +kernel
theorem dL_areAccounts_319 : decode cL_areAccounts 319 = .ok (.invokevirtual 53, 3) := by decide +kernel
theorem dL_areAccounts_322 : decode cL_areAccounts 322 = .ok (.iload 8, 2) := by decide +kernel
theorem dL_areAccounts_324 : decode cL_areAccounts 324 = .ok (.if_icmp .ne 7, 3) := by decide +kernel
theorem dL_areAccounts_327 : decode cL_areAccounts 327 = .ok (.iconst 1, 1) := by decide +kernel
theorem dL_areAccounts_328 : decode cL_areAccounts 328 = .ok (.goto 4, 3) := by decide +kernel
theorem dL_areAccounts_331 : decode cL_areAccounts 331 = .ok (.iconst 0, 1) := by decide +kernel
theorem dL_areAccounts_332 : decode cL_areAccounts 332 = .ok (.ireturn, 1) := by decide +kernel
set_option maxRecDepth 20000 in
theorem ggL_isActed_L_number : GoodIn wsL_isActed wsL_number := goodIn_r _ [4] (by decide +kernel) (by decide +kernel)
set_option maxRecDepth 20000 in
theorem gL_isActed_L_number : GoodIn wsL_isActed (va_wsS RL 74 yL_number wsL_number) := goodIn_app (goodIn_of _ (by decide +kernel)) ggL_isActed_L_number
set_option maxRecDepth 20000 in
theorem ggL_isActed_L_put : GoodIn wsL_isActed wsL_put := goodIn_r _ [7] (by decide +kernel) (by decide +kernel)
set_option maxRecDepth 20000 in
theorem gL_isActed_L_put : GoodIn wsL_isActed (va_wsS RL 78 yL_put wsL_put) := goodIn_app (goodIn_of _ (by decide +kernel)) ggL_isActed_L_put
set_option maxRecDepth 20000 in
theorem ggL_isActed_L_account : GoodIn wsL_isActed wsL_account := goodIn_r _ [10, 11, 12, 3, 13] (by decide +kernel) (by decide +kernel)
set_option maxRecDepth 20000 in
theorem gL_isActed_L_account : GoodIn wsL_isActed (va_wsS RL 30 yL_account wsL_account) := goodIn_app (goodIn_of _ (by decide +kernel)) ggL_isActed_L_account
set_option maxRecDepth 20000 in
theorem ggL_isActed_X8_add : GoodIn wsL_isActed wsX8_add := goodIn_r _ [18, 19, 20, 21, 22, 23, 24, 25, 26, 27, 28, 29, 30, 31, 32, 33, 34, 35, 36, 37, 38, 39, 40, 41, 42, 43, 44, 45, 46, 47, 48, 49, 50, 51, 52, 53, 54, 55, 56, 57, 58, 59, 60, 61, 62, 63, 64, 65, 66, 67, 68, 69, 70, 71, 72, 73, 74, 75, 76, 77, 78, 79, 80, 81, 82, 83, 84, 85, 86, 87, 88, 89, 90, 91, 92, 93, 94, 95, 96, 97, 98, 99, 100, 101, 102, 103, 104, 105, 106, 107, 108, 109, 110, 111, 112, 113, 114, 115, 225, 226, 227, 228, 229, 230, 231, 232, 233, 234, 235, 236, 237, 238, 239, 240, 241, 242, 243, 244, 245, 246, 247, 248] (by decide +kernel) (by decide +kernel)
set_option maxRecDepth 20000 in
theorem gL_isActed_X8_add : GoodIn wsL_isActed (wsV RL 81 RX8 yX8_add wsX8_add) := goodIn_app (goodIn_of _ (by decide +kernel)) ggL_isActed_X8_add
set_option maxRecDepth 20000 in
theorem ggL_isActed_L_out : GoodIn wsL_isActed wsL_out := goodIn_r _ [118] (by decide +kernel) (by decide +kernel)
set_option maxRecDepth 20000 in
theorem gL_isActed_L_out : GoodIn wsL_isActed (va_wsS RL 26 yL_out wsL_out) := goodIn_app (goodIn_of _ (by decide +kernel)) ggL_isActed_L_out
set_option maxRecDepth 20000 in
theorem ggL_isActed_X8_take : GoodIn wsL_isActed wsX8_take := goodIn_r _ [122, 19, 20, 21, 22, 23, 24, 25, 26, 27, 28, 29, 30, 31, 32, 33, 34, 35, 36, 37, 38, 39, 40, 41, 42, 43, 44, 45, 46, 47, 48, 49, 50, 51, 52, 53, 54, 55, 56, 57, 58, 59, 60, 61, 62, 63, 64, 65, 66, 67, 68, 69, 70, 71, 72, 73, 74, 75, 76, 77, 78, 123, 124, 125, 126, 127, 128, 129, 130, 131, 132, 133, 134, 89, 90, 91, 92, 93, 94, 85, 95, 96, 97, 98, 99, 100, 101, 102, 103, 104, 105, 106, 107, 108, 109, 110, 111, 135, 136, 137, 138, 87, 88, 112, 113, 114, 115, 225, 226, 227, 228, 229, 230, 231, 232, 233, 234, 235, 236, 237, 238, 239, 240, 241, 242, 243, 244, 245, 246, 247, 248] (by decide +kernel) (by decide +kernel)
set_option maxRecDepth 20000 in
theorem gL_isActed_X8_take : GoodIn wsL_isActed (wsV RL 84 RX8 yX8_take wsX8_take) := goodIn_app (goodIn_of _ (by decide +kernel)) ggL_isActed_X8_take
set_option maxRecDepth 20000 in
theorem ggL_isActed_L_share : GoodIn wsL_isActed wsL_share := goodIn_r _ [141, 142, 143, 3, 144] (by decide +kernel) (by decide +kernel)
set_option maxRecDepth 20000 in
theorem gL_isActed_L_share : GoodIn wsL_isActed (va_wsS RL 41 yL_share wsL_share) := goodIn_app (goodIn_of _ (by decide +kernel)) ggL_isActed_L_share
set_option maxRecDepth 20000 in
theorem ggL_isActed_X8_share : GoodIn wsL_isActed wsX8_share := goodIn_r _ [148, 19, 20, 21, 22, 23, 24, 25, 26, 27, 28, 29, 30, 31, 32, 33, 34, 35, 36, 37, 38, 39, 40, 41, 42, 43, 44, 45, 46, 47, 48, 49, 50, 51, 52, 53, 54, 55, 56, 57, 58, 59, 60, 61, 62, 63, 64, 65, 66, 67, 68, 69, 70, 71, 72, 73, 74, 75, 76, 77, 78, 149, 150, 151, 152, 127, 128, 129, 130, 131, 132, 133, 134, 153, 154, 85, 155, 156, 157, 158, 159, 110, 111, 160, 88, 112, 113, 114, 115, 225, 226, 227, 228, 229, 230, 231, 232, 233, 234, 235, 236, 237, 238, 239, 240, 241, 242, 243, 244, 245, 246, 247, 248] (by decide +kernel) (by decide +kernel)
set_option maxRecDepth 20000 in
theorem gL_isActed_X8_share : GoodIn wsL_isActed (wsV RL 87 RX8 yX8_share wsX8_share) := goodIn_app (goodIn_of _ (by decide +kernel)) ggL_isActed_X8_share
set_option maxRecDepth 20000 in
theorem ggL_isActed_L_divide : GoodIn wsL_isActed wsL_divide := goodIn_r _ [163, 8, 9, 3, 10, 11, 12, 13, 164, 165, 166, 116, 117, 118] (by decide +kernel) (by decide +kernel)
set_option maxRecDepth 20000 in
theorem gL_isActed_L_divide : GoodIn wsL_isActed (va_wsS RL 89 yL_divide wsL_divide) := goodIn_app (goodIn_of _ (by decide +kernel)) ggL_isActed_L_divide
set_option maxRecDepth 20000 in
theorem ggL_isActed_X8_divide : GoodIn wsL_isActed wsX8_divide := goodIn_r _ [170, 19, 20, 21, 22, 23, 24, 25, 26, 27, 28, 29, 30, 31, 32, 33, 34, 35, 36, 37, 38, 39, 40, 41, 42, 43, 44, 45, 46, 47, 48, 49, 50, 51, 52, 53, 54, 55, 56, 57, 58, 59, 60, 61, 62, 63, 64, 65, 66, 67, 68, 69, 70, 71, 72, 73, 74, 75, 76, 77, 78, 171, 172, 173, 174, 127, 128, 129, 130, 131, 132, 133, 134, 175, 97, 85, 98, 176, 177, 178, 179, 180, 110, 111, 89, 90, 91, 92, 93, 94, 95, 96, 99, 100, 101, 102, 103, 104, 105, 106, 107, 108, 109, 135, 136, 137, 138, 87, 88, 112, 113, 114, 115, 225, 226, 227, 228, 229, 230, 231, 232, 233, 234, 235, 236, 237, 238, 239, 240, 241, 242, 243, 244, 245, 246, 247, 248] (by decide +kernel) (by decide +kernel)
set_option maxRecDepth 20000 in
theorem gL_isActed_X8_divide : GoodIn wsL_isActed (wsV RL 93 RX8 yX8_divide wsX8_divide) := goodIn_app (goodIn_of _ (by decide +kernel)) ggL_isActed_X8_divide
set_option maxRecDepth 20000 in
theorem ggL_isActed_L_strike : GoodIn wsL_isActed wsL_strike := goodIn_r _ [183, 164, 165, 3, 166, 116, 117, 118] (by decide +kernel) (by decide +kernel)
set_option maxRecDepth 20000 in
theorem gL_isActed_L_strike : GoodIn wsL_isActed (va_wsS RL 95 yL_strike wsL_strike) := goodIn_app (goodIn_of _ (by decide +kernel)) ggL_isActed_L_strike
set_option maxRecDepth 20000 in
theorem ggL_isActed_X8_strike : GoodIn wsL_isActed wsX8_strike := goodIn_r _ [187, 19, 20, 21, 22, 23, 24, 25, 26, 27, 28, 29, 30, 31, 32, 33, 34, 35, 36, 37, 38, 39, 40, 41, 42, 43, 44, 45, 46, 47, 48, 49, 50, 51, 52, 53, 54, 55, 56, 57, 58, 59, 60, 61, 62, 63, 64, 65, 66, 67, 68, 69, 70, 71, 72, 73, 74, 75, 76, 77, 78, 188, 189, 190, 191, 127, 128, 129, 130, 192, 193, 85, 194, 195, 94, 95, 96, 97, 98, 131, 132, 133, 134, 175, 176, 177, 178, 179, 180, 110, 111, 89, 90, 91, 92, 93, 99, 100, 101, 102, 103, 104, 105, 106, 107, 108, 109, 135, 136, 137, 138, 87, 88, 112, 113, 114, 115, 225, 226, 227, 228, 229, 230, 231, 232, 233, 234, 235, 236, 237, 238, 239, 240, 241, 242, 243, 244, 245, 246, 247, 248] (by decide +kernel) (by decide +kernel)
set_option maxRecDepth 20000 in
theorem gL_isActed_X8_strike : GoodIn wsL_isActed (wsV RL 99 RX8 yX8_strike wsX8_strike) := goodIn_app (goodIn_of _ (by decide +kernel)) ggL_isActed_X8_strike
set_option maxRecDepth 20000 in
theorem ggL_isActed_L_settle : GoodIn wsL_isActed wsL_settle := goodIn_r _ [198, 77, 199, 200, 3, 201, 139, 140, 141, 142, 143, 144] (by decide +kernel) (by decide +kernel)
set_option maxRecDepth 20000 in
theorem gL_isActed_L_settle : GoodIn wsL_isActed (va_wsS RL 101 yL_settle wsL_settle) := goodIn_app (goodIn_of _ (by decide +kernel)) ggL_isActed_L_settle
set_option maxRecDepth 20000 in
theorem ggL_isActed_X8_settle : GoodIn wsL_isActed wsX8_settle := goodIn_r _ [205, 206, 20, 19, 207, 34, 35, 36, 37, 38, 39, 40, 41, 42, 43, 44, 45, 46, 47, 48, 49, 50, 51, 52, 53, 54, 55, 56, 57, 58, 59, 60, 61, 62, 63, 64, 65, 66, 67, 68, 69, 70, 71, 72, 73, 74, 75, 76, 77, 78, 208, 209, 210, 211, 212, 213, 214, 215, 131, 132, 133, 134, 175, 97, 85, 98, 216, 150, 151, 152, 127, 128, 129, 130, 153, 154, 155, 156, 157, 158, 159, 110, 111, 160, 88, 21, 22, 23, 24, 25, 26, 27, 28, 29, 30, 31, 32, 33, 112, 113, 114, 115, 225, 226, 227, 228, 229, 230, 231, 232, 233, 234, 235, 239, 240, 241, 242, 243, 244, 245, 246, 247, 248, 236, 237, 238] (by decide +kernel) (by decide +kernel)
set_option maxRecDepth 20000 in
theorem gL_isActed_X8_settle : GoodIn wsL_isActed (wsV RL 105 RX8 yX8_settle wsX8_settle) := goodIn_app (goodIn_of _ (by decide +kernel)) ggL_isActed_X8_settle
set_option maxRecDepth 20000 in
theorem ggL_isActed_X8_set : GoodIn wsL_isActed wsX8_set := goodIn_r _ [220, 19, 20, 21, 22, 23, 24, 25, 26, 27, 28, 29, 30, 31, 32, 33, 34, 35, 36, 37, 38, 39, 40, 41, 42, 43, 44, 45, 46, 47, 48, 49, 50, 51, 52, 53, 54, 55, 56, 57, 58, 59, 60, 61, 62, 63, 64, 65, 66, 67, 68, 69, 70, 71, 72, 73, 74, 75, 76, 77, 78, 221, 222, 223, 224, 112, 113, 114, 115, 225, 226, 227, 228, 229, 230, 231, 232, 233, 234, 235, 236, 237, 238, 239, 240, 241, 242, 243, 244, 245, 246, 247, 248] (by decide +kernel) (by decide +kernel)
set_option maxRecDepth 20000 in
theorem gL_isActed_X8_set : GoodIn wsL_isActed (wsV RL 107 RX8 yX8_set wsX8_set) := goodIn_app (goodIn_of _ (by decide +kernel)) ggL_isActed_X8_set
theorem dL_isActed_0 : decode cL_isActed 0 = .ok (.iload 7, 2) := by decide +kernel
theorem dL_isActed_2 : decode cL_isActed 2 = .ok (.bipush 12, 2) := by decide +kernel
theorem dL_isActed_4 : decode cL_isActed 4 = .ok (.irem, 1) := by decide +kernel
theorem dL_isActed_5 : decode cL_isActed 5 = .ok (.istore 8, 2) := by decide +kernel
theorem dL_isActed_7 : decode cL_isActed 7 = .ok (.iload 7, 2) := by decide +kernel
theorem dL_isActed_9 : decode cL_isActed 9 = .ok (.bipush 12, 2) := by decide +kernel
theorem dL_isActed_11 : decode cL_isActed 11 = .ok (.idiv, 1) := by decide +kernel
theorem dL_isActed_12 : decode cL_isActed 12 = .ok (.istore 9, 2) := by decide +kernel
theorem dL_isActed_14 : decode cL_isActed 14 = .ok (.iload 6, 2) := by decide +kernel
theorem dL_isActed_16 : decode cL_isActed 16 = .ok (.bipush 6, 2) := by decide +kernel
theorem dL_isActed_18 : decode cL_isActed 18 = .ok (.if_icmp .ge 97, 3) := by decide +kernel
theorem dL_isActed_21 : decode cL_isActed 21 = .ok (.iload 7, 2) := by decide +kernel
theorem dL_isActed_23 : decode cL_isActed 23 = .ok (.aload_n 2, 1) := by decide +kernel
theorem dL_isActed_24 : decode cL_isActed 24 = .ok (.iconst 0, 1) := by decide +kernel
theorem dL_isActed_25 : decode cL_isActed 25 = .ok (.iaload, 1) := by decide +kernel
theorem dL_isActed_26 : decode cL_isActed 26 = .ok (.iconst 1, 1) := by decide +kernel
theorem dL_isActed_27 : decode cL_isActed 27 = .ok (.iadd, 1) := by decide +kernel
theorem dL_isActed_28 : decode cL_isActed 28 = .ok (.irem, 1) := by decide +kernel
theorem dL_isActed_29 : decode cL_isActed 29 = .ok (.istore 10, 2) := by decide +kernel
theorem dL_isActed_31 : decode cL_isActed 31 = .ok (.iload 7, 2) := by decide +kernel
theorem dL_isActed_33 : decode cL_isActed 33 = .ok (.aload_n 2, 1) := by decide +kernel
theorem dL_isActed_34 : decode cL_isActed 34 = .ok (.iconst 0, 1) := by decide +kernel
theorem dL_isActed_35 : decode cL_isActed 35 = .ok (.iaload, 1) := by decide +kernel
theorem dL_isActed_36 : decode cL_isActed 36 = .ok (.iconst 1, 1) := by decide +kernel
theorem dL_isActed_37 : decode cL_isActed 37 = .ok (.iadd, 1) := by decide +kernel
theorem dL_isActed_38 : decode cL_isActed 38 = .ok (.idiv, 1) := by decide +kernel
theorem dL_isActed_39 : decode cL_isActed 39 = .ok (.aload 5, 2) := by decide +kernel
theorem dL_isActed_41 : decode cL_isActed 41 = .ok (.invokestatic 74, 3) := by decide +kernel
theorem dL_isActed_44 : decode cL_isActed 44 = .ok (.istore 11, 2) := by decide +kernel
theorem dL_isActed_46 : decode cL_isActed 46 = .ok (.aload_n 2, 1) := by decide +kernel
theorem dL_isActed_47 : decode cL_isActed 47 = .ok (.iconst 0, 1) := by decide +kernel
theorem dL_isActed_48 : decode cL_isActed 48 = .ok (.iaload, 1) := by decide +kernel
theorem dL_isActed_49 : decode cL_isActed 49 = .ok (.bipush 12, 2) := by decide +kernel
theorem dL_isActed_51 : decode cL_isActed 51 = .ok (.if_icmp .ne 7, 3) := by decide +kernel
theorem dL_isActed_54 : decode cL_isActed 54 = .ok (.iconst 1, 1) := by decide +kernel
theorem dL_isActed_55 : decode cL_isActed 55 = .ok (.goto 4, 3) := by decide +kernel
theorem dL_isActed_58 : decode cL_isActed 58 = .ok (.iconst 0, 1) := by decide +kernel
theorem dL_isActed_59 : decode cL_isActed 59 = .ok (.istore 12, 2) := by decide +kernel
theorem dL_isActed_61 : decode cL_isActed 61 = .ok (.iload 12, 2) := by decide +kernel
theorem dL_isActed_63 : decode cL_isActed 63 = .ok (.ifCond .ne 22, 3) := by decide +kernel
theorem dL_isActed_66 : decode cL_isActed 66 = .ok (.aload_n 1, 1) := by decide +kernel
theorem dL_isActed_67 : decode cL_isActed 67 = .ok (.aload_n 2, 1) := by decide +kernel
theorem dL_isActed_68 : decode cL_isActed 68 = .ok (.iload 10, 2) := by decide +kernel
theorem dL_isActed_70 : decode cL_isActed 70 = .ok (.iload 11, 2) := by decide +kernel
theorem dL_isActed_72 : decode cL_isActed 72 = .ok (.invokestatic 78, 3) := by decide +kernel
theorem dL_isActed_75 : decode cL_isActed 75 = .ok (.aload 4, 2) := by decide +kernel
theorem dL_isActed_77 : decode cL_isActed 77 = .ok (.aload 5, 2) := by decide +kernel
theorem dL_isActed_79 : decode cL_isActed 79 = .ok (.iload 11, 2) := by decide +kernel
theorem dL_isActed_81 : decode cL_isActed 81 = .ok (.iconst 1, 1) := by decide +kernel
theorem dL_isActed_82 : decode cL_isActed 82 = .ok (.invokestatic 30, 3) := by decide +kernel
theorem dL_isActed_85 : decode cL_isActed 85 = .ok (.aload_n 0, 1) := by decide +kernel
theorem dL_isActed_86 : decode cL_isActed 86 = .ok (.iload 10, 2) := by decide +kernel
theorem dL_isActed_88 : decode cL_isActed 88 = .ok (.iload 11, 2) := by decide +kernel
theorem dL_isActed_90 : decode cL_isActed 90 = .ok (.invokevirtual 81, 3) := by decide +kernel
theorem dL_isActed_93 : decode cL_isActed 93 = .ok (.iload 12, 2) := by decide +kernel
theorem dL_isActed_95 : decode cL_isActed 95 = .ok (.ifCond .eq 8, 3) := by decide +kernel
theorem dL_isActed_98 : decode cL_isActed 98 = .ok (.bipush (-3), 2) := by decide +kernel
theorem dL_isActed_100 : decode cL_isActed 100 = .ok (.goto 6, 3) := by decide +kernel
theorem dL_isActed_103 : decode cL_isActed 103 = .ok (.aload_n 2, 1) := by decide +kernel
theorem dL_isActed_104 : decode cL_isActed 104 = .ok (.iconst 0, 1) := by decide +kernel
theorem dL_isActed_105 : decode cL_isActed 105 = .ok (.iaload, 1) := by decide +kernel
theorem dL_isActed_106 : decode cL_isActed 106 = .ok (.if_icmp .ne 7, 3) := by decide +kernel
theorem dL_isActed_109 : decode cL_isActed 109 = .ok (.iconst 1, 1) := by decide +kernel
theorem dL_isActed_110 : decode cL_isActed 110 = .ok (.goto 4, 3) := by decide +kernel
theorem dL_isActed_113 : decode cL_isActed 113 = .ok (.iconst 0, 1) := by decide +kernel
theorem dL_isActed_114 : decode cL_isActed 114 = .ok (.ireturn, 1) := by decide +kernel
theorem dL_isActed_115 : decode cL_isActed 115 = .ok (.iload 6, 2) := by decide +kernel
theorem dL_isActed_117 : decode cL_isActed 117 = .ok (.bipush 6, 2) := by decide +kernel
theorem dL_isActed_119 : decode cL_isActed 119 = .ok (.if_icmp .ne 63, 3) := by decide +kernel
theorem dL_isActed_122 : decode cL_isActed 122 = .ok (.iload 8, 2) := by decide +kernel
theorem dL_isActed_124 : decode cL_isActed 124 = .ok (.aload_n 2, 1) := by decide +kernel
theorem dL_isActed_125 : decode cL_isActed 125 = .ok (.iconst 0, 1) := by decide +kernel
theorem dL_isActed_126 : decode cL_isActed 126 = .ok (.iaload, 1) := by decide +kernel
theorem dL_isActed_127 : decode cL_isActed 127 = .ok (.if_icmp .ge 10, 3) := by decide +kernel
theorem dL_isActed_130 : decode cL_isActed 130 = .ok (.aload_n 1, 1) := by decide +kernel
theorem dL_isActed_131 : decode cL_isActed 131 = .ok (.iload 8, 2) := by decide +kernel
theorem dL_isActed_133 : decode cL_isActed 133 = .ok (.iaload, 1) := by decide +kernel
theorem dL_isActed_134 : decode cL_isActed 134 = .ok (.goto 4, 3) := by decide +kernel
theorem dL_isActed_137 : decode cL_isActed 137 = .ok (.iconst (-1), 1) := by decide +kernel
theorem dL_isActed_138 : decode cL_isActed 138 = .ok (.istore 10, 2) := by decide +kernel
theorem dL_isActed_140 : decode cL_isActed 140 = .ok (.iload 8, 2) := by decide +kernel
theorem dL_isActed_142 : decode cL_isActed 142 = .ok (.aload_n 2, 1) := by decide +kernel
theorem dL_isActed_143 : decode cL_isActed 143 = .ok (.iconst 0, 1) := by decide +kernel
theorem dL_isActed_144 : decode cL_isActed 144 = .ok (.iaload, 1) := by decide +kernel
theorem dL_isActed_145 : decode cL_isActed 145 = .ok (.if_icmp .ge 20, 3) := by decide +kernel
theorem dL_isActed_148 : decode cL_isActed 148 = .ok (.aload_n 1, 1) := by decide +kernel
theorem dL_isActed_149 : decode cL_isActed 149 = .ok (.aload_n 2, 1) := by decide +kernel
theorem dL_isActed_150 : decode cL_isActed 150 = .ok (.iload 8, 2) := by decide +kernel
theorem dL_isActed_152 : decode cL_isActed 152 = .ok (.invokestatic 26, 3) := by decide +kernel
theorem dL_isActed_155 : decode cL_isActed 155 = .ok (.aload 4, 2) := by decide +kernel
theorem dL_isActed_157 : decode cL_isActed 157 = .ok (.aload 5, 2) := by decide +kernel
theorem dL_isActed_159 : decode cL_isActed 159 = .ok (.iload 10, 2) := by decide +kernel
theorem dL_isActed_161 : decode cL_isActed 161 = .ok (.iconst (-1), 1) := by decide +kernel
theorem dL_isActed_162 : decode cL_isActed 162 = .ok (.invokestatic 30, 3) := by decide +kernel
theorem dL_isActed_165 : decode cL_isActed 165 = .ok (.aload_n 0, 1) := by decide +kernel
theorem dL_isActed_166 : decode cL_isActed 166 = .ok (.iload 8, 2) := by decide +kernel
theorem dL_isActed_168 : decode cL_isActed 168 = .ok (.invokevirtual 84, 3) := by decide +kernel
theorem dL_isActed_171 : decode cL_isActed 171 = .ok (.iload 10, 2) := by decide +kernel
theorem dL_isActed_173 : decode cL_isActed 173 = .ok (.if_icmp .ne 7, 3) := by decide +kernel
theorem dL_isActed_176 : decode cL_isActed 176 = .ok (.iconst 1, 1) := by decide +kernel
theorem dL_isActed_177 : decode cL_isActed 177 = .ok (.goto 4, 3) := by decide +kernel
theorem dL_isActed_180 : decode cL_isActed 180 = .ok (.iconst 0, 1) := by decide +kernel
theorem dL_isActed_181 : decode cL_isActed 181 = .ok (.ireturn, 1) := by decide +kernel
theorem dL_isActed_182 : decode cL_isActed 182 = .ok (.iload 6, 2) := by decide +kernel
theorem dL_isActed_184 : decode cL_isActed 184 = .ok (.bipush 10, 2) := by decide +kernel
theorem dL_isActed_186 : decode cL_isActed 186 = .ok (.if_icmp .ge 29, 3) := by decide +kernel
theorem dL_isActed_189 : decode cL_isActed 189 = .ok (.aload_n 1, 1) := by decide +kernel
theorem dL_isActed_190 : decode cL_isActed 190 = .ok (.aload_n 2, 1) := by decide +kernel
theorem dL_isActed_191 : decode cL_isActed 191 = .ok (.iload 8, 2) := by decide +kernel
theorem dL_isActed_193 : decode cL_isActed 193 = .ok (.invokestatic 41, 3) := by decide +kernel
theorem dL_isActed_196 : decode cL_isActed 196 = .ok (.istore 10, 2) := by decide +kernel
theorem dL_isActed_198 : decode cL_isActed 198 = .ok (.aload_n 0, 1) := by decide +kernel
theorem dL_isActed_199 : decode cL_isActed 199 = .ok (.iload 8, 2) := by decide +kernel
theorem dL_isActed_201 : decode cL_isActed 201 = .ok (.invokevirtual 87, 3) := by decide +kernel
theorem dL_isActed_204 : decode cL_isActed 204 = .ok (.iload 10, 2) := by decide +kernel
theorem dL_isActed_206 : decode cL_isActed 206 = .ok (.if_icmp .ne 7, 3) := by decide +kernel
theorem dL_isActed_209 : decode cL_isActed 209 = .ok (.iconst 1, 1) := by decide +kernel
theorem dL_isActed_210 : decode cL_isActed 210 = .ok (.goto 4, 3) := by decide +kernel
theorem dL_isActed_213 : decode cL_isActed 213 = .ok (.iconst 0, 1) := by decide +kernel
theorem dL_isActed_214 : decode cL_isActed 214 = .ok (.ireturn, 1) := by decide +kernel
theorem dL_isActed_215 : decode cL_isActed 215 = .ok (.iload 6, 2) := by decide +kernel
theorem dL_isActed_217 : decode cL_isActed 217 = .ok (.bipush 13, 2) := by decide +kernel
theorem dL_isActed_219 : decode cL_isActed 219 = .ok (.if_icmp .ge 32, 3) := by decide +kernel
theorem dL_isActed_222 : decode cL_isActed 222 = .ok (.aload_n 1, 1) := by decide +kernel
theorem dL_isActed_223 : decode cL_isActed 223 = .ok (.aload_n 2, 1) := by decide +kernel
theorem dL_isActed_224 : decode cL_isActed 224 = .ok (.aload_n 3, 1) := by decide +kernel
theorem dL_isActed_225 : decode cL_isActed 225 = .ok (.aload 5, 2) := by decide +kernel
theorem dL_isActed_227 : decode cL_isActed 227 = .ok (.iload 8, 2) := by decide +kernel
theorem dL_isActed_229 : decode cL_isActed 229 = .ok (.invokestatic 89, 3) := by decide +kernel
theorem dL_isActed_232 : decode cL_isActed 232 = .ok (.istore 10, 2) := by decide +kernel
theorem dL_isActed_234 : decode cL_isActed 234 = .ok (.aload_n 0, 1) := by decide +kernel
theorem dL_isActed_235 : decode cL_isActed 235 = .ok (.iload 8, 2) := by decide +kernel
theorem dL_isActed_237 : decode cL_isActed 237 = .ok (.invokevirtual 93, 3) := by decide +kernel
theorem dL_isActed_240 : decode cL_isActed 240 = .ok (.iload 10, 2) := by decide +kernel
theorem dL_isActed_242 : decode cL_isActed 242 = .ok (.if_icmp .ne 7, 3) := by decide +kernel
theorem dL_isActed_245 : decode cL_isActed 245 = .ok (.iconst 1, 1) := by decide +kernel
theorem dL_isActed_246 : decode cL_isActed 246 = .ok (.goto 4, 3) := by decide +kernel
theorem dL_isActed_249 : decode cL_isActed 249 = .ok (.iconst 0, 1) := by decide +kernel
theorem dL_isActed_250 : decode cL_isActed 250 = .ok (.ireturn, 1) := by decide +kernel
theorem dL_isActed_251 : decode cL_isActed 251 = .ok (.iload 6, 2) := by decide +kernel
theorem dL_isActed_253 : decode cL_isActed 253 = .ok (.bipush 16, 2) := by decide +kernel
theorem dL_isActed_255 : decode cL_isActed 255 = .ok (.if_icmp .ge 64, 3) := by decide +kernel
theorem dL_isActed_258 : decode cL_isActed 258 = .ok (.iload 9, 2) := by decide +kernel
theorem dL_isActed_260 : decode cL_isActed 260 = .ok (.iconst 3, 1) := by decide +kernel
theorem dL_isActed_261 : decode cL_isActed 261 = .ok (.irem, 1) := by decide +kernel
theorem dL_isActed_262 : decode cL_isActed 262 = .ok (.ifCond .ne 13, 3) := by decide +kernel
theorem dL_isActed_265 : decode cL_isActed 265 = .ok (.iload 9, 2) := by decide +kernel
theorem dL_isActed_267 : decode cL_isActed 267 = .ok (.iconst 3, 1) := by decide +kernel
theorem dL_isActed_268 : decode cL_isActed 268 = .ok (.idiv, 1) := by decide +kernel
theorem dL_isActed_269 : decode cL_isActed 269 = .ok (.bipush 25, 2) := by decide +kernel
theorem dL_isActed_271 : decode cL_isActed 271 = .ok (.irem, 1) := by decide +kernel
theorem dL_isActed_272 : decode cL_isActed 272 = .ok (.goto 9, 3) := by decide +kernel
theorem dL_isActed_275 : decode cL_isActed 275 = .ok (.iload 9, 2) := by decide +kernel
theorem dL_isActed_277 : decode cL_isActed 277 = .ok (.iconst 3, 1) := by decide +kernel
theorem dL_isActed_278 : decode cL_isActed 278 = .ok (.idiv, 1) := by decide +kernel
theorem dL_isActed_279 : decode cL_isActed 279 = .ok (.iconst 4, 1) := by decide +kernel
theorem dL_isActed_280 : decode cL_isActed 280 = .ok (.irem, 1) := by decide +kernel
theorem dL_isActed_281 : decode cL_isActed 281 = .ok (.istore 10, 2) := by decide +kernel
theorem dL_isActed_283 : decode cL_isActed 283 = .ok (.aload_n 1, 1) := by decide +kernel
theorem dL_isActed_284 : decode cL_isActed 284 = .ok (.aload_n 2, 1) := by decide +kernel
theorem dL_isActed_285 : decode cL_isActed 285 = .ok (.aload_n 3, 1) := by decide +kernel
theorem dL_isActed_286 : decode cL_isActed 286 = .ok (.aload 5, 2) := by decide +kernel
theorem dL_isActed_288 : decode cL_isActed 288 = .ok (.iload 8, 2) := by decide +kernel
theorem dL_isActed_290 : decode cL_isActed 290 = .ok (.iload 10, 2) := by decide +kernel
theorem dL_isActed_292 : decode cL_isActed 292 = .ok (.invokestatic 95, 3) := by decide +kernel
theorem dL_isActed_295 : decode cL_isActed 295 = .ok (.istore 11, 2) := by decide +kernel
theorem dL_isActed_297 : decode cL_isActed 297 = .ok (.aload_n 0, 1) := by decide +kernel
theorem dL_isActed_298 : decode cL_isActed 298 = .ok (.iload 8, 2) := by decide +kernel
theorem dL_isActed_300 : decode cL_isActed 300 = .ok (.aload 5, 2) := by decide +kernel
theorem dL_isActed_302 : decode cL_isActed 302 = .ok (.iload 10, 2) := by decide +kernel
theorem dL_isActed_304 : decode cL_isActed 304 = .ok (.iaload, 1) := by decide +kernel
theorem dL_isActed_305 : decode cL_isActed 305 = .ok (.invokevirtual 99, 3) := by decide +kernel
theorem dL_isActed_308 : decode cL_isActed 308 = .ok (.iload 11, 2) := by decide +kernel
theorem dL_isActed_310 : decode cL_isActed 310 = .ok (.if_icmp .ne 7, 3) := by decide +kernel
theorem dL_isActed_313 : decode cL_isActed 313 = .ok (.iconst 1, 1) := by decide +kernel
theorem dL_isActed_314 : decode cL_isActed 314 = .ok (.goto 4, 3) := by decide +kernel
theorem dL_isActed_317 : decode cL_isActed 317 = .ok (.iconst 0, 1) := by decide +kernel
theorem dL_isActed_318 : decode cL_isActed 318 = .ok (.ireturn, 1) := by decide +kernel
theorem dL_isActed_319 : decode cL_isActed 319 = .ok (.iload 6, 2) := by decide +kernel
theorem dL_isActed_321 : decode cL_isActed 321 = .ok (.bipush 16, 2) := by decide +kernel
theorem dL_isActed_323 : decode cL_isActed 323 = .ok (.if_icmp .ne 25, 3) := by decide +kernel
theorem dL_isActed_326 : decode cL_isActed 326 = .ok (.aload_n 1, 1) := by decide +kernel
theorem dL_isActed_327 : decode cL_isActed 327 = .ok (.aload_n 2, 1) := by decide +kernel
theorem dL_isActed_328 : decode cL_isActed 328 = .ok (.invokestatic 101, 3) := by decide +kernel
theorem dL_isActed_331 : decode cL_isActed 331 = .ok (.istore 10, 2) := by decide +kernel
theorem dL_isActed_333 : decode cL_isActed 333 = .ok (.aload_n 0, 1) := by decide +kernel
theorem dL_isActed_334 : decode cL_isActed 334 = .ok (.invokevirtual 105, 3) := by decide +kernel
theorem dL_isActed_337 : decode cL_isActed 337 = .ok (.iload 10, 2) := by decide +kernel
theorem dL_isActed_339 : decode cL_isActed 339 = .ok (.if_icmp .ne 7, 3) := by decide +kernel
theorem dL_isActed_342 : decode cL_isActed 342 = .ok (.iconst 1, 1) := by decide +kernel
theorem dL_isActed_343 : decode cL_isActed 343 = .ok (.goto 4, 3) := by decide +kernel
theorem dL_isActed_346 : decode cL_isActed 346 = .ok (.iconst 0, 1) := by decide +kernel
theorem dL_isActed_347 : decode cL_isActed 347 = .ok (.ireturn, 1) := by decide +kernel
theorem dL_isActed_348 : decode cL_isActed 348 = .ok (.iload 7, 2) := by decide +kernel
theorem dL_isActed_350 : decode cL_isActed 350 = .ok (.iconst 2, 1) := by decide +kernel
theorem dL_isActed_351 : decode cL_isActed 351 = .ok (.irem, 1) := by decide +kernel
theorem dL_isActed_352 : decode cL_isActed 352 = .ok (.istore 10, 2) := by decide +kernel
theorem dL_isActed_354 : decode cL_isActed 354 = .ok (.aload_n 2, 1) := by decide +kernel
theorem dL_isActed_355 : decode cL_isActed 355 = .ok (.iconst 1, 1) := by decide +kernel
theorem dL_isActed_356 : decode cL_isActed 356 = .ok (.iload 10, 2) := by decide +kernel
theorem dL_isActed_358 : decode cL_isActed 358 = .ok (.iadd, 1) := by decide +kernel
theorem dL_isActed_359 : decode cL_isActed 359 = .ok (.iaload, 1) := by decide +kernel
theorem dL_isActed_360 : decode cL_isActed 360 = .ok (.istore 11, 2) := by decide +kernel
theorem dL_isActed_362 : decode cL_isActed 362 = .ok (.aload_n 2, 1) := by decide +kernel
theorem dL_isActed_363 : decode cL_isActed 363 = .ok (.iconst 1, 1) := by decide +kernel
theorem dL_isActed_364 : decode cL_isActed 364 = .ok (.iload 10, 2) := by decide +kernel
theorem dL_isActed_366 : decode cL_isActed 366 = .ok (.iadd, 1) := by decide +kernel
theorem dL_isActed_367 : decode cL_isActed 367 = .ok (.iload 10, 2) := by decide +kernel
theorem dL_isActed_369 : decode cL_isActed 369 = .ok (.ifCond .ne 10, 3) := by decide +kernel
theorem dL_isActed_372 : decode cL_isActed 372 = .ok (.iload 9, 2) := by decide +kernel
theorem dL_isActed_374 : decode cL_isActed 374 = .ok (.iconst 3, 1) := by decide +kernel
theorem dL_isActed_375 : decode cL_isActed 375 = .ok (.irem, 1) := by decide +kernel
theorem dL_isActed_376 : decode cL_isActed 376 = .ok (.goto 9, 3) := by decide +kernel
theorem dL_isActed_379 : decode cL_isActed 379 = .ok (.iconst 1, 1) := by decide +kernel
theorem dL_isActed_380 : decode cL_isActed 380 = .ok (.iload 9, 2) := by decide +kernel
theorem dL_isActed_382 : decode cL_isActed 382 = .ok (.iconst 4, 1) := by decide +kernel
theorem dL_isActed_383 : decode cL_isActed 383 = .ok (.irem, 1) := by decide +kernel
theorem dL_isActed_384 : decode cL_isActed 384 = .ok (.iadd, 1) := by decide +kernel
theorem dL_isActed_385 : decode cL_isActed 385 = .ok (.iastore, 1) := by decide +kernel
theorem dL_isActed_386 : decode cL_isActed 386 = .ok (.aload_n 0, 1) := by decide +kernel
theorem dL_isActed_387 : decode cL_isActed 387 = .ok (.iload 10, 2) := by decide +kernel
theorem dL_isActed_389 : decode cL_isActed 389 = .ok (.aload_n 2, 1) := by decide +kernel
theorem dL_isActed_390 : decode cL_isActed 390 = .ok (.iconst 1, 1) := by decide +kernel
theorem dL_isActed_391 : decode cL_isActed 391 = .ok (.iload 10, 2) := by decide +kernel
theorem dL_isActed_393 : decode cL_isActed 393 = .ok (.iadd, 1) := by decide +kernel
theorem dL_isActed_394 : decode cL_isActed 394 = .ok (.iaload, 1) := by decide +kernel
theorem dL_isActed_395 : decode cL_isActed 395 = .ok (.invokevirtual 107, 3) := by decide +kernel
theorem dL_isActed_398 : decode cL_isActed 398 = .ok (.iload 11, 2) := by decide +kernel
theorem dL_isActed_400 : decode cL_isActed 400 = .ok (.if_icmp .ne 7, 3) := by decide +kernel
theorem dL_isActed_403 : decode cL_isActed 403 = .ok (.iconst 1, 1) := by decide +kernel
theorem dL_isActed_404 : decode cL_isActed 404 = .ok (.goto 4, 3) := by decide +kernel
theorem dL_isActed_407 : decode cL_isActed 407 = .ok (.iconst 0, 1) := by decide +kernel
theorem dL_isActed_408 : decode cL_isActed 408 = .ok (.ireturn, 1) := by decide +kernel
abbrev vwCl : List vw_C := [(RX0, TX0, 4), (RX1, TX1, 8), (RX2, TX2, 2), (RX3, TX3, 3), (RX4, TX4, 9), (RX6, TX6, 6), (RX8, TX8, 11)]
