theorem dL_settle_48 : decode cL_settle 48 = .ok (.aload_n 0, 1) := by decide +kernel
theorem dL_settle_49 : decode cL_settle 49 = .ok (.aload_n 1, 1) := by decide +kernel
theorem dL_settle_50 : decode cL_settle 50 = .ok (.iload 4, 2) := by decide +kernel
theorem dL_settle_52 : decode cL_settle 52 = .ok (.invokestatic 41, 3) := by decide +kernel
theorem dL_settle_55 : decode cL_settle 55 = .ok (.ifCond .ge 30, 3) := by decide +kernel
theorem dL_settle_58 : decode cL_settle 58 = .ok (.iconst 0, 1) := by decide +kernel
theorem dL_settle_59 : decode cL_settle 59 = .ok (.istore 5, 2) := by decide +kernel
theorem dL_settle_61 : decode cL_settle 61 = .ok (.iload 5, 2) := by decide +kernel
theorem dL_settle_63 : decode cL_settle 63 = .ok (.bipush 12, 2) := by decide +kernel
theorem dL_settle_65 : decode cL_settle 65 = .ok (.if_icmp .ge 17, 3) := by decide +kernel
theorem dL_settle_68 : decode cL_settle 68 = .ok (.aload_n 0, 1) := by decide +kernel
theorem dL_settle_69 : decode cL_settle 69 = .ok (.iload 5, 2) := by decide +kernel
theorem dL_settle_71 : decode cL_settle 71 = .ok (.aload_n 2, 1) := by decide +kernel
theorem dL_settle_72 : decode cL_settle 72 = .ok (.iload 5, 2) := by decide +kernel
theorem dL_settle_74 : decode cL_settle 74 = .ok (.iaload, 1) := by decide +kernel
theorem dL_settle_75 : decode cL_settle 75 = .ok (.iastore, 1) := by decide +kernel
theorem dL_settle_76 : decode cL_settle 76 = .ok (.iinc 5 1, 3) := by decide +kernel
theorem dL_settle_79 : decode cL_settle 79 = .ok (.goto (-18), 3) := by decide +kernel
theorem dL_settle_82 : decode cL_settle 82 = .ok (.bipush (-3), 2) := by decide +kernel
theorem dL_settle_84 : decode cL_settle 84 = .ok (.ireturn, 1) := by decide +kernel
theorem dL_settle_85 : decode cL_settle 85 = .ok (.iinc 4 1, 3) := by decide +kernel
theorem dL_settle_88 : decode cL_settle 88 = .ok (.goto (-50), 3) := by decide +kernel
theorem dL_settle_91 : decode cL_settle 91 = .ok (.iinc 3 1, 3) := by decide +kernel
theorem dL_settle_94 : decode cL_settle 94 = .ok (.goto (-67), 3) := by decide +kernel
theorem dL_settle_97 : decode cL_settle 97 = .ok (.iload_n 3, 1) := by decide +kernel
theorem dL_settle_98 : decode cL_settle 98 = .ok (.ireturn, 1) := by decide +kernel
set_option maxRecDepth 20000 in
theorem ggL_areSteps_X8_step : GoodIn wsL_areSteps wsX8_step := goodIn_r _ [5, 6, 7, 8, 9, 10, 11, 12, 13, 14, 15, 16, 17, 18, 19, 20, 21, 22, 23, 24, 25, 26, 27, 28, 29, 30, 31, 32, 33, 34, 35, 36, 37, 38, 39, 40, 41, 42, 43, 44, 45, 46, 47, 48, 49, 50, 51, 52, 53, 54, 55, 56, 57, 58, 59, 60, 61, 62, 63, 64, 65, 66, 67, 68, 69, 70, 71, 72, 73, 74, 75, 76, 77, 78, 79, 80, 81, 82, 83, 84, 85, 86, 87, 88, 89, 90, 91, 92, 93, 94, 95, 96, 97, 98, 99, 100, 101, 102, 176, 177, 178, 179, 180, 181, 182, 183, 184, 185, 186, 187, 188, 189, 190, 191, 192, 193, 194] (by decide +kernel) (by decide +kernel)
set_option maxRecDepth 20000 in
theorem gL_areSteps_X8_step : GoodIn wsL_areSteps (wsV RL 45 RX8 yX8_step wsX8_step) := goodIn_app (goodIn_of _ (by decide +kernel)) ggL_areSteps_X8_step
set_option maxRecDepth 20000 in
theorem ggL_areSteps_L_areKin : GoodIn wsL_areSteps wsL_areKin := goodIn_r _ [106, 107, 108, 105, 109, 110, 111, 112] (by decide +kernel) (by decide +kernel)
set_option maxRecDepth 20000 in
theorem gL_areSteps_L_areKin : GoodIn wsL_areSteps (va_wsS RL 50 yL_areKin wsL_areKin) := goodIn_app (goodIn_of _ (by decide +kernel)) ggL_areSteps_L_areKin
set_option maxRecDepth 20000 in
theorem ggL_areSteps_X8_count : GoodIn wsL_areSteps wsX8_count := goodIn_r _ [116, 6, 7, 117, 118, 119, 120, 121, 11, 122, 13, 23, 24, 25, 26, 27, 28, 15, 16, 17, 18, 29, 30, 31, 32, 33, 34, 35, 36, 37, 38, 39, 40, 41, 42, 43, 44, 45, 46, 47, 48, 49, 50, 51, 52, 53, 54, 55, 56, 57, 58, 59, 60, 61, 62, 123, 124, 125, 126, 127, 128, 129, 130, 131, 132, 133, 134, 65, 66, 67, 135, 136, 137, 138, 139, 140, 141, 142, 143, 144, 145, 146, 147, 148, 149, 150, 151, 152, 153, 154, 155, 72, 73, 74, 156, 157, 158, 159, 160, 82, 83, 84, 85, 86, 75, 76, 77, 161, 162, 163, 164, 176, 177, 178, 179, 180, 181, 182, 183, 184, 185, 186, 187, 188, 189, 190, 191, 192, 195, 196, 197, 198, 199, 200, 201, 202, 203, 204, 205, 206, 193, 194, 207, 208, 209, 210] (by decide +kernel) (by decide +kernel)
set_option maxRecDepth 20000 in
theorem gL_areSteps_X8_count : GoodIn wsL_areSteps (wsV RL 53 RX8 yX8_count wsX8_count) := goodIn_app (goodIn_of _ (by decide +kernel)) ggL_areSteps_X8_count
set_option maxRecDepth 20000 in
theorem ggL_areSteps_X8_crown : GoodIn wsL_areSteps wsX8_crown := goodIn_r _ [168, 6, 19, 20, 21, 11, 22, 13, 23, 24, 25, 26, 27, 28, 15, 16, 17, 18, 29, 30, 31, 32, 33, 34, 35, 14, 176, 177, 178, 179, 180, 181, 182, 183, 184, 185, 186, 187, 188, 189, 190, 191, 192] (by decide +kernel) (by decide +kernel)
set_option maxRecDepth 20000 in
theorem gL_areSteps_X8_crown : GoodIn wsL_areSteps (wsV RL 57 RX8 yX8_crown wsX8_crown) := goodIn_app (goodIn_of _ (by decide +kernel)) ggL_areSteps_X8_crown
set_option maxRecDepth 20000 in
theorem ggL_areSteps_L_isSettled : GoodIn wsL_areSteps wsL_isSettled := goodIn_r _ [171] (by decide +kernel) (by decide +kernel)
set_option maxRecDepth 20000 in
theorem gL_areSteps_L_isSettled : GoodIn wsL_areSteps (va_wsS RL 37 yL_isSettled wsL_isSettled) := goodIn_app (goodIn_of _ (by decide +kernel)) ggL_areSteps_L_isSettled
set_option maxRecDepth 20000 in
theorem ggL_areSteps_X8_mean : GoodIn wsL_areSteps wsX8_mean := goodIn_r _ [175, 6, 19, 20, 21, 11, 22, 13, 23, 24, 25, 26, 27, 28, 15, 16, 17, 18, 29, 30, 31, 32, 33, 34, 35, 176, 177, 178, 179, 180, 181, 182, 183, 184, 185, 186, 187, 188, 189, 190, 191, 192] (by decide +kernel) (by decide +kernel)
set_option maxRecDepth 20000 in
theorem gL_areSteps_X8_mean : GoodIn wsL_areSteps (wsV RL 61 RX8 yX8_mean wsX8_mean) := goodIn_app (goodIn_of _ (by decide +kernel)) ggL_areSteps_X8_mean
theorem dL_areSteps_0 : decode cL_areSteps 0 = .ok (.iconst 0, 1) := by decide +kernel
theorem dL_areSteps_1 : decode cL_areSteps 1 = .ok (.istore_n 3, 1) := by decide +kernel
theorem dL_areSteps_2 : decode cL_areSteps 2 = .ok (.iconst 0, 1) := by decide +kernel
theorem dL_areSteps_3 : decode cL_areSteps 3 = .ok (.istore 4, 2) := by decide +kernel
theorem dL_areSteps_5 : decode cL_areSteps 5 = .ok (.iconst 0, 1) := by decide +kernel
theorem dL_areSteps_6 : decode cL_areSteps 6 = .ok (.istore 5, 2) := by decide +kernel
theorem dL_areSteps_8 : decode cL_areSteps 8 = .ok (.bipush (-4), 2) := by decide +kernel
theorem dL_areSteps_10 : decode cL_areSteps 10 = .ok (.istore 6, 2) := by decide +kernel
theorem dL_areSteps_12 : decode cL_areSteps 12 = .ok (.iconst 0, 1) := by decide +kernel
theorem dL_areSteps_13 : decode cL_areSteps 13 = .ok (.istore 7, 2) := by decide +kernel
theorem dL_areSteps_15 : decode cL_areSteps 15 = .ok (.iconst 0, 1) := by decide +kernel
theorem dL_areSteps_16 : decode cL_areSteps 16 = .ok (.istore 8, 2) := by decide +kernel
theorem dL_areSteps_18 : decode cL_areSteps 18 = .ok (.aload_n 0, 1) := by decide +kernel
theorem dL_areSteps_19 : decode cL_areSteps 19 = .ok (.aload_n 2, 1) := by decide +kernel
theorem dL_areSteps_20 : decode cL_areSteps 20 = .ok (.iconst 0, 1) := by decide +kernel
theorem dL_areSteps_21 : decode cL_areSteps 21 = .ok (.iaload, 1) := by decide +kernel
theorem dL_areSteps_22 : decode cL_areSteps 22 = .ok (.iconst 0, 1) := by decide +kernel
theorem dL_areSteps_23 : decode cL_areSteps 23 = .ok (.invokevirtual 45, 3) := by decide +kernel
theorem dL_areSteps_26 : decode cL_areSteps 26 = .ok (.iconst (-1), 1) := by decide +kernel
theorem dL_areSteps_27 : decode cL_areSteps 27 = .ok (.if_icmp .ne 17, 3) := by decide +kernel
theorem dL_areSteps_30 : decode cL_areSteps 30 = .ok (.aload_n 0, 1) := by decide +kernel
theorem dL_areSteps_31 : decode cL_areSteps 31 = .ok (.iconst (-1), 1) := by decide +kernel
theorem dL_areSteps_32 : decode cL_areSteps 32 = .ok (.iconst 0, 1) := by decide +kernel
theorem dL_areSteps_33 : decode cL_areSteps 33 = .ok (.invokevirtual 45, 3) := by decide +kernel
theorem dL_areSteps_36 : decode cL_areSteps 36 = .ok (.iconst (-1), 1) := by decide +kernel
theorem dL_areSteps_37 : decode cL_areSteps 37 = .ok (.if_icmp .ne 7, 3) := by decide +kernel
theorem dL_areSteps_40 : decode cL_areSteps 40 = .ok (.iconst 1, 1) := by decide +kernel
theorem dL_areSteps_41 : decode cL_areSteps 41 = .ok (.goto 4, 3) := by decide +kernel
theorem dL_areSteps_44 : decode cL_areSteps 44 = .ok (.iconst 0, 1) := by decide +kernel
theorem dL_areSteps_45 : decode cL_areSteps 45 = .ok (.istore 9, 2) := by decide +kernel
theorem dL_areSteps_47 : decode cL_areSteps 47 = .ok (.iconst 0, 1) := by decide +kernel
theorem dL_areSteps_48 : decode cL_areSteps 48 = .ok (.istore 10, 2) := by decide +kernel
theorem dL_areSteps_50 : decode cL_areSteps 50 = .ok (.iload 10, 2) := by decide +kernel
theorem dL_areSteps_52 : decode cL_areSteps 52 = .ok (.aload_n 2, 1) := by decide +kernel
theorem dL_areSteps_53 : decode cL_areSteps 53 = .ok (.iconst 0, 1) := by decide +kernel
theorem dL_areSteps_54 : decode cL_areSteps 54 = .ok (.iaload, 1) := by decide +kernel
theorem dL_areSteps_55 : decode cL_areSteps 55 = .ok (.if_icmp .ge 426, 3) := by decide +kernel
theorem dL_areSteps_58 : decode cL_areSteps 58 = .ok (.iload 9, 2) := by decide +kernel
theorem dL_areSteps_60 : decode cL_areSteps 60 = .ok (.ifCond .eq 421, 3) := by decide +kernel
theorem dL_areSteps_63 : decode cL_areSteps 63 = .ok (.iconst 0, 1) := by decide +kernel
theorem dL_areSteps_64 : decode cL_areSteps 64 = .ok (.istore 11, 2) := by decide +kernel
theorem dL_areSteps_66 : decode cL_areSteps 66 = .ok (.iconst 0, 1) := by decide +kernel
theorem dL_areSteps_67 : decode cL_areSteps 67 = .ok (.istore 12, 2) := by decide +kernel
theorem dL_areSteps_69 : decode cL_areSteps 69 = .ok (.iconst 1, 1) := by decide +kernel
theorem dL_areSteps_70 : decode cL_areSteps 70 = .ok (.iload 10, 2) := by decide +kernel
theorem dL_areSteps_72 : decode cL_areSteps 72 = .ok (.ishl, 1) := by decide +kernel
theorem dL_areSteps_73 : decode cL_areSteps 73 = .ok (.istore 13, 2) := by decide +kernel
theorem dL_areSteps_75 : decode cL_areSteps 75 = .ok (.iconst 0, 1) := by decide +kernel
theorem dL_areSteps_76 : decode cL_areSteps 76 = .ok (.istore 14, 2) := by decide +kernel
theorem dL_areSteps_78 : decode cL_areSteps 78 = .ok (.iload 14, 2) := by decide +kernel
theorem dL_areSteps_80 : decode cL_areSteps 80 = .ok (.aload_n 2, 1) := by decide +kernel
theorem dL_areSteps_81 : decode cL_areSteps 81 = .ok (.iconst 0, 1) := by decide +kernel
theorem dL_areSteps_82 : decode cL_areSteps 82 = .ok (.iaload, 1) := by decide +kernel
theorem dL_areSteps_83 : decode cL_areSteps 83 = .ok (.if_icmp .ge 82, 3) := by decide +kernel
theorem dL_areSteps_86 : decode cL_areSteps 86 = .ok (.iconst 0, 1) := by decide +kernel
theorem dL_areSteps_87 : decode cL_areSteps 87 = .ok (.istore 15, 2) := by decide +kernel
theorem dL_areSteps_89 : decode cL_areSteps 89 = .ok (.iload 15, 2) := by decide +kernel
theorem dL_areSteps_91 : decode cL_areSteps 91 = .ok (.aload_n 2, 1) := by decide +kernel
theorem dL_areSteps_92 : decode cL_areSteps 92 = .ok (.iconst 0, 1) := by decide +kernel
theorem dL_areSteps_93 : decode cL_areSteps 93 = .ok (.iaload, 1) := by decide +kernel
theorem dL_areSteps_94 : decode cL_areSteps 94 = .ok (.aload_n 2, 1) := by decide +kernel
theorem dL_areSteps_95 : decode cL_areSteps 95 = .ok (.iconst 0, 1) := by decide +kernel
theorem dL_areSteps_96 : decode cL_areSteps 96 = .ok (.iaload, 1) := by decide +kernel
theorem dL_areSteps_97 : decode cL_areSteps 97 = .ok (.imul, 1) := by decide +kernel
theorem dL_areSteps_98 : decode cL_areSteps 98 = .ok (.if_icmp .ge 61, 3) := by decide +kernel
theorem dL_areSteps_101 : decode cL_areSteps 101 = .ok (.iload 13, 2) := by decide +kernel
theorem dL_areSteps_103 : decode cL_areSteps 103 = .ok (.iload 13, 2) := by decide +kernel
theorem dL_areSteps_105 : decode cL_areSteps 105 = .ok (.iload 15, 2) := by decide +kernel
theorem dL_areSteps_107 : decode cL_areSteps 107 = .ok (.aload_n 2, 1) := by decide +kernel
theorem dL_areSteps_108 : decode cL_areSteps 108 = .ok (.iconst 0, 1) := by decide +kernel
theorem dL_areSteps_109 : decode cL_areSteps 109 = .ok (.iaload, 1) := by decide +kernel
theorem dL_areSteps_110 : decode cL_areSteps 110 = .ok (.idiv, 1) := by decide +kernel
theorem dL_areSteps_111 : decode cL_areSteps 111 = .ok (.ishr, 1) := by decide +kernel
theorem dL_areSteps_112 : decode cL_areSteps 112 = .ok (.iconst 1, 1) := by decide +kernel
theorem dL_areSteps_113 : decode cL_areSteps 113 = .ok (.iand, 1) := by decide +kernel
theorem dL_areSteps_114 : decode cL_areSteps 114 = .ok (.iconst 1, 1) := by decide +kernel
theorem dL_areSteps_115 : decode cL_areSteps 115 = .ok (.if_icmp .ne 34, 3) := by decide +kernel
theorem dL_areSteps_118 : decode cL_areSteps 118 = .ok (.aload_n 1, 1) := by decide +kernel
theorem dL_areSteps_119 : decode cL_areSteps 119 = .ok (.aload_n 2, 1) := by decide +kernel
theorem dL_areSteps_120 : decode cL_areSteps 120 = .ok (.iload 15, 2) := by decide +kernel
theorem dL_areSteps_122 : decode cL_areSteps 122 = .ok (.aload_n 2, 1) := by decide +kernel
theorem dL_areSteps_123 : decode cL_areSteps 123 = .ok (.iconst 0, 1) := by decide +kernel
theorem dL_areSteps_124 : decode cL_areSteps 124 = .ok (.iaload, 1) := by decide +kernel
theorem dL_areSteps_125 : decode cL_areSteps 125 = .ok (.idiv, 1) := by decide +kernel
theorem dL_areSteps_126 : decode cL_areSteps 126 = .ok (.iload 15, 2) := by decide +kernel
theorem dL_areSteps_128 : decode cL_areSteps 128 = .ok (.aload_n 2, 1) := by decide +kernel
theorem dL_areSteps_129 : decode cL_areSteps 129 = .ok (.iconst 0, 1) := by decide +kernel
theorem dL_areSteps_130 : decode cL_areSteps 130 = .ok (.iaload, 1) := by decide +kernel
theorem dL_areSteps_131 : decode cL_areSteps 131 = .ok (.irem, 1) := by decide +kernel
theorem dL_areSteps_132 : decode cL_areSteps 132 = .ok (.invokestatic 50, 3) := by decide +kernel
theorem dL_areSteps_135 : decode cL_areSteps 135 = .ok (.ifCond .eq 14, 3) := by decide +kernel
theorem dL_areSteps_138 : decode cL_areSteps 138 = .ok (.iconst 1, 1) := by decide +kernel
theorem dL_areSteps_139 : decode cL_areSteps 139 = .ok (.iload 15, 2) := by decide +kernel
theorem dL_areSteps_141 : decode cL_areSteps 141 = .ok (.aload_n 2, 1) := by decide +kernel
theorem dL_areSteps_142 : decode cL_areSteps 142 = .ok (.iconst 0, 1) := by decide +kernel
theorem dL_areSteps_143 : decode cL_areSteps 143 = .ok (.iaload, 1) := by decide +kernel
theorem dL_areSteps_144 : decode cL_areSteps 144 = .ok (.irem, 1) := by decide +kernel
theorem dL_areSteps_145 : decode cL_areSteps 145 = .ok (.ishl, 1) := by decide +kernel
theorem dL_areSteps_146 : decode cL_areSteps 146 = .ok (.goto 4, 3) := by decide +kernel
theorem dL_areSteps_149 : decode cL_areSteps 149 = .ok (.iconst 0, 1) := by decide +kernel
theorem dL_areSteps_150 : decode cL_areSteps 150 = .ok (.ior, 1) := by decide +kernel
theorem dL_areSteps_151 : decode cL_areSteps 151 = .ok (.istore 13, 2) := by decide +kernel
theorem dL_areSteps_153 : decode cL_areSteps 153 = .ok (.iinc 15 1, 3) := by decide +kernel
theorem dL_areSteps_156 : decode cL_areSteps 156 = .ok (.goto (-67), 3) := by decide +kernel
theorem dL_areSteps_159 : decode cL_areSteps 159 = .ok (.iinc 14 1, 3) := by decide +kernel
theorem dL_areSteps_162 : decode cL_areSteps 162 = .ok (.goto (-84), 3) := by decide +kernel
theorem dL_areSteps_165 : decode cL_areSteps 165 = .ok (.bipush 12, 2) := by decide +kernel
theorem dL_areSteps_167 : decode cL_areSteps 167 = .ok (.istore 14, 2) := by decide +kernel
theorem dL_areSteps_169 : decode cL_areSteps 169 = .ok (.iconst 0, 1) := by decide +kernel
theorem dL_areSteps_170 : decode cL_areSteps 170 = .ok (.istore 15, 2) := by decide +kernel
theorem dL_areSteps_172 : decode cL_areSteps 172 = .ok (.aload_n 2, 1) := by decide +kernel
theorem dL_areSteps_173 : decode cL_areSteps 173 = .ok (.iconst 0, 1) := by decide +kernel
theorem dL_areSteps_174 : decode cL_areSteps 174 = .ok (.iaload, 1) := by decide +kernel
theorem dL_areSteps_175 : decode cL_areSteps 175 = .ok (.iconst 1, 1) := by decide +kernel
theorem dL_areSteps_176 : decode cL_areSteps 176 = .ok (.isub, 1) := by decide +kernel
theorem dL_areSteps_177 : decode cL_areSteps 177 = .ok (.istore 16, 2) := by decide +kernel
theorem dL_areSteps_179 : decode cL_areSteps 179 = .ok (.iload 16, 2) := by decide +kernel
theorem dL_areSteps_181 : decode cL_areSteps 181 = .ok (.ifCond .lt 103, 3) := by decide +kernel
theorem dL_areSteps_184 : decode cL_areSteps 184 = .ok (.iload 11, 2) := by decide +kernel
theorem dL_areSteps_186 : decode cL_areSteps 186 = .ok (.aload_n 1, 1) := by decide +kernel
theorem dL_areSteps_187 : decode cL_areSteps 187 = .ok (.aload_n 2, 1) := by decide +kernel
theorem dL_areSteps_188 : decode cL_areSteps 188 = .ok (.iload 10, 2) := by decide +kernel
theorem dL_areSteps_190 : decode cL_areSteps 190 = .ok (.iload 16, 2) := by decide +kernel
theorem dL_areSteps_192 : decode cL_areSteps 192 = .ok (.invokestatic 50, 3) := by decide +kernel
theorem dL_areSteps_195 : decode cL_areSteps 195 = .ok (.ifCond .eq 7, 3) := by decide +kernel
theorem dL_areSteps_198 : decode cL_areSteps 198 = .ok (.iconst 1, 1) := by decide +kernel
theorem dL_areSteps_199 : decode cL_areSteps 199 = .ok (.goto 4, 3) := by decide +kernel
theorem dL_areSteps_202 : decode cL_areSteps 202 = .ok (.iconst 0, 1) := by decide +kernel
theorem dL_areSteps_203 : decode cL_areSteps 203 = .ok (.iadd, 1) := by decide +kernel
theorem dL_areSteps_204 : decode cL_areSteps 204 = .ok (.istore 11, 2) := by decide +kernel
theorem dL_areSteps_206 : decode cL_areSteps 206 = .ok (.iload 12, 2) := by decide +kernel
theorem dL_areSteps_208 : decode cL_areSteps 208 = .ok (.iload 16, 2) := by decide +kernel
theorem dL_areSteps_210 : decode cL_areSteps 210 = .ok (.iload 10, 2) := by decide +kernel
theorem dL_areSteps_212 : decode cL_areSteps 212 = .ok (.if_icmp .le 30, 3) := by decide +kernel
theorem dL_areSteps_215 : decode cL_areSteps 215 = .ok (.iload 16, 2) := by decide +kernel
theorem dL_areSteps_217 : decode cL_areSteps 217 = .ok (.iload 10, 2) := by decide +kernel
theorem dL_areSteps_219 : decode cL_areSteps 219 = .ok (.aload_n 2, 1) := by decide +kernel
theorem dL_areSteps_220 : decode cL_areSteps 220 = .ok (.iconst 2, 1) := by decide +kernel
theorem dL_areSteps_221 : decode cL_areSteps 221 = .ok (.iaload, 1) := by decide +kernel
theorem dL_areSteps_222 : decode cL_areSteps 222 = .ok (.iadd, 1) := by decide +kernel
theorem dL_areSteps_223 : decode cL_areSteps 223 = .ok (.if_icmp .gt 19, 3) := by decide +kernel
theorem dL_areSteps_226 : decode cL_areSteps 226 = .ok (.aload_n 1, 1) := by decide +kernel
theorem dL_areSteps_227 : decode cL_areSteps 227 = .ok (.aload_n 2, 1) := by decide +kernel
theorem dL_areSteps_228 : decode cL_areSteps 228 = .ok (.iload 10, 2) := by decide +kernel
theorem dL_areSteps_230 : decode cL_areSteps 230 = .ok (.iload 16, 2) := by decide +kernel
theorem dL_areSteps_232 : decode cL_areSteps 232 = .ok (.invokestatic 50, 3) := by decide +kernel
theorem dL_areSteps_235 : decode cL_areSteps 235 = .ok (.ifCond .eq 7, 3) := by decide +kernel
theorem dL_areSteps_238 : decode cL_areSteps 238 = .ok (.iconst 1, 1) := by decide +kernel
theorem dL_areSteps_239 : decode cL_areSteps 239 = .ok (.goto 4, 3) := by decide +kernel
theorem dL_areSteps_242 : decode cL_areSteps 242 = .ok (.iconst 0, 1) := by decide +kernel
theorem dL_areSteps_243 : decode cL_areSteps 243 = .ok (.iadd, 1) := by decide +kernel
theorem dL_areSteps_244 : decode cL_areSteps 244 = .ok (.istore 12, 2) := by decide +kernel
theorem dL_areSteps_246 : decode cL_areSteps 246 = .ok (.iload 13, 2) := by decide +kernel
theorem dL_areSteps_248 : decode cL_areSteps 248 = .ok (.iload 16, 2) := by decide +kernel
theorem dL_areSteps_250 : decode cL_areSteps 250 = .ok (.ishr, 1) := by decide +kernel
theorem dL_areSteps_251 : decode cL_areSteps 251 = .ok (.iconst 1, 1) := by decide +kernel
theorem dL_areSteps_252 : decode cL_areSteps 252 = .ok (.iand, 1) := by decide +kernel
theorem dL_areSteps_253 : decode cL_areSteps 253 = .ok (.iconst 1, 1) := by decide +kernel
theorem dL_areSteps_254 : decode cL_areSteps 254 = .ok (.if_icmp .ne 8, 3) := by decide +kernel
theorem dL_areSteps_257 : decode cL_areSteps 257 = .ok (.iload 16, 2) := by decide +kernel
theorem dL_areSteps_259 : decode cL_areSteps 259 = .ok (.goto 5, 3) := by decide +kernel
theorem dL_areSteps_262 : decode cL_areSteps 262 = .ok (.iload 14, 2) := by decide +kernel
theorem dL_areSteps_264 : decode cL_areSteps 264 = .ok (.istore 14, 2) := by decide +kernel
theorem dL_areSteps_266 : decode cL_areSteps 266 = .ok (.iload 15, 2) := by decide +kernel
theorem dL_areSteps_268 : decode cL_areSteps 268 = .ok (.iload 13, 2) := by decide +kernel
theorem dL_areSteps_270 : decode cL_areSteps 270 = .ok (.iload 16, 2) := by decide +kernel
theorem dL_areSteps_272 : decode cL_areSteps 272 = .ok (.ishr, 1) := by decide +kernel
theorem dL_areSteps_273 : decode cL_areSteps 273 = .ok (.iconst 1, 1) := by decide +kernel
theorem dL_areSteps_274 : decode cL_areSteps 274 = .ok (.iand, 1) := by decide +kernel
theorem dL_areSteps_275 : decode cL_areSteps 275 = .ok (.iadd, 1) := by decide +kernel
theorem dL_areSteps_276 : decode cL_areSteps 276 = .ok (.istore 15, 2) := by decide +kernel
theorem dL_areSteps_278 : decode cL_areSteps 278 = .ok (.iinc 16 (-1), 3) := by decide +kernel
theorem dL_areSteps_281 : decode cL_areSteps 281 = .ok (.goto (-102), 3) := by decide +kernel
theorem dL_areSteps_284 : decode cL_areSteps 284 = .ok (.iload_n 3, 1) := by decide +kernel
theorem dL_areSteps_285 : decode cL_areSteps 285 = .ok (.iload 11, 2) := by decide +kernel
theorem dL_areSteps_287 : decode cL_areSteps 287 = .ok (.iadd, 1) := by decide +kernel
theorem dL_areSteps_288 : decode cL_areSteps 288 = .ok (.istore_n 3, 1) := by decide +kernel
theorem dL_areSteps_289 : decode cL_areSteps 289 = .ok (.iload 4, 2) := by decide +kernel
theorem dL_areSteps_291 : decode cL_areSteps 291 = .ok (.iload 14, 2) := by decide +kernel
theorem dL_areSteps_293 : decode cL_areSteps 293 = .ok (.iload 10, 2) := by decide +kernel
theorem dL_areSteps_295 : decode cL_areSteps 295 = .ok (.if_icmp .ne 7, 3) := by decide +kernel
theorem dL_areSteps_298 : decode cL_areSteps 298 = .ok (.iconst 1, 1) := by decide +kernel
theorem dL_areSteps_299 : decode cL_areSteps 299 = .ok (.goto 4, 3) := by decide +kernel
theorem dL_areSteps_302 : decode cL_areSteps 302 = .ok (.iconst 0, 1) := by decide +kernel
theorem dL_areSteps_303 : decode cL_areSteps 303 = .ok (.iadd, 1) := by decide +kernel
theorem dL_areSteps_304 : decode cL_areSteps 304 = .ok (.istore 4, 2) := by decide +kernel
theorem dL_areSteps_306 : decode cL_areSteps 306 = .ok (.iload 15, 2) := by decide +kernel
theorem dL_areSteps_308 : decode cL_areSteps 308 = .ok (.iload 5, 2) := by decide +kernel
theorem dL_areSteps_310 : decode cL_areSteps 310 = .ok (.if_icmp .le 8, 3) := by decide +kernel
theorem dL_areSteps_313 : decode cL_areSteps 313 = .ok (.iload 15, 2) := by decide +kernel
theorem dL_areSteps_315 : decode cL_areSteps 315 = .ok (.goto 5, 3) := by decide +kernel
theorem dL_areSteps_318 : decode cL_areSteps 318 = .ok (.iload 5, 2) := by decide +kernel
theorem dL_areSteps_320 : decode cL_areSteps 320 = .ok (.istore 5, 2) := by decide +kernel
theorem dL_areSteps_322 : decode cL_areSteps 322 = .ok (.iload 7, 2) := by decide +kernel
theorem dL_areSteps_324 : decode cL_areSteps 324 = .ok (.aload_n 1, 1) := by decide +kernel
theorem dL_areSteps_325 : decode cL_areSteps 325 = .ok (.iload 10, 2) := by decide +kernel
theorem dL_areSteps_327 : decode cL_areSteps 327 = .ok (.iaload, 1) := by decide +kernel
theorem dL_areSteps_328 : decode cL_areSteps 328 = .ok (.iconst 1, 1) := by decide +kernel
theorem dL_areSteps_329 : decode cL_areSteps 329 = .ok (.if_icmp .ne 7, 3) := by decide +kernel
theorem dL_areSteps_332 : decode cL_areSteps 332 = .ok (.iconst 1, 1) := by decide +kernel
theorem dL_areSteps_333 : decode cL_areSteps 333 = .ok (.goto 4, 3) := by decide +kernel
theorem dL_areSteps_336 : decode cL_areSteps 336 = .ok (.iconst 0, 1) := by decide +kernel
theorem dL_areSteps_337 : decode cL_areSteps 337 = .ok (.iadd, 1) := by decide +kernel
theorem dL_areSteps_338 : decode cL_areSteps 338 = .ok (.istore 7, 2) := by decide +kernel
theorem dL_areSteps_340 : decode cL_areSteps 340 = .ok (.iload 6, 2) := by decide +kernel
theorem dL_areSteps_342 : decode cL_areSteps 342 = .ok (.ifCond .lt 28, 3) := by decide +kernel
theorem dL_areSteps_345 : decode cL_areSteps 345 = .ok (.iload 11, 2) := by decide +kernel
theorem dL_areSteps_347 : decode cL_areSteps 347 = .ok (.iload 8, 2) := by decide +kernel
theorem dL_areSteps_349 : decode cL_areSteps 349 = .ok (.if_icmp .gt 21, 3) := by decide +kernel
theorem dL_areSteps_352 : decode cL_areSteps 352 = .ok (.iload 11, 2) := by decide +kernel
theorem dL_areSteps_354 : decode cL_areSteps 354 = .ok (.iload 8, 2) := by decide +kernel
theorem dL_areSteps_356 : decode cL_areSteps 356 = .ok (.if_icmp .ne 18, 3) := by decide +kernel
theorem dL_areSteps_359 : decode cL_areSteps 359 = .ok (.aload_n 1, 1) := by decide +kernel
theorem dL_areSteps_360 : decode cL_areSteps 360 = .ok (.iload 10, 2) := by decide +kernel
theorem dL_areSteps_362 : decode cL_areSteps 362 = .ok (.iaload, 1) := by decide +kernel
theorem dL_areSteps_363 : decode cL_areSteps 363 = .ok (.aload_n 1, 1) := by decide +kernel
theorem dL_areSteps_364 : decode cL_areSteps 364 = .ok (.iload 6, 2) := by decide +kernel
theorem dL_areSteps_366 : decode cL_areSteps 366 = .ok (.iaload, 1) := by decide +kernel
theorem dL_areSteps_367 : decode cL_areSteps 367 = .ok (.if_icmp .le 7, 3) := by decide +kernel
theorem dL_areSteps_370 : decode cL_areSteps 370 = .ok (.iconst 1, 1) := by decide +kernel
theorem dL_areSteps_371 : decode cL_areSteps 371 = .ok (.goto 4, 3) := by decide +kernel
theorem dL_areSteps_374 : decode cL_areSteps 374 = .ok (.iconst 0, 1) := by decide +kernel
theorem dL_areSteps_375 : decode cL_areSteps 375 = .ok (.istore 16, 2) := by decide +kernel
theorem dL_areSteps_377 : decode cL_areSteps 377 = .ok (.iload 16, 2) := by decide +kernel
theorem dL_areSteps_379 : decode cL_areSteps 379 = .ok (.ifCond .eq 8, 3) := by decide +kernel
theorem dL_areSteps_382 : decode cL_areSteps 382 = .ok (.iload 10, 2) := by decide +kernel
theorem dL_areSteps_384 : decode cL_areSteps 384 = .ok (.goto 5, 3) := by decide +kernel
theorem dL_areSteps_387 : decode cL_areSteps 387 = .ok (.iload 6, 2) := by decide +kernel
theorem dL_areSteps_389 : decode cL_areSteps 389 = .ok (.istore 6, 2) := by decide +kernel
theorem dL_areSteps_391 : decode cL_areSteps 391 = .ok (.iload 16, 2) := by decide +kernel
theorem dL_areSteps_393 : decode cL_areSteps 393 = .ok (.ifCond .eq 8, 3) := by decide +kernel
theorem dL_areSteps_396 : decode cL_areSteps 396 = .ok (.iload 11, 2) := by decide +kernel
theorem dL_areSteps_398 : decode cL_areSteps 398 = .ok (.goto 5, 3) := by decide +kernel
theorem dL_areSteps_401 : decode cL_areSteps 401 = .ok (.iload 8, 2) := by decide +kernel
theorem dL_areSteps_403 : decode cL_areSteps 403 = .ok (.istore 8, 2) := by decide +kernel
theorem dL_areSteps_405 : decode cL_areSteps 405 = .ok (.aload_n 0, 1) := by decide +kernel
theorem dL_areSteps_406 : decode cL_areSteps 406 = .ok (.iload 10, 2) := by decide +kernel
theorem dL_areSteps_408 : decode cL_areSteps 408 = .ok (.iconst 0, 1) := by decide +kernel
theorem dL_areSteps_409 : decode cL_areSteps 409 = .ok (.invokevirtual 45, 3) := by decide +kernel
theorem dL_areSteps_412 : decode cL_areSteps 412 = .ok (.aload_n 1, 1) := by decide +kernel
theorem dL_areSteps_413 : decode cL_areSteps 413 = .ok (.iload 10, 2) := by decide +kernel
theorem dL_areSteps_415 : decode cL_areSteps 415 = .ok (.iaload, 1) := by decide +kernel
theorem dL_areSteps_416 : decode cL_areSteps 416 = .ok (.if_icmp .ne 56, 3) := by decide +kernel
theorem dL_areSteps_419 : decode cL_areSteps 419 = .ok (.aload_n 0, 1) := by decide +kernel
theorem dL_areSteps_420 : decode cL_areSteps 420 = .ok (.iload 10, 2) := by decide +kernel
theorem dL_areSteps_422 : decode cL_areSteps 422 = .ok (.iconst 1, 1) := by decide +kernel
theorem dL_areSteps_423 : decode cL_areSteps 423 = .ok (.invokevirtual 45, 3) := by decide +kernel
theorem dL_areSteps_426 : decode cL_areSteps 426 = .ok (.iload 11, 2) := by decide +kernel
theorem dL_areSteps_428 : decode cL_areSteps 428 = .ok (.if_icmp .ne 44, 3) := by decide +kernel
theorem dL_areSteps_431 : decode cL_areSteps 431 = .ok (.aload_n 0, 1) := by decide +kernel
theorem dL_areSteps_432 : decode cL_areSteps 432 = .ok (.iload 10, 2) := by decide +kernel
theorem dL_areSteps_434 : decode cL_areSteps 434 = .ok (.iconst 2, 1) := by decide +kernel
theorem dL_areSteps_435 : decode cL_areSteps 435 = .ok (.invokevirtual 45, 3) := by decide +kernel
theorem dL_areSteps_438 : decode cL_areSteps 438 = .ok (.iload 14, 2) := by decide +kernel
theorem dL_areSteps_440 : decode cL_areSteps 440 = .ok (.if_icmp .ne 32, 3) := by decide +kernel
theorem dL_areSteps_443 : decode cL_areSteps 443 = .ok (.aload_n 0, 1) := by decide +kernel
theorem dL_areSteps_444 : decode cL_areSteps 444 = .ok (.iload 10, 2) := by decide +kernel
theorem dL_areSteps_446 : decode cL_areSteps 446 = .ok (.iconst 3, 1) := by decide +kernel
theorem dL_areSteps_447 : decode cL_areSteps 447 = .ok (.invokevirtual 45, 3) := by decide +kernel
theorem dL_areSteps_450 : decode cL_areSteps 450 = .ok (.iload 15, 2) := by decide +kernel
theorem dL_areSteps_452 : decode cL_areSteps 452 = .ok (.if_icmp .ne 20, 3) := by decide +kernel
theorem dL_areSteps_455 : decode cL_areSteps 455 = .ok (.aload_n 0, 1) := by decide +kernel
theorem dL_areSteps_456 : decode cL_areSteps 456 = .ok (.iload 10, 2) := by decide +kernel
theorem dL_areSteps_458 : decode cL_areSteps 458 = .ok (.bipush 7, 2) := by decide +kernel
theorem dL_areSteps_460 : decode cL_areSteps 460 = .ok (.invokevirtual 45, 3) := by decide +kernel
theorem dL_areSteps_463 : decode cL_areSteps 463 = .ok (.iload 12, 2) := by decide +kernel
theorem dL_areSteps_465 : decode cL_areSteps 465 = .ok (.if_icmp .ne 7, 3) := by decide +kernel
theorem dL_areSteps_468 : decode cL_areSteps 468 = .ok (.iconst 1, 1) := by decide +kernel
theorem dL_areSteps_469 : decode cL_areSteps 469 = .ok (.goto 4, 3) := by decide +kernel
theorem dL_areSteps_472 : decode cL_areSteps 472 = .ok (.iconst 0, 1) := by decide +kernel
theorem dL_areSteps_473 : decode cL_areSteps 473 = .ok (.istore 9, 2) := by decide +kernel
theorem dL_areSteps_475 : decode cL_areSteps 475 = .ok (.iinc 10 1, 3) := by decide +kernel
theorem dL_areSteps_478 : decode cL_areSteps 478 = .ok (.goto (-428), 3) := by decide +kernel
theorem dL_areSteps_481 : decode cL_areSteps 481 = .ok (.iload 9, 2) := by decide +kernel
theorem dL_areSteps_483 : decode cL_areSteps 483 = .ok (.ifCond .eq 151, 3) := by decide +kernel
theorem dL_areSteps_486 : decode cL_areSteps 486 = .ok (.aload_n 0, 1) := by decide +kernel
theorem dL_areSteps_487 : decode cL_areSteps 487 = .ok (.iconst 0, 1) := by decide +kernel
theorem dL_areSteps_488 : decode cL_areSteps 488 = .ok (.invokevirtual 53, 3) := by decide +kernel
theorem dL_areSteps_491 : decode cL_areSteps 491 = .ok (.aload_n 2, 1) := by decide +kernel
theorem dL_areSteps_492 : decode cL_areSteps 492 = .ok (.iconst 0, 1) := by decide +kernel
theorem dL_areSteps_493 : decode cL_areSteps 493 = .ok (.iaload, 1) := by decide +kernel
theorem dL_areSteps_494 : decode cL_areSteps 494 = .ok (.if_icmp .ne 140, 3) := by decide +kernel
theorem dL_areSteps_497 : decode cL_areSteps 497 = .ok (.aload_n 0, 1) := by decide +kernel
theorem dL_areSteps_498 : decode cL_areSteps 498 = .ok (.iconst 1, 1) := by decide +kernel
theorem dL_areSteps_499 : decode cL_areSteps 499 = .ok (.invokevirtual 53, 3) := by decide +kernel
theorem dL_areSteps_502 : decode cL_areSteps 502 = .ok (.iload_n 3, 1) := by decide +kernel
theorem dL_areSteps_503 : decode cL_areSteps 503 = .ok (.iconst 2, 1) := by decide +kernel
theorem dL_areSteps_504 : decode cL_areSteps 504 = .ok (.idiv, 1) := by decide +kernel
theorem dL_areSteps_505 : decode cL_areSteps 505 = .ok (.if_icmp .ne 129, 3) := by decide +kernel
theorem dL_areSteps_508 : decode cL_areSteps 508 = .ok (.aload_n 0, 1) := by decide +kernel
theorem dL_areSteps_509 : decode cL_areSteps 509 = .ok (.iconst 2, 1) := by decide +kernel
theorem dL_areSteps_510 : decode cL_areSteps 510 = .ok (.invokevirtual 53, 3) := by decide +kernel
theorem dL_areSteps_513 : decode cL_areSteps 513 = .ok (.iload 4, 2) := by decide +kernel
theorem dL_areSteps_515 : decode cL_areSteps 515 = .ok (.if_icmp .ne 119, 3) := by decide +kernel
theorem dL_areSteps_518 : decode cL_areSteps 518 = .ok (.aload_n 0, 1) := by decide +kernel
theorem dL_areSteps_519 : decode cL_areSteps 519 = .ok (.iconst 3, 1) := by decide +kernel
theorem dL_areSteps_520 : decode cL_areSteps 520 = .ok (.invokevirtual 53, 3) := by decide +kernel
theorem dL_areSteps_523 : decode cL_areSteps 523 = .ok (.iload 5, 2) := by decide +kernel
theorem dL_areSteps_525 : decode cL_areSteps 525 = .ok (.if_icmp .ne 109, 3) := by decide +kernel
theorem dL_areSteps_528 : decode cL_areSteps 528 = .ok (.aload_n 0, 1) := by decide +kernel
theorem dL_areSteps_529 : decode cL_areSteps 529 = .ok (.invokevirtual 57, 3) := by decide +kernel
theorem dL_areSteps_532 : decode cL_areSteps 532 = .ok (.iload 6, 2) := by decide +kernel
theorem dL_areSteps_534 : decode cL_areSteps 534 = .ok (.if_icmp .ne 100, 3) := by decide +kernel
theorem dL_areSteps_537 : decode cL_areSteps 537 = .ok (.aload_n 0, 1) := by decide +kernel
theorem dL_areSteps_538 : decode cL_areSteps 538 = .ok (.bipush 9, 2) := by decide +kernel
theorem dL_areSteps_540 : decode cL_areSteps 540 = .ok (.invokevirtual 53, 3) := by decide +kernel
theorem dL_areSteps_543 : decode cL_areSteps 543 = .ok (.iload 7, 2) := by decide +kernel
theorem dL_areSteps_545 : decode cL_areSteps 545 = .ok (.if_icmp .ne 89, 3) := by decide +kernel
theorem dL_areSteps_548 : decode cL_areSteps 548 = .ok (.aload_n 0, 1) := by decide +kernel
theorem dL_areSteps_549 : decode cL_areSteps 549 = .ok (.iconst 4, 1) := by decide +kernel
theorem dL_areSteps_550 : decode cL_areSteps 550 = .ok (.invokevirtual 53, 3) := by decide +kernel
theorem dL_areSteps_553 : decode cL_areSteps 553 = .ok (.aload_n 1, 1) := by decide +kernel
theorem dL_areSteps_554 : decode cL_areSteps 554 = .ok (.aload_n 2, 1) := by decide +kernel
theorem dL_areSteps_555 : decode cL_areSteps 555 = .ok (.invokestatic 37, 3) := by decide +kernel
theorem dL_areSteps_558 : decode cL_areSteps 558 = .ok (.ifCond .eq 7, 3) := by decide +kernel
theorem dL_areSteps_561 : decode cL_areSteps 561 = .ok (.iconst 1, 1) := by decide +kernel
theorem dL_areSteps_562 : decode cL_areSteps 562 = .ok (.goto 4, 3) := by decide +kernel
theorem dL_areSteps_565 : decode cL_areSteps 565 = .ok (.iconst 0, 1) := by decide +kernel
theorem dL_areSteps_566 : decode cL_areSteps 566 = .ok (.if_icmp .ne 68, 3) := by decide +kernel
theorem dL_areSteps_569 : decode cL_areSteps 569 = .ok (.aload_n 0, 1) := by decide +kernel
theorem dL_areSteps_570 : decode cL_areSteps 570 = .ok (.bipush 7, 2) := by decide +kernel
theorem dL_areSteps_572 : decode cL_areSteps 572 = .ok (.invokevirtual 53, 3) := by decide +kernel
theorem dL_areSteps_575 : decode cL_areSteps 575 = .ok (.aload_n 2, 1) := by decide +kernel
theorem dL_areSteps_576 : decode cL_areSteps 576 = .ok (.iconst 3, 1) := by decide +kernel
theorem dL_areSteps_577 : decode cL_areSteps 577 = .ok (.iaload, 1) := by decide +kernel
theorem dL_areSteps_578 : decode cL_areSteps 578 = .ok (.if_icmp .ne 56, 3) := by decide +kernel
theorem dL_areSteps_581 : decode cL_areSteps 581 = .ok (.aload_n 0, 1) := by decide +kernel
theorem dL_areSteps_582 : decode cL_areSteps 582 = .ok (.bipush 10, 2) := by decide +kernel
theorem dL_areSteps_584 : decode cL_areSteps 584 = .ok (.invokevirtual 53, 3) := by decide +kernel
theorem dL_areSteps_587 : decode cL_areSteps 587 = .ok (.aload_n 2, 1) := by decide +kernel
theorem dL_areSteps_588 : decode cL_areSteps 588 = .ok (.iconst 1, 1) := by decide +kernel
theorem dL_areSteps_589 : decode cL_areSteps 589 = .ok (.iaload, 1) := by decide +kernel
theorem dL_areSteps_590 : decode cL_areSteps 590 = .ok (.if_icmp .ne 44, 3) := by decide +kernel
theorem dL_areSteps_593 : decode cL_areSteps 593 = .ok (.aload_n 0, 1) := by decide +kernel
theorem dL_areSteps_594 : decode cL_areSteps 594 = .ok (.bipush 11, 2) := by decide +kernel
theorem dL_areSteps_596 : decode cL_areSteps 596 = .ok (.invokevirtual 53, 3) := by decide +kernel
theorem dL_areSteps_599 : decode cL_areSteps 599 = .ok (.aload_n 2, 1) := by decide +kernel
theorem dL_areSteps_600 : decode cL_areSteps 600 = .ok (.iconst 2, 1) := by decide +kernel
theorem dL_areSteps_601 : decode cL_areSteps 601 = .ok (.iaload, 1) := by decide +kernel
theorem dL_areSteps_602 : decode cL_areSteps 602 = .ok (.if_icmp .ne 32, 3) := by decide +kernel
theorem dL_areSteps_605 : decode cL_areSteps 605 = .ok (.aload_n 0, 1) := by decide +kernel
theorem dL_areSteps_606 : decode cL_areSteps 606 = .ok (.invokevirtual 61, 3) := by decide +kernel
theorem dL_areSteps_609 : decode cL_areSteps 609 = .ok (.aload_n 2, 1) := by decide +kernel
theorem dL_areSteps_610 : decode cL_areSteps 610 = .ok (.iconst 0, 1) := by decide +kernel
theorem dL_areSteps_611 : decode cL_areSteps 611 = .ok (.iaload, 1) := by decide +kernel
theorem dL_areSteps_612 : decode cL_areSteps 612 = .ok (.ifCond .ne 7, 3) := by decide +kernel
theorem dL_areSteps_615 : decode cL_areSteps 615 = .ok (.dconst 0, 1) := by decide +kernel
theorem dL_areSteps_616 : decode cL_areSteps 616 = .ok (.goto 10, 3) := by decide +kernel
theorem dL_areSteps_619 : decode cL_areSteps 619 = .ok (.iload_n 3, 1) := by decide +kernel
theorem dL_areSteps_620 : decode cL_areSteps 620 = .ok (.i2d, 1) := by decide +kernel
theorem dL_areSteps_621 : decode cL_areSteps 621 = .ok (.aload_n 2, 1) := by decide +kernel
theorem dL_areSteps_622 : decode cL_areSteps 622 = .ok (.iconst 0, 1) := by decide +kernel
theorem dL_areSteps_623 : decode cL_areSteps 623 = .ok (.iaload, 1) := by decide +kernel
theorem dL_areSteps_624 : decode cL_areSteps 624 = .ok (.i2d, 1) := by decide +kernel
theorem dL_areSteps_625 : decode cL_areSteps 625 = .ok (.ddiv, 1) := by decide +kernel
theorem dL_areSteps_626 : decode cL_areSteps 626 = .ok (.dcmp .l, 1) := by decide +kernel
theorem dL_areSteps_627 : decode cL_areSteps 627 = .ok (.ifCond .ne 7, 3) := by decide +kernel
theorem dL_areSteps_630 : decode cL_areSteps 630 = .ok (.iconst 1, 1) := by decide +kernel
theorem dL_areSteps_631 : decode cL_areSteps 631 = .ok (.goto 4, 3) := by decide +kernel
theorem dL_areSteps_634 : decode cL_areSteps 634 = .ok (.iconst 0, 1) := by decide +kernel
theorem dL_areSteps_635 : decode cL_areSteps 635 = .ok (.ireturn, 1) := by decide +kernel
set_option maxRecDepth 20000 in
theorem ggL_areFactors_L_exponent : GoodIn wsL_areFactors wsL_exponent := goodIn_r _ [4] (by decide +kernel) (by decide +kernel)
set_option maxRecDepth 20000 in
theorem gL_areFactors_L_exponent : GoodIn wsL_areFactors (va_wsS RL 23 yL_exponent wsL_exponent) := goodIn_app (goodIn_of _ (by decide +kernel)) ggL_areFactors_L_exponent
set_option maxRecDepth 20000 in
theorem ggL_areFactors_X8_factor : GoodIn wsL_areFactors wsX8_factor := goodIn_r _ [9, 10, 11, 12, 13, 14, 15, 16, 17, 18, 19, 20, 21, 22, 23, 24, 25, 26, 27, 28, 29, 30, 31, 32, 33, 34, 125, 126, 127, 128, 129, 130, 131, 132, 133, 134, 135, 136, 137, 138, 139, 140, 141] (by decide +kernel) (by decide +kernel)
set_option maxRecDepth 20000 in
theorem gL_areFactors_X8_factor : GoodIn wsL_areFactors (wsV RL 65 RX8 yX8_factor wsX8_factor) := goodIn_app (goodIn_of _ (by decide +kernel)) ggL_areFactors_X8_factor
set_option maxRecDepth 20000 in
theorem ggL_areFactors_X8_step : GoodIn wsL_areFactors wsX8_step := goodIn_r _ [38, 10, 39, 11, 12, 13, 14, 15, 16, 17, 18, 19, 20, 21, 40, 41, 42, 43, 44, 45, 46, 47, 48, 49, 50, 51, 24, 52, 53, 30, 31, 54, 55, 56, 57, 58, 59, 60, 61, 62, 63, 64, 65, 66, 67, 68, 69, 70, 71, 72, 73, 74, 75, 76, 77, 78, 79, 80, 81, 82, 83, 84, 85, 86, 87, 88, 26, 27, 28, 29, 32, 33, 34, 89, 90, 91, 92, 93, 94, 95, 96, 97, 98, 99, 100, 101, 102, 103, 104, 105, 106, 107, 108, 109, 110, 111, 112, 113, 125, 126, 127, 128, 129, 130, 131, 132, 133, 134, 135, 136, 137, 138, 139, 140, 141, 142, 143] (by decide +kernel) (by decide +kernel)
set_option maxRecDepth 20000 in
theorem gL_areFactors_X8_step : GoodIn wsL_areFactors (wsV RL 45 RX8 yX8_step wsX8_step) := goodIn_app (goodIn_of _ (by decide +kernel)) ggL_areFactors_X8_step
set_option maxRecDepth 20000 in
theorem ggL_areFactors_X8_common : GoodIn wsL_areFactors wsX8_common := goodIn_r _ [117, 10, 11, 12, 13, 14, 15, 16, 17, 18, 19, 20, 21, 118, 51, 24, 52, 119, 120, 121, 26, 27, 28, 29, 30, 31, 32, 33, 34, 125, 126, 127, 128, 129, 130, 131, 132, 133, 134, 135, 136, 137, 138, 139, 140, 141] (by decide +kernel) (by decide +kernel)
set_option maxRecDepth 20000 in
theorem gL_areFactors_X8_common : GoodIn wsL_areFactors (wsV RL 68 RX8 yX8_common wsX8_common) := goodIn_app (goodIn_of _ (by decide +kernel)) ggL_areFactors_X8_common
set_option maxRecDepth 20000 in
theorem ggL_areFactors_L_common : GoodIn wsL_areFactors wsL_common := goodIn_r _ [124] (by decide +kernel) (by decide +kernel)
set_option maxRecDepth 20000 in
theorem gL_areFactors_L_common : GoodIn wsL_areFactors (va_wsS RL 15 yL_common wsL_common) := goodIn_app (goodIn_of _ (by decide +kernel)) ggL_areFactors_L_common
theorem dL_areFactors_0 : decode cL_areFactors 0 = .ok (.iconst 1, 1) := by decide +kernel
theorem dL_areFactors_1 : decode cL_areFactors 1 = .ok (.istore 4, 2) := by decide +kernel
theorem dL_areFactors_3 : decode cL_areFactors 3 = .ok (.iconst 0, 1) := by decide +kernel
theorem dL_areFactors_4 : decode cL_areFactors 4 = .ok (.istore 5, 2) := by decide +kernel
theorem dL_areFactors_6 : decode cL_areFactors 6 = .ok (.iload 5, 2) := by decide +kernel
theorem dL_areFactors_8 : decode cL_areFactors 8 = .ok (.aload_n 2, 1) := by decide +kernel
theorem dL_areFactors_9 : decode cL_areFactors 9 = .ok (.iconst 0, 1) := by decide +kernel
theorem dL_areFactors_10 : decode cL_areFactors 10 = .ok (.iaload, 1) := by decide +kernel
theorem dL_areFactors_11 : decode cL_areFactors 11 = .ok (.if_icmp .ge 268, 3) := by decide +kernel
theorem dL_areFactors_14 : decode cL_areFactors 14 = .ok (.iload 4, 2) := by decide +kernel
theorem dL_areFactors_16 : decode cL_areFactors 16 = .ok (.ifCond .eq 263, 3) := by decide +kernel
theorem dL_areFactors_19 : decode cL_areFactors 19 = .ok (.iconst 0, 1) := by decide +kernel
theorem dL_areFactors_20 : decode cL_areFactors 20 = .ok (.istore 6, 2) := by decide +kernel
theorem dL_areFactors_22 : decode cL_areFactors 22 = .ok (.iconst 0, 1) := by decide +kernel
theorem dL_areFactors_23 : decode cL_areFactors 23 = .ok (.istore 7, 2) := by decide +kernel
theorem dL_areFactors_25 : decode cL_areFactors 25 = .ok (.bipush (-4), 2) := by decide +kernel
theorem dL_areFactors_27 : decode cL_areFactors 27 = .ok (.istore 8, 2) := by decide +kernel
theorem dL_areFactors_29 : decode cL_areFactors 29 = .ok (.iconst 0, 1) := by decide +kernel
theorem dL_areFactors_30 : decode cL_areFactors 30 = .ok (.istore 9, 2) := by decide +kernel
theorem dL_areFactors_32 : decode cL_areFactors 32 = .ok (.iload 9, 2) := by decide +kernel
theorem dL_areFactors_34 : decode cL_areFactors 34 = .ok (.bipush 25, 2) := by decide +kernel
theorem dL_areFactors_36 : decode cL_areFactors 36 = .ok (.if_icmp .ge 89, 3) := by decide +kernel
theorem dL_areFactors_39 : decode cL_areFactors 39 = .ok (.aload_n 1, 1) := by decide +kernel
theorem dL_areFactors_40 : decode cL_areFactors 40 = .ok (.iload 5, 2) := by decide +kernel
theorem dL_areFactors_42 : decode cL_areFactors 42 = .ok (.iaload, 1) := by decide +kernel
theorem dL_areFactors_43 : decode cL_areFactors 43 = .ok (.aload_n 3, 1) := by decide +kernel
theorem dL_areFactors_44 : decode cL_areFactors 44 = .ok (.iload 9, 2) := by decide +kernel
theorem dL_areFactors_46 : decode cL_areFactors 46 = .ok (.iaload, 1) := by decide +kernel
theorem dL_areFactors_47 : decode cL_areFactors 47 = .ok (.invokestatic 23, 3) := by decide +kernel
theorem dL_areFactors_50 : decode cL_areFactors 50 = .ok (.istore 10, 2) := by decide +kernel
theorem dL_areFactors_52 : decode cL_areFactors 52 = .ok (.iload 7, 2) := by decide +kernel
theorem dL_areFactors_54 : decode cL_areFactors 54 = .ok (.iload 10, 2) := by decide +kernel
theorem dL_areFactors_56 : decode cL_areFactors 56 = .ok (.ifCond .le 7, 3) := by decide +kernel
theorem dL_areFactors_59 : decode cL_areFactors 59 = .ok (.iconst 1, 1) := by decide +kernel
theorem dL_areFactors_60 : decode cL_areFactors 60 = .ok (.goto 4, 3) := by decide +kernel
theorem dL_areFactors_63 : decode cL_areFactors 63 = .ok (.iconst 0, 1) := by decide +kernel
theorem dL_areFactors_64 : decode cL_areFactors 64 = .ok (.iadd, 1) := by decide +kernel
theorem dL_areFactors_65 : decode cL_areFactors 65 = .ok (.istore 7, 2) := by decide +kernel
theorem dL_areFactors_67 : decode cL_areFactors 67 = .ok (.iconst 0, 1) := by decide +kernel
theorem dL_areFactors_68 : decode cL_areFactors 68 = .ok (.istore 11, 2) := by decide +kernel
theorem dL_areFactors_70 : decode cL_areFactors 70 = .ok (.iload 11, 2) := by decide +kernel
theorem dL_areFactors_72 : decode cL_areFactors 72 = .ok (.iload 10, 2) := by decide +kernel
theorem dL_areFactors_74 : decode cL_areFactors 74 = .ok (.if_icmp .ge 45, 3) := by decide +kernel
theorem dL_areFactors_77 : decode cL_areFactors 77 = .ok (.iload 4, 2) := by decide +kernel
theorem dL_areFactors_79 : decode cL_areFactors 79 = .ok (.ifCond .eq 22, 3) := by decide +kernel
theorem dL_areFactors_82 : decode cL_areFactors 82 = .ok (.aload_n 0, 1) := by decide +kernel
theorem dL_areFactors_83 : decode cL_areFactors 83 = .ok (.iload 5, 2) := by decide +kernel
theorem dL_areFactors_85 : decode cL_areFactors 85 = .ok (.iload 6, 2) := by decide +kernel
theorem dL_areFactors_87 : decode cL_areFactors 87 = .ok (.invokevirtual 65, 3) := by decide +kernel
theorem dL_areFactors_90 : decode cL_areFactors 90 = .ok (.aload_n 3, 1) := by decide +kernel
theorem dL_areFactors_91 : decode cL_areFactors 91 = .ok (.iload 9, 2) := by decide +kernel
theorem dL_areFactors_93 : decode cL_areFactors 93 = .ok (.iaload, 1) := by decide +kernel
theorem dL_areFactors_94 : decode cL_areFactors 94 = .ok (.if_icmp .ne 7, 3) := by decide +kernel
theorem dL_areFactors_97 : decode cL_areFactors 97 = .ok (.iconst 1, 1) := by decide +kernel
theorem dL_areFactors_98 : decode cL_areFactors 98 = .ok (.goto 4, 3) := by decide +kernel
theorem dL_areFactors_101 : decode cL_areFactors 101 = .ok (.iconst 0, 1) := by decide +kernel
theorem dL_areFactors_102 : decode cL_areFactors 102 = .ok (.istore 4, 2) := by decide +kernel
theorem dL_areFactors_104 : decode cL_areFactors 104 = .ok (.aload_n 3, 1) := by decide +kernel
theorem dL_areFactors_105 : decode cL_areFactors 105 = .ok (.iload 9, 2) := by decide +kernel
theorem dL_areFactors_107 : decode cL_areFactors 107 = .ok (.iaload, 1) := by decide +kernel
theorem dL_areFactors_108 : decode cL_areFactors 108 = .ok (.istore 8, 2) := by decide +kernel
theorem dL_areFactors_110 : decode cL_areFactors 110 = .ok (.iinc 6 1, 3) := by decide +kernel
theorem dL_areFactors_113 : decode cL_areFactors 113 = .ok (.iinc 11 1, 3) := by decide +kernel
theorem dL_areFactors_116 : decode cL_areFactors 116 = .ok (.goto (-46), 3) := by decide +kernel
theorem dL_areFactors_119 : decode cL_areFactors 119 = .ok (.iinc 9 1, 3) := by decide +kernel
theorem dL_areFactors_122 : decode cL_areFactors 122 = .ok (.goto (-90), 3) := by decide +kernel
theorem dL_areFactors_125 : decode cL_areFactors 125 = .ok (.iload 4, 2) := by decide +kernel
theorem dL_areFactors_127 : decode cL_areFactors 127 = .ok (.ifCond .eq 68, 3) := by decide +kernel
theorem dL_areFactors_130 : decode cL_areFactors 130 = .ok (.aload_n 0, 1) := by decide +kernel
theorem dL_areFactors_131 : decode cL_areFactors 131 = .ok (.iload 5, 2) := by decide +kernel
theorem dL_areFactors_133 : decode cL_areFactors 133 = .ok (.iload 6, 2) := by decide +kernel
theorem dL_areFactors_135 : decode cL_areFactors 135 = .ok (.invokevirtual 65, 3) := by decide +kernel
theorem dL_areFactors_138 : decode cL_areFactors 138 = .ok (.bipush (-4), 2) := by decide +kernel
theorem dL_areFactors_140 : decode cL_areFactors 140 = .ok (.if_icmp .ne 55, 3) := by decide +kernel
theorem dL_areFactors_143 : decode cL_areFactors 143 = .ok (.aload_n 0, 1) := by decide +kernel
theorem dL_areFactors_144 : decode cL_areFactors 144 = .ok (.iload 5, 2) := by decide +kernel
theorem dL_areFactors_146 : decode cL_areFactors 146 = .ok (.iconst (-1), 1) := by decide +kernel
theorem dL_areFactors_147 : decode cL_areFactors 147 = .ok (.invokevirtual 65, 3) := by decide +kernel
theorem dL_areFactors_150 : decode cL_areFactors 150 = .ok (.iconst (-1), 1) := by decide +kernel
theorem dL_areFactors_151 : decode cL_areFactors 151 = .ok (.if_icmp .ne 44, 3) := by decide +kernel
theorem dL_areFactors_154 : decode cL_areFactors 154 = .ok (.aload_n 0, 1) := by decide +kernel
theorem dL_areFactors_155 : decode cL_areFactors 155 = .ok (.iload 5, 2) := by decide +kernel
theorem dL_areFactors_157 : decode cL_areFactors 157 = .ok (.iconst 4, 1) := by decide +kernel
theorem dL_areFactors_158 : decode cL_areFactors 158 = .ok (.invokevirtual 45, 3) := by decide +kernel
theorem dL_areFactors_161 : decode cL_areFactors 161 = .ok (.iload 6, 2) := by decide +kernel
theorem dL_areFactors_163 : decode cL_areFactors 163 = .ok (.if_icmp .ne 32, 3) := by decide +kernel
theorem dL_areFactors_166 : decode cL_areFactors 166 = .ok (.aload_n 0, 1) := by decide +kernel
theorem dL_areFactors_167 : decode cL_areFactors 167 = .ok (.iload 5, 2) := by decide +kernel
theorem dL_areFactors_169 : decode cL_areFactors 169 = .ok (.iconst 5, 1) := by decide +kernel
theorem dL_areFactors_170 : decode cL_areFactors 170 = .ok (.invokevirtual 45, 3) := by decide +kernel
theorem dL_areFactors_173 : decode cL_areFactors 173 = .ok (.iload 7, 2) := by decide +kernel
theorem dL_areFactors_175 : decode cL_areFactors 175 = .ok (.if_icmp .ne 20, 3) := by decide +kernel
theorem dL_areFactors_178 : decode cL_areFactors 178 = .ok (.aload_n 0, 1) := by decide +kernel
theorem dL_areFactors_179 : decode cL_areFactors 179 = .ok (.iload 5, 2) := by decide +kernel
theorem dL_areFactors_181 : decode cL_areFactors 181 = .ok (.bipush 6, 2) := by decide +kernel
theorem dL_areFactors_183 : decode cL_areFactors 183 = .ok (.invokevirtual 45, 3) := by decide +kernel
theorem dL_areFactors_186 : decode cL_areFactors 186 = .ok (.iload 8, 2) := by decide +kernel
theorem dL_areFactors_188 : decode cL_areFactors 188 = .ok (.if_icmp .ne 7, 3) := by decide +kernel
theorem dL_areFactors_191 : decode cL_areFactors 191 = .ok (.iconst 1, 1) := by decide +kernel
theorem dL_areFactors_192 : decode cL_areFactors 192 = .ok (.goto 4, 3) := by decide +kernel
theorem dL_areFactors_195 : decode cL_areFactors 195 = .ok (.iconst 0, 1) := by decide +kernel
theorem dL_areFactors_196 : decode cL_areFactors 196 = .ok (.istore 4, 2) := by decide +kernel
theorem dL_areFactors_198 : decode cL_areFactors 198 = .ok (.iconst 0, 1) := by decide +kernel
theorem dL_areFactors_199 : decode cL_areFactors 199 = .ok (.istore 9, 2) := by decide +kernel
theorem dL_areFactors_201 : decode cL_areFactors 201 = .ok (.iload 9, 2) := by decide +kernel
