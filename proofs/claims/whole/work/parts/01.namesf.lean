theorem dX8_mean_28 : decode cX8_mean 28 = .ok (.aload_n 0, 1) := by decide +kernel
theorem dX8_mean_29 : decode cX8_mean 29 = .ok (.getfield 10, 3) := by decide +kernel
theorem dX8_mean_32 : decode cX8_mean 32 = .ok (.iload_n 2, 1) := by decide +kernel
theorem dX8_mean_33 : decode cX8_mean 33 = .ok (.invokevirtual 144, 3) := by decide +kernel
theorem dX8_mean_36 : decode cX8_mean 36 = .ok (.iadd, 1) := by decide +kernel
theorem dX8_mean_37 : decode cX8_mean 37 = .ok (.istore_n 1, 1) := by decide +kernel
theorem dX8_mean_38 : decode cX8_mean 38 = .ok (.iinc 2 1, 3) := by decide +kernel
theorem dX8_mean_41 : decode cX8_mean 41 = .ok (.goto (-25), 3) := by decide +kernel
theorem dX8_mean_44 : decode cX8_mean 44 = .ok (.iload_n 1, 1) := by decide +kernel
theorem dX8_mean_45 : decode cX8_mean 45 = .ok (.i2d, 1) := by decide +kernel
theorem dX8_mean_46 : decode cX8_mean 46 = .ok (.aload_n 0, 1) := by decide +kernel
theorem dX8_mean_47 : decode cX8_mean 47 = .ok (.getfield 10, 3) := by decide +kernel
theorem dX8_mean_50 : decode cX8_mean 50 = .ok (.getfield 97, 3) := by decide +kernel
theorem dX8_mean_53 : decode cX8_mean 53 = .ok (.i2d, 1) := by decide +kernel
theorem dX8_mean_54 : decode cX8_mean 54 = .ok (.ddiv, 1) := by decide +kernel
theorem dX8_mean_55 : decode cX8_mean 55 = .ok (.dreturn, 1) := by decide +kernel
set_option maxRecDepth 20000 in
theorem ggX8_ifDone_X6_has : GoodIn wsX8_ifDone wsX6_has := goodIn_r _ [9, 10, 208, 209, 210, 211, 212, 213] (by decide +kernel) (by decide +kernel)
set_option maxRecDepth 20000 in
theorem gX8_ifDone_X6_has : GoodIn wsX8_ifDone (wsV RX8 138 RX6 yX6_has wsX6_has) := goodIn_app (goodIn_of _ (by decide +kernel)) ggX8_ifDone_X6_has
set_option maxRecDepth 20000 in
theorem ggX8_ifDone_X6_numberOf : GoodIn wsX8_ifDone wsX6_numberOf := goodIn_r _ [14, 10, 15, 208, 209, 210, 211, 212, 213] (by decide +kernel) (by decide +kernel)
set_option maxRecDepth 20000 in
theorem gX8_ifDone_X6_numberOf : GoodIn wsX8_ifDone (wsV RX8 141 RX6 yX6_numberOf wsX6_numberOf) := goodIn_app (goodIn_of _ (by decide +kernel)) ggX8_ifDone_X6_numberOf
set_option maxRecDepth 20000 in
theorem ggX8_ifDone_X6_copyFrom : GoodIn wsX8_ifDone wsX6_copyFrom := goodIn_r _ [19, 10, 20, 21, 22, 15, 23, 24, 25, 26, 27, 28, 29, 30, 31, 32, 33, 34, 35, 36, 37, 38, 39, 40, 41, 42, 43, 44, 45, 46, 47, 48, 49, 50, 51, 52, 53, 54, 55, 56, 57, 58, 208, 209, 210, 211, 212, 213, 214, 215, 216, 217] (by decide +kernel) (by decide +kernel)
set_option maxRecDepth 20000 in
theorem gX8_ifDone_X6_copyFrom : GoodIn wsX8_ifDone (wsV RX8 74 RX6 yX6_copyFrom wsX6_copyFrom) := goodIn_app (goodIn_of _ (by decide +kernel)) ggX8_ifDone_X6_copyFrom
set_option maxRecDepth 20000 in
theorem ggX8_ifDone_X7_greatestPrime : GoodIn wsX8_ifDone wsX7_greatestPrime := goodIn_r _ [62, 63, 64, 61, 65, 66, 67, 68, 69, 70, 71, 72, 73, 74, 75, 76, 77] (by decide +kernel) (by decide +kernel)
set_option maxRecDepth 20000 in
theorem gX8_ifDone_X7_greatestPrime : GoodIn wsX8_ifDone (va_wsS RX8 164 yX7_greatestPrime wsX7_greatestPrime) := goodIn_app (goodIn_of _ (by decide +kernel)) ggX8_ifDone_X7_greatestPrime
set_option maxRecDepth 20000 in
theorem ggX8_ifDone_X6_deed : GoodIn wsX8_ifDone wsX6_deed := goodIn_r _ [81, 82, 83, 84, 8, 85, 15, 86, 6, 7, 9, 10, 87, 12, 13, 14, 88, 89, 61, 90, 91, 92, 93, 75, 76, 77, 94, 95, 32, 26, 33, 96, 97, 98, 99, 100, 67, 68, 101, 102, 103, 104, 23, 22, 105, 106, 107, 108, 37, 109, 39, 41, 42, 43, 44, 45, 46, 40, 47, 48, 49, 50, 51, 52, 53, 54, 55, 56, 57, 110, 64, 65, 66, 111, 112, 113, 114, 115, 29, 30, 116, 117, 118, 119, 120, 121, 122, 123, 124, 125, 126, 127, 128, 129, 130, 131, 132, 133, 63, 208, 209, 210, 211, 212, 213, 214, 215, 216, 217] (by decide +kernel) (by decide +kernel)
set_option maxRecDepth 20000 in
theorem gX8_ifDone_X6_deed : GoodIn wsX8_ifDone (wsV RX8 125 RX6 yX6_deed wsX6_deed) := goodIn_app (goodIn_of _ (by decide +kernel)) ggX8_ifDone_X6_deed
set_option maxRecDepth 20000 in
theorem ggX8_ifDone_X6_pairs : GoodIn wsX8_ifDone wsX6_pairs := goodIn_r _ [137, 10, 138, 139, 140, 8, 141, 20, 87, 12, 13, 14, 15, 94, 92, 61, 93, 100, 67, 68, 208, 209, 210, 211, 212, 213] (by decide +kernel) (by decide +kernel)
set_option maxRecDepth 20000 in
theorem gX8_ifDone_X6_pairs : GoodIn wsX8_ifDone (wsV RX8 242 RX6 yX6_pairs wsX6_pairs) := goodIn_app (goodIn_of _ (by decide +kernel)) ggX8_ifDone_X6_pairs
set_option maxRecDepth 20000 in
theorem ggX8_ifDone_X2_find : GoodIn wsX8_ifDone wsX2_find := goodIn_r _ [146, 147, 148, 149, 32, 26, 33, 150, 139, 140, 8, 141, 20, 87, 12, 13, 14, 10, 15, 94, 92, 61, 93, 100, 67, 68, 151, 152, 153, 145, 154, 155, 29, 30, 156, 157, 158, 159, 160, 52, 49, 53, 208, 209, 210, 211, 212, 213, 218, 219] (by decide +kernel) (by decide +kernel)
set_option maxRecDepth 20000 in
theorem gX8_ifDone_X2_find : GoodIn wsX8_ifDone (wsV RX8 147 RX2 yX2_find wsX2_find) := goodIn_app (goodIn_of _ (by decide +kernel)) ggX8_ifDone_X2_find
set_option maxRecDepth 20000 in
theorem ggX8_ifDone_X2_many : GoodIn wsX8_ifDone wsX2_many := goodIn_r _ [164, 147, 151, 152, 153, 145, 154, 148, 155, 29, 26, 30, 218, 219] (by decide +kernel) (by decide +kernel)
set_option maxRecDepth 20000 in
theorem gX8_ifDone_X2_many : GoodIn wsX8_ifDone (wsV RX8 245 RX2 yX2_many wsX2_many) := goodIn_app (goodIn_of _ (by decide +kernel)) ggX8_ifDone_X2_many
set_option maxRecDepth 20000 in
theorem ggX8_ifDone_X1_seekLongest : GoodIn wsX8_ifDone wsX1_seekLongest := goodIn_r _ [169, 170, 171, 172, 173, 174, 175, 176, 177, 168, 178, 179, 180, 181, 8, 182, 183, 184, 185, 186, 21, 138, 139, 140, 141, 20, 87, 12, 13, 14, 10, 15, 94, 92, 61, 93, 100, 67, 68, 187, 29, 26, 30, 188, 32, 33, 200, 201, 202, 203, 204, 205, 206, 207, 208, 209, 210, 211, 212, 213] (by decide +kernel) (by decide +kernel)
set_option maxRecDepth 20000 in
theorem gX8_ifDone_X1_seekLongest : GoodIn wsX8_ifDone (wsV RX8 280 RX1 yX1_seekLongest wsX1_seekLongest) := goodIn_app (goodIn_of _ (by decide +kernel)) ggX8_ifDone_X1_seekLongest
theorem dX8_ifDone_0 : decode cX8_ifDone 0 = .ok (.iload_n 1, 1) := by decide +kernel
theorem dX8_ifDone_1 : decode cX8_ifDone 1 = .ok (.ifCond .lt 28, 3) := by decide +kernel
theorem dX8_ifDone_4 : decode cX8_ifDone 4 = .ok (.iload_n 1, 1) := by decide +kernel
theorem dX8_ifDone_5 : decode cX8_ifDone 5 = .ok (.iconst 2, 1) := by decide +kernel
theorem dX8_ifDone_6 : decode cX8_ifDone 6 = .ok (.if_icmp .gt 23, 3) := by decide +kernel
theorem dX8_ifDone_9 : decode cX8_ifDone 9 = .ok (.aload_n 0, 1) := by decide +kernel
theorem dX8_ifDone_10 : decode cX8_ifDone 10 = .ok (.getfield 10, 3) := by decide +kernel
theorem dX8_ifDone_13 : decode cX8_ifDone 13 = .ok (.iload_n 2, 1) := by decide +kernel
theorem dX8_ifDone_14 : decode cX8_ifDone 14 = .ok (.invokevirtual 138, 3) := by decide +kernel
theorem dX8_ifDone_17 : decode cX8_ifDone 17 = .ok (.ifCond .eq 12, 3) := by decide +kernel
theorem dX8_ifDone_20 : decode cX8_ifDone 20 = .ok (.iload_n 3, 1) := by decide +kernel
theorem dX8_ifDone_21 : decode cX8_ifDone 21 = .ok (.ifCond .lt 8, 3) := by decide +kernel
theorem dX8_ifDone_24 : decode cX8_ifDone 24 = .ok (.iload_n 3, 1) := by decide +kernel
theorem dX8_ifDone_25 : decode cX8_ifDone 25 = .ok (.iconst 3, 1) := by decide +kernel
theorem dX8_ifDone_26 : decode cX8_ifDone 26 = .ok (.if_icmp .le 5, 3) := by decide +kernel
theorem dX8_ifDone_29 : decode cX8_ifDone 29 = .ok (.iconst (-1), 1) := by decide +kernel
theorem dX8_ifDone_30 : decode cX8_ifDone 30 = .ok (.ireturn, 1) := by decide +kernel
theorem dX8_ifDone_31 : decode cX8_ifDone 31 = .ok (.aload_n 0, 1) := by decide +kernel
theorem dX8_ifDone_32 : decode cX8_ifDone 32 = .ok (.getfield 10, 3) := by decide +kernel
theorem dX8_ifDone_35 : decode cX8_ifDone 35 = .ok (.iload_n 2, 1) := by decide +kernel
theorem dX8_ifDone_36 : decode cX8_ifDone 36 = .ok (.invokevirtual 141, 3) := by decide +kernel
theorem dX8_ifDone_39 : decode cX8_ifDone 39 = .ok (.istore 4, 2) := by decide +kernel
theorem dX8_ifDone_41 : decode cX8_ifDone 41 = .ok (.iload_n 1, 1) := by decide +kernel
theorem dX8_ifDone_42 : decode cX8_ifDone 42 = .ok (.iconst 2, 1) := by decide +kernel
theorem dX8_ifDone_43 : decode cX8_ifDone 43 = .ok (.if_icmp .ne 12, 3) := by decide +kernel
theorem dX8_ifDone_46 : decode cX8_ifDone 46 = .ok (.iload 4, 2) := by decide +kernel
theorem dX8_ifDone_48 : decode cX8_ifDone 48 = .ok (.iconst 1, 1) := by decide +kernel
theorem dX8_ifDone_49 : decode cX8_ifDone 49 = .ok (.if_icmp .ne 6, 3) := by decide +kernel
theorem dX8_ifDone_52 : decode cX8_ifDone 52 = .ok (.bipush (-2), 2) := by decide +kernel
theorem dX8_ifDone_54 : decode cX8_ifDone 54 = .ok (.ireturn, 1) := by decide +kernel
theorem dX8_ifDone_55 : decode cX8_ifDone 55 = .ok (.aload_n 0, 1) := by decide +kernel
theorem dX8_ifDone_56 : decode cX8_ifDone 56 = .ok (.getfield 16, 3) := by decide +kernel
theorem dX8_ifDone_59 : decode cX8_ifDone 59 = .ok (.aload_n 0, 1) := by decide +kernel
theorem dX8_ifDone_60 : decode cX8_ifDone 60 = .ok (.getfield 10, 3) := by decide +kernel
theorem dX8_ifDone_63 : decode cX8_ifDone 63 = .ok (.invokevirtual 74, 3) := by decide +kernel
theorem dX8_ifDone_66 : decode cX8_ifDone 66 = .ok (.aload_n 0, 1) := by decide +kernel
theorem dX8_ifDone_67 : decode cX8_ifDone 67 = .ok (.getfield 16, 3) := by decide +kernel
theorem dX8_ifDone_70 : decode cX8_ifDone 70 = .ok (.iload_n 1, 1) := by decide +kernel
theorem dX8_ifDone_71 : decode cX8_ifDone 71 = .ok (.iload_n 2, 1) := by decide +kernel
theorem dX8_ifDone_72 : decode cX8_ifDone 72 = .ok (.iload 4, 2) := by decide +kernel
theorem dX8_ifDone_74 : decode cX8_ifDone 74 = .ok (.invokestatic 164, 3) := by decide +kernel
theorem dX8_ifDone_77 : decode cX8_ifDone 77 = .ok (.invokevirtual 125, 3) := by decide +kernel
theorem dX8_ifDone_80 : decode cX8_ifDone 80 = .ok (.istore 5, 2) := by decide +kernel
theorem dX8_ifDone_82 : decode cX8_ifDone 82 = .ok (.iload 5, 2) := by decide +kernel
theorem dX8_ifDone_84 : decode cX8_ifDone 84 = .ok (.ifCond .ge 6, 3) := by decide +kernel
theorem dX8_ifDone_87 : decode cX8_ifDone 87 = .ok (.iload 5, 2) := by decide +kernel
theorem dX8_ifDone_89 : decode cX8_ifDone 89 = .ok (.ireturn, 1) := by decide +kernel
theorem dX8_ifDone_90 : decode cX8_ifDone 90 = .ok (.iload_n 3, 1) := by decide +kernel
theorem dX8_ifDone_91 : decode cX8_ifDone 91 = .ok (.tableswitch 71 0 2 #[25, 33, 52], 25) := by decide +kernel
theorem dX8_ifDone_116 : decode cX8_ifDone 116 = .ok (.aload_n 0, 1) := by decide +kernel
theorem dX8_ifDone_117 : decode cX8_ifDone 117 = .ok (.getfield 16, 3) := by decide +kernel
theorem dX8_ifDone_120 : decode cX8_ifDone 120 = .ok (.invokevirtual 242, 3) := by decide +kernel
theorem dX8_ifDone_123 : decode cX8_ifDone 123 = .ok (.ireturn, 1) := by decide +kernel
theorem dX8_ifDone_124 : decode cX8_ifDone 124 = .ok (.aload_n 0, 1) := by decide +kernel
theorem dX8_ifDone_125 : decode cX8_ifDone 125 = .ok (.getfield 39, 3) := by decide +kernel
theorem dX8_ifDone_128 : decode cX8_ifDone 128 = .ok (.aload_n 0, 1) := by decide +kernel
theorem dX8_ifDone_129 : decode cX8_ifDone 129 = .ok (.getfield 16, 3) := by decide +kernel
theorem dX8_ifDone_132 : decode cX8_ifDone 132 = .ok (.invokevirtual 147, 3) := by decide +kernel
theorem dX8_ifDone_135 : decode cX8_ifDone 135 = .ok (.aload_n 0, 1) := by decide +kernel
theorem dX8_ifDone_136 : decode cX8_ifDone 136 = .ok (.getfield 39, 3) := by decide +kernel
theorem dX8_ifDone_139 : decode cX8_ifDone 139 = .ok (.invokevirtual 245, 3) := by decide +kernel
theorem dX8_ifDone_142 : decode cX8_ifDone 142 = .ok (.ireturn, 1) := by decide +kernel
theorem dX8_ifDone_143 : decode cX8_ifDone 143 = .ok (.aload_n 0, 1) := by decide +kernel
theorem dX8_ifDone_144 : decode cX8_ifDone 144 = .ok (.getfield 46, 3) := by decide +kernel
theorem dX8_ifDone_147 : decode cX8_ifDone 147 = .ok (.aload_n 0, 1) := by decide +kernel
theorem dX8_ifDone_148 : decode cX8_ifDone 148 = .ok (.getfield 16, 3) := by decide +kernel
theorem dX8_ifDone_151 : decode cX8_ifDone 151 = .ok (.invokevirtual 280, 3) := by decide +kernel
theorem dX8_ifDone_154 : decode cX8_ifDone 154 = .ok (.aload_n 0, 1) := by decide +kernel
theorem dX8_ifDone_155 : decode cX8_ifDone 155 = .ok (.getfield 46, 3) := by decide +kernel
theorem dX8_ifDone_158 : decode cX8_ifDone 158 = .ok (.getfield 283, 3) := by decide +kernel
theorem dX8_ifDone_161 : decode cX8_ifDone 161 = .ok (.ireturn, 1) := by decide +kernel
theorem dX8_ifDone_162 : decode cX8_ifDone 162 = .ok (.aload_n 0, 1) := by decide +kernel
theorem dX8_ifDone_163 : decode cX8_ifDone 163 = .ok (.getfield 16, 3) := by decide +kernel
theorem dX8_ifDone_166 : decode cX8_ifDone 166 = .ok (.getfield 97, 3) := by decide +kernel
theorem dX8_ifDone_169 : decode cX8_ifDone 169 = .ok (.ireturn, 1) := by decide +kernel
set_option maxRecDepth 20000 in
theorem ggX8_longest_X1_seekLongest : GoodIn wsX8_longest wsX1_seekLongest := goodIn_r _ [7, 8, 9, 10, 11, 12, 13, 14, 15, 6, 16, 17, 18, 19, 20, 21, 22, 23, 24, 25, 26, 27, 28, 29, 30, 31, 32, 33, 34, 35, 36, 37, 38, 39, 40, 41, 42, 43, 44, 45, 46, 47, 48, 49, 50, 51, 69, 70, 71, 72, 73, 74, 75, 76, 63, 64, 65, 66, 67, 68] (by decide +kernel) (by decide +kernel)
set_option maxRecDepth 20000 in
theorem gX8_longest_X1_seekLongest : GoodIn wsX8_longest (wsV RX8 280 RX1 yX1_seekLongest wsX1_seekLongest) := goodIn_app (goodIn_of _ (by decide +kernel)) ggX8_longest_X1_seekLongest
theorem dX8_longest_0 : decode cX8_longest 0 = .ok (.iload_n 1, 1) := by decide +kernel
theorem dX8_longest_1 : decode cX8_longest 1 = .ok (.ifCond .lt 8, 3) := by decide +kernel
theorem dX8_longest_4 : decode cX8_longest 4 = .ok (.iload_n 1, 1) := by decide +kernel
theorem dX8_longest_5 : decode cX8_longest 5 = .ok (.iconst 2, 1) := by decide +kernel
theorem dX8_longest_6 : decode cX8_longest 6 = .ok (.if_icmp .le 5, 3) := by decide +kernel
theorem dX8_longest_9 : decode cX8_longest 9 = .ok (.iconst (-1), 1) := by decide +kernel
theorem dX8_longest_10 : decode cX8_longest 10 = .ok (.ireturn, 1) := by decide +kernel
theorem dX8_longest_11 : decode cX8_longest 11 = .ok (.aload_n 0, 1) := by decide +kernel
theorem dX8_longest_12 : decode cX8_longest 12 = .ok (.getfield 10, 3) := by decide +kernel
theorem dX8_longest_15 : decode cX8_longest 15 = .ok (.getfield 97, 3) := by decide +kernel
theorem dX8_longest_18 : decode cX8_longest 18 = .ok (.ifCond .ne 6, 3) := by decide +kernel
theorem dX8_longest_21 : decode cX8_longest 21 = .ok (.bipush (-4), 2) := by decide +kernel
theorem dX8_longest_23 : decode cX8_longest 23 = .ok (.ireturn, 1) := by decide +kernel
theorem dX8_longest_24 : decode cX8_longest 24 = .ok (.aload_n 0, 1) := by decide +kernel
theorem dX8_longest_25 : decode cX8_longest 25 = .ok (.getfield 46, 3) := by decide +kernel
theorem dX8_longest_28 : decode cX8_longest 28 = .ok (.aload_n 0, 1) := by decide +kernel
theorem dX8_longest_29 : decode cX8_longest 29 = .ok (.getfield 10, 3) := by decide +kernel
theorem dX8_longest_32 : decode cX8_longest 32 = .ok (.invokevirtual 280, 3) := by decide +kernel
theorem dX8_longest_35 : decode cX8_longest 35 = .ok (.iload_n 1, 1) := by decide +kernel
theorem dX8_longest_36 : decode cX8_longest 36 = .ok (.lookupswitch 44 #[(0, 28), (1, 36)], 28) := by decide +kernel
theorem dX8_longest_64 : decode cX8_longest 64 = .ok (.aload_n 0, 1) := by decide +kernel
theorem dX8_longest_65 : decode cX8_longest 65 = .ok (.getfield 46, 3) := by decide +kernel
theorem dX8_longest_68 : decode cX8_longest 68 = .ok (.getfield 283, 3) := by decide +kernel
theorem dX8_longest_71 : decode cX8_longest 71 = .ok (.ireturn, 1) := by decide +kernel
theorem dX8_longest_72 : decode cX8_longest 72 = .ok (.aload_n 0, 1) := by decide +kernel
theorem dX8_longest_73 : decode cX8_longest 73 = .ok (.getfield 46, 3) := by decide +kernel
theorem dX8_longest_76 : decode cX8_longest 76 = .ok (.getfield 286, 3) := by decide +kernel
theorem dX8_longest_79 : decode cX8_longest 79 = .ok (.ireturn, 1) := by decide +kernel
theorem dX8_longest_80 : decode cX8_longest 80 = .ok (.aload_n 0, 1) := by decide +kernel
theorem dX8_longest_81 : decode cX8_longest 81 = .ok (.getfield 46, 3) := by decide +kernel
theorem dX8_longest_84 : decode cX8_longest 84 = .ok (.getfield 289, 3) := by decide +kernel
theorem dX8_longest_87 : decode cX8_longest 87 = .ok (.ireturn, 1) := by decide +kernel
set_option maxRecDepth 20000 in
theorem ggX8_bestStrike_X6_numberOf : GoodIn wsX8_bestStrike wsX6_numberOf := goodIn_r _ [6, 7, 8, 137, 138, 139, 140, 141, 142] (by decide +kernel) (by decide +kernel)
set_option maxRecDepth 20000 in
theorem gX8_bestStrike_X6_numberOf : GoodIn wsX8_bestStrike (wsV RX8 141 RX6 yX6_numberOf wsX6_numberOf) := goodIn_app (goodIn_of _ (by decide +kernel)) ggX8_bestStrike_X6_numberOf
set_option maxRecDepth 20000 in
theorem ggX8_bestStrike_X7_leastPrime : GoodIn wsX8_bestStrike wsX7_leastPrime := goodIn_r _ [12, 13, 14, 11, 15] (by decide +kernel) (by decide +kernel)
set_option maxRecDepth 20000 in
theorem gX8_bestStrike_X7_leastPrime : GoodIn wsX8_bestStrike (va_wsS RX8 292 yX7_leastPrime wsX7_leastPrime) := goodIn_app (goodIn_of _ (by decide +kernel)) ggX8_bestStrike_X7_leastPrime
set_option maxRecDepth 20000 in
theorem ggX8_bestStrike_X8_pairsIfStruck : GoodIn wsX8_bestStrike wsX8_pairsIfStruck := goodIn_r _ [20, 21, 1, 22, 23, 24, 5, 25, 7, 26, 27, 28, 8, 29, 30, 31, 32, 33, 34, 35, 36, 37, 38, 39, 40, 41, 42, 43, 44, 45, 46, 47, 48, 49, 50, 51, 52, 53, 54, 55, 56, 57, 58, 59, 60, 61, 62, 63, 64, 65, 66, 67, 68, 69, 70, 71, 72, 73, 74, 11, 75, 76, 10, 12, 13, 14, 15, 77, 3, 4, 6, 78, 79, 80, 81, 82, 83, 84, 85, 86, 87, 88, 89, 90, 91, 92, 93, 94, 95, 96, 97, 98, 99, 100, 101, 102, 103, 104, 105, 106, 107, 108, 109, 110, 111, 112, 113, 114, 115, 116, 117, 118, 126, 127, 128, 129, 130, 131, 132, 133, 134, 135, 136, 137, 138, 139, 140, 141, 142, 143, 144, 145, 146] (by decide +kernel) (by decide +kernel)
set_option maxRecDepth 20000 in
theorem gX8_bestStrike_X8_pairsIfStruck : GoodIn wsX8_bestStrike (wsV RX8 295 RX8 yX8_pairsIfStruck wsX8_pairsIfStruck) := goodIn_app (goodIn_of _ (by decide +kernel)) ggX8_bestStrike_X8_pairsIfStruck
set_option maxRecDepth 20000 in
theorem ggX8_bestStrike_X7_withoutPrime : GoodIn wsX8_bestStrike wsX7_withoutPrime := goodIn_r _ [121, 122, 123, 11, 124, 13, 14, 15, 125, 84, 85] (by decide +kernel) (by decide +kernel)
set_option maxRecDepth 20000 in
theorem gX8_bestStrike_X7_withoutPrime : GoodIn wsX8_bestStrike (va_wsS RX8 298 yX7_withoutPrime wsX7_withoutPrime) := goodIn_app (goodIn_of _ (by decide +kernel)) ggX8_bestStrike_X7_withoutPrime
theorem dX8_bestStrike_0 : decode cX8_bestStrike 0 = .ok (.bipush (-4), 2) := by decide +kernel
theorem dX8_bestStrike_2 : decode cX8_bestStrike 2 = .ok (.istore_n 1, 1) := by decide +kernel
theorem dX8_bestStrike_3 : decode cX8_bestStrike 3 = .ok (.iconst (-1), 1) := by decide +kernel
theorem dX8_bestStrike_4 : decode cX8_bestStrike 4 = .ok (.istore_n 2, 1) := by decide +kernel
theorem dX8_bestStrike_5 : decode cX8_bestStrike 5 = .ok (.iconst 0, 1) := by decide +kernel
theorem dX8_bestStrike_6 : decode cX8_bestStrike 6 = .ok (.istore_n 3, 1) := by decide +kernel
theorem dX8_bestStrike_7 : decode cX8_bestStrike 7 = .ok (.iload_n 3, 1) := by decide +kernel
theorem dX8_bestStrike_8 : decode cX8_bestStrike 8 = .ok (.aload_n 0, 1) := by decide +kernel
theorem dX8_bestStrike_9 : decode cX8_bestStrike 9 = .ok (.getfield 10, 3) := by decide +kernel
theorem dX8_bestStrike_12 : decode cX8_bestStrike 12 = .ok (.getfield 97, 3) := by decide +kernel
theorem dX8_bestStrike_15 : decode cX8_bestStrike 15 = .ok (.if_icmp .ge 84, 3) := by decide +kernel
theorem dX8_bestStrike_18 : decode cX8_bestStrike 18 = .ok (.aload_n 0, 1) := by decide +kernel
theorem dX8_bestStrike_19 : decode cX8_bestStrike 19 = .ok (.getfield 10, 3) := by decide +kernel
theorem dX8_bestStrike_22 : decode cX8_bestStrike 22 = .ok (.iload_n 3, 1) := by decide +kernel
theorem dX8_bestStrike_23 : decode cX8_bestStrike 23 = .ok (.invokevirtual 141, 3) := by decide +kernel
theorem dX8_bestStrike_26 : decode cX8_bestStrike 26 = .ok (.istore 4, 2) := by decide +kernel
theorem dX8_bestStrike_28 : decode cX8_bestStrike 28 = .ok (.iconst 0, 1) := by decide +kernel
theorem dX8_bestStrike_29 : decode cX8_bestStrike 29 = .ok (.istore 5, 2) := by decide +kernel
theorem dX8_bestStrike_31 : decode cX8_bestStrike 31 = .ok (.iload 5, 2) := by decide +kernel
theorem dX8_bestStrike_33 : decode cX8_bestStrike 33 = .ok (.bipush 13, 2) := by decide +kernel
theorem dX8_bestStrike_35 : decode cX8_bestStrike 35 = .ok (.if_icmp .ge 58, 3) := by decide +kernel
theorem dX8_bestStrike_38 : decode cX8_bestStrike 38 = .ok (.iload 4, 2) := by decide +kernel
theorem dX8_bestStrike_40 : decode cX8_bestStrike 40 = .ok (.iconst 1, 1) := by decide +kernel
theorem dX8_bestStrike_41 : decode cX8_bestStrike 41 = .ok (.if_icmp .le 52, 3) := by decide +kernel
theorem dX8_bestStrike_44 : decode cX8_bestStrike 44 = .ok (.iload 4, 2) := by decide +kernel
theorem dX8_bestStrike_46 : decode cX8_bestStrike 46 = .ok (.invokestatic 292, 3) := by decide +kernel
theorem dX8_bestStrike_49 : decode cX8_bestStrike 49 = .ok (.istore 6, 2) := by decide +kernel
theorem dX8_bestStrike_51 : decode cX8_bestStrike 51 = .ok (.aload_n 0, 1) := by decide +kernel
theorem dX8_bestStrike_52 : decode cX8_bestStrike 52 = .ok (.iload_n 3, 1) := by decide +kernel
theorem dX8_bestStrike_53 : decode cX8_bestStrike 53 = .ok (.iload 6, 2) := by decide +kernel
theorem dX8_bestStrike_55 : decode cX8_bestStrike 55 = .ok (.invokevirtual 295, 3) := by decide +kernel
theorem dX8_bestStrike_58 : decode cX8_bestStrike 58 = .ok (.istore 7, 2) := by decide +kernel
theorem dX8_bestStrike_60 : decode cX8_bestStrike 60 = .ok (.iload 7, 2) := by decide +kernel
theorem dX8_bestStrike_62 : decode cX8_bestStrike 62 = .ok (.iload_n 2, 1) := by decide +kernel
theorem dX8_bestStrike_63 : decode cX8_bestStrike 63 = .ok (.if_icmp .le 15, 3) := by decide +kernel
theorem dX8_bestStrike_66 : decode cX8_bestStrike 66 = .ok (.sipush 10000, 3) := by decide +kernel
theorem dX8_bestStrike_69 : decode cX8_bestStrike 69 = .ok (.iload_n 3, 1) := by decide +kernel
theorem dX8_bestStrike_70 : decode cX8_bestStrike 70 = .ok (.imul, 1) := by decide +kernel
theorem dX8_bestStrike_71 : decode cX8_bestStrike 71 = .ok (.iload 6, 2) := by decide +kernel
theorem dX8_bestStrike_73 : decode cX8_bestStrike 73 = .ok (.iadd, 1) := by decide +kernel
theorem dX8_bestStrike_74 : decode cX8_bestStrike 74 = .ok (.istore_n 1, 1) := by decide +kernel
theorem dX8_bestStrike_75 : decode cX8_bestStrike 75 = .ok (.iload 7, 2) := by decide +kernel
theorem dX8_bestStrike_77 : decode cX8_bestStrike 77 = .ok (.istore_n 2, 1) := by decide +kernel
theorem dX8_bestStrike_78 : decode cX8_bestStrike 78 = .ok (.iload 4, 2) := by decide +kernel
theorem dX8_bestStrike_80 : decode cX8_bestStrike 80 = .ok (.iload 6, 2) := by decide +kernel
theorem dX8_bestStrike_82 : decode cX8_bestStrike 82 = .ok (.invokestatic 298, 3) := by decide +kernel
theorem dX8_bestStrike_85 : decode cX8_bestStrike 85 = .ok (.istore 4, 2) := by decide +kernel
theorem dX8_bestStrike_87 : decode cX8_bestStrike 87 = .ok (.iinc 5 1, 3) := by decide +kernel
theorem dX8_bestStrike_90 : decode cX8_bestStrike 90 = .ok (.goto (-59), 3) := by decide +kernel
theorem dX8_bestStrike_93 : decode cX8_bestStrike 93 = .ok (.iinc 3 1, 3) := by decide +kernel
theorem dX8_bestStrike_96 : decode cX8_bestStrike 96 = .ok (.goto (-89), 3) := by decide +kernel
theorem dX8_bestStrike_99 : decode cX8_bestStrike 99 = .ok (.iload_n 1, 1) := by decide +kernel
theorem dX8_bestStrike_100 : decode cX8_bestStrike 100 = .ok (.ireturn, 1) := by decide +kernel
set_option maxRecDepth 20000 in
theorem ggX8_undo_X3_goBack : GoodIn wsX8_undo wsX3_goBack := goodIn_r _ [7, 8, 9, 10, 11, 6, 12, 13, 14, 15, 16, 17, 18, 19, 20, 21, 22, 23, 24, 25, 26, 27, 28, 29, 30, 31, 32, 33, 34, 35, 36, 37, 38, 39, 40, 41, 42, 43, 44, 45, 46, 47, 48, 49, 50, 51, 52, 53, 54, 55, 56, 57, 58, 59, 60, 72, 73, 74, 75, 76, 77, 78, 79, 80, 81, 82, 83, 84] (by decide +kernel) (by decide +kernel)
set_option maxRecDepth 20000 in
theorem gX8_undo_X3_goBack : GoodIn wsX8_undo (wsV RX8 301 RX3 yX3_goBack wsX3_goBack) := goodIn_app (goodIn_of _ (by decide +kernel)) ggX8_undo_X3_goBack
theorem dX8_undo_0 : decode cX8_undo 0 = .ok (.aload_n 0, 1) := by decide +kernel
theorem dX8_undo_1 : decode cX8_undo 1 = .ok (.getfield 25, 3) := by decide +kernel
theorem dX8_undo_4 : decode cX8_undo 4 = .ok (.aload_n 0, 1) := by decide +kernel
theorem dX8_undo_5 : decode cX8_undo 5 = .ok (.getfield 10, 3) := by decide +kernel
theorem dX8_undo_8 : decode cX8_undo 8 = .ok (.invokevirtual 301, 3) := by decide +kernel
theorem dX8_undo_11 : decode cX8_undo 11 = .ok (.ifCond .eq 13, 3) := by decide +kernel
theorem dX8_undo_14 : decode cX8_undo 14 = .ok (.aload_n 0, 1) := by decide +kernel
theorem dX8_undo_15 : decode cX8_undo 15 = .ok (.getfield 25, 3) := by decide +kernel
theorem dX8_undo_18 : decode cX8_undo 18 = .ok (.getfield 277, 3) := by decide +kernel
theorem dX8_undo_21 : decode cX8_undo 21 = .ok (.goto 5, 3) := by decide +kernel
theorem dX8_undo_24 : decode cX8_undo 24 = .ok (.bipush (-2), 2) := by decide +kernel
theorem dX8_undo_26 : decode cX8_undo 26 = .ok (.ireturn, 1) := by decide +kernel
set_option maxRecDepth 20000 in
theorem ggX8_save_X6_copyFrom : GoodIn wsX8_save wsX6_copyFrom := goodIn_r _ [8, 9, 10, 11, 12, 13, 14, 15, 16, 17, 18, 19, 20, 21, 22, 23, 24, 25, 26, 27, 28, 29, 30, 31, 32, 33, 34, 35, 36, 37, 38, 39, 40, 41, 42, 43, 44, 45, 46, 47, 48, 49, 61, 62, 63, 64, 65, 66, 67, 68, 69, 70] (by decide +kernel) (by decide +kernel)
set_option maxRecDepth 20000 in
theorem gX8_save_X6_copyFrom : GoodIn wsX8_save (wsV RX8 74 RX6 yX6_copyFrom wsX6_copyFrom) := goodIn_app (goodIn_of _ (by decide +kernel)) ggX8_save_X6_copyFrom
theorem dX8_save_0 : decode cX8_save 0 = .ok (.aload_n 0, 1) := by decide +kernel
theorem dX8_save_1 : decode cX8_save 1 = .ok (.getfield 19, 3) := by decide +kernel
theorem dX8_save_4 : decode cX8_save 4 = .ok (.aload_n 0, 1) := by decide +kernel
theorem dX8_save_5 : decode cX8_save 5 = .ok (.getfield 10, 3) := by decide +kernel
theorem dX8_save_8 : decode cX8_save 8 = .ok (.invokevirtual 74, 3) := by decide +kernel
theorem dX8_save_11 : decode cX8_save 11 = .ok (.aload_n 0, 1) := by decide +kernel
theorem dX8_save_12 : decode cX8_save 12 = .ok (.iconst 1, 1) := by decide +kernel
theorem dX8_save_13 : decode cX8_save 13 = .ok (.putfield 305, 3) := by decide +kernel
theorem dX8_save_16 : decode cX8_save 16 = .ok (.aload_n 0, 1) := by decide +kernel
theorem dX8_save_17 : decode cX8_save 17 = .ok (.getfield 10, 3) := by decide +kernel
theorem dX8_save_20 : decode cX8_save 20 = .ok (.getfield 97, 3) := by decide +kernel
theorem dX8_save_23 : decode cX8_save 23 = .ok (.ireturn, 1) := by decide +kernel
set_option maxRecDepth 20000 in
theorem ggX8_restore_X3_prepare : GoodIn wsX8_restore wsX3_prepare := goodIn_r _ [9, 10, 11, 12, 13, 8, 14, 15, 16, 17, 18, 19, 20, 21, 22, 23, 24, 25, 26, 27, 28, 29, 30, 31, 32, 33, 34, 35, 36, 37, 38, 39, 40, 41, 42, 43, 44, 45, 46, 47, 48, 49, 50, 51, 52, 53, 54, 55, 56, 57, 58, 59, 60, 61, 62, 85, 86, 87, 79, 80, 81, 82, 83, 84, 88, 89, 90, 91] (by decide +kernel) (by decide +kernel)
set_option maxRecDepth 20000 in
theorem gX8_restore_X3_prepare : GoodIn wsX8_restore (wsV RX8 50 RX3 yX3_prepare wsX3_prepare) := goodIn_app (goodIn_of _ (by decide +kernel)) ggX8_restore_X3_prepare
set_option maxRecDepth 20000 in
theorem ggX8_restore_X6_copyFrom : GoodIn wsX8_restore wsX6_copyFrom := goodIn_r _ [21, 22, 23, 24, 25, 26, 27, 28, 29, 30, 31, 32, 33, 34, 35, 36, 37, 38, 39, 40, 41, 42, 43, 44, 45, 46, 47, 48, 49, 50, 51, 52, 53, 54, 55, 56, 57, 58, 59, 60, 61, 62, 79, 80, 81, 82, 83, 84, 88, 89, 90, 91] (by decide +kernel) (by decide +kernel)
set_option maxRecDepth 20000 in
theorem gX8_restore_X6_copyFrom : GoodIn wsX8_restore (wsV RX8 74 RX6 yX6_copyFrom wsX6_copyFrom) := goodIn_app (goodIn_of _ (by decide +kernel)) ggX8_restore_X6_copyFrom
set_option maxRecDepth 20000 in
theorem ggX8_restore_X3_keep : GoodIn wsX8_restore wsX3_keep := goodIn_r _ [67, 10, 15, 85, 86, 87] (by decide +kernel) (by decide +kernel)
set_option maxRecDepth 20000 in
theorem gX8_restore_X3_keep : GoodIn wsX8_restore (wsV RX8 58 RX3 yX3_keep wsX3_keep) := goodIn_app (goodIn_of _ (by decide +kernel)) ggX8_restore_X3_keep
theorem dX8_restore_0 : decode cX8_restore 0 = .ok (.aload_n 0, 1) := by decide +kernel
theorem dX8_restore_1 : decode cX8_restore 1 = .ok (.getfield 305, 3) := by decide +kernel
theorem dX8_restore_4 : decode cX8_restore 4 = .ok (.ifCond .ne 6, 3) := by decide +kernel
theorem dX8_restore_7 : decode cX8_restore 7 = .ok (.bipush (-2), 2) := by decide +kernel
theorem dX8_restore_9 : decode cX8_restore 9 = .ok (.ireturn, 1) := by decide +kernel
theorem dX8_restore_10 : decode cX8_restore 10 = .ok (.aload_n 0, 1) := by decide +kernel
theorem dX8_restore_11 : decode cX8_restore 11 = .ok (.getfield 25, 3) := by decide +kernel
theorem dX8_restore_14 : decode cX8_restore 14 = .ok (.aload_n 0, 1) := by decide +kernel
theorem dX8_restore_15 : decode cX8_restore 15 = .ok (.getfield 10, 3) := by decide +kernel
theorem dX8_restore_18 : decode cX8_restore 18 = .ok (.invokevirtual 50, 3) := by decide +kernel
theorem dX8_restore_21 : decode cX8_restore 21 = .ok (.aload_n 0, 1) := by decide +kernel
theorem dX8_restore_22 : decode cX8_restore 22 = .ok (.getfield 10, 3) := by decide +kernel
theorem dX8_restore_25 : decode cX8_restore 25 = .ok (.aload_n 0, 1) := by decide +kernel
theorem dX8_restore_26 : decode cX8_restore 26 = .ok (.getfield 19, 3) := by decide +kernel
theorem dX8_restore_29 : decode cX8_restore 29 = .ok (.invokevirtual 74, 3) := by decide +kernel
theorem dX8_restore_32 : decode cX8_restore 32 = .ok (.aload_n 0, 1) := by decide +kernel
theorem dX8_restore_33 : decode cX8_restore 33 = .ok (.getfield 25, 3) := by decide +kernel
theorem dX8_restore_36 : decode cX8_restore 36 = .ok (.aload_n 0, 1) := by decide +kernel
theorem dX8_restore_37 : decode cX8_restore 37 = .ok (.getfield 10, 3) := by decide +kernel
theorem dX8_restore_40 : decode cX8_restore 40 = .ok (.getfield 97, 3) := by decide +kernel
theorem dX8_restore_43 : decode cX8_restore 43 = .ok (.invokevirtual 58, 3) := by decide +kernel
theorem dX8_restore_46 : decode cX8_restore 46 = .ok (.ireturn, 1) := by decide +kernel
set_option maxRecDepth 20000 in
theorem ggX8_isSpan_X6_has : GoodIn wsX8_isSpan wsX6_has := goodIn_r _ [6, 7, 19, 20, 21, 22, 23, 24] (by decide +kernel) (by decide +kernel)
set_option maxRecDepth 20000 in
theorem gX8_isSpan_X6_has : GoodIn wsX8_isSpan (wsV RX8 138 RX6 yX6_has wsX6_has) := goodIn_app (goodIn_of _ (by decide +kernel)) ggX8_isSpan_X6_has
theorem dX8_isSpan_0 : decode cX8_isSpan 0 = .ok (.aload_n 0, 1) := by decide +kernel
theorem dX8_isSpan_1 : decode cX8_isSpan 1 = .ok (.getfield 10, 3) := by decide +kernel
theorem dX8_isSpan_4 : decode cX8_isSpan 4 = .ok (.iload_n 1, 1) := by decide +kernel
theorem dX8_isSpan_5 : decode cX8_isSpan 5 = .ok (.invokevirtual 138, 3) := by decide +kernel
theorem dX8_isSpan_8 : decode cX8_isSpan 8 = .ok (.ifCond .eq 23, 3) := by decide +kernel
theorem dX8_isSpan_11 : decode cX8_isSpan 11 = .ok (.aload_n 0, 1) := by decide +kernel
theorem dX8_isSpan_12 : decode cX8_isSpan 12 = .ok (.getfield 10, 3) := by decide +kernel
theorem dX8_isSpan_15 : decode cX8_isSpan 15 = .ok (.iload_n 2, 1) := by decide +kernel
theorem dX8_isSpan_16 : decode cX8_isSpan 16 = .ok (.invokevirtual 138, 3) := by decide +kernel
theorem dX8_isSpan_19 : decode cX8_isSpan 19 = .ok (.ifCond .eq 12, 3) := by decide +kernel
theorem dX8_isSpan_22 : decode cX8_isSpan 22 = .ok (.iload_n 1, 1) := by decide +kernel
theorem dX8_isSpan_23 : decode cX8_isSpan 23 = .ok (.iload_n 2, 1) := by decide +kernel
theorem dX8_isSpan_24 : decode cX8_isSpan 24 = .ok (.if_icmp .gt 7, 3) := by decide +kernel
theorem dX8_isSpan_27 : decode cX8_isSpan 27 = .ok (.iconst 1, 1) := by decide +kernel
theorem dX8_isSpan_28 : decode cX8_isSpan 28 = .ok (.goto 4, 3) := by decide +kernel
theorem dX8_isSpan_31 : decode cX8_isSpan 31 = .ok (.iconst 0, 1) := by decide +kernel
theorem dX8_isSpan_32 : decode cX8_isSpan 32 = .ok (.ireturn, 1) := by decide +kernel
set_option maxRecDepth 20000 in
theorem ggX8_pairsIfStruck_X6_copyFrom : GoodIn wsX8_pairsIfStruck wsX6_copyFrom := goodIn_r _ [7, 8, 9, 10, 11, 12, 13, 14, 15, 16, 17, 18, 19, 20, 21, 22, 23, 24, 25, 26, 27, 28, 29, 30, 31, 32, 33, 34, 35, 36, 37, 38, 39, 40, 41, 42, 43, 44, 45, 46, 47, 48, 123, 124, 125, 126, 127, 128, 129, 130, 131, 132] (by decide +kernel) (by decide +kernel)
set_option maxRecDepth 20000 in
theorem gX8_pairsIfStruck_X6_copyFrom : GoodIn wsX8_pairsIfStruck (wsV RX8 74 RX6 yX6_copyFrom wsX6_copyFrom) := goodIn_app (goodIn_of _ (by decide +kernel)) ggX8_pairsIfStruck_X6_copyFrom
set_option maxRecDepth 20000 in
theorem ggX8_pairsIfStruck_X6_strikeBy : GoodIn wsX8_pairsIfStruck wsX6_strikeBy := goodIn_r _ [52, 53, 54, 55, 6, 56, 8, 57, 58, 59, 60, 61, 62, 63, 64, 65, 66, 67, 68, 69, 70, 12, 71, 72, 73, 74, 75, 13, 11, 76, 77, 78, 79, 80, 81, 27, 82, 29, 31, 32, 33, 34, 35, 36, 30, 37, 38, 39, 40, 41, 42, 43, 44, 45, 16, 46, 47, 83, 84, 85, 86, 87, 88, 19, 20, 89, 90, 91, 92, 93, 22, 23, 94, 95, 96, 97, 98, 99, 100, 123, 124, 125, 126, 127, 128, 129, 130, 131, 132] (by decide +kernel) (by decide +kernel)
set_option maxRecDepth 20000 in
theorem gX8_pairsIfStruck_X6_strikeBy : GoodIn wsX8_pairsIfStruck (wsV RX8 71 RX6 yX6_strikeBy wsX6_strikeBy) := goodIn_app (goodIn_of _ (by decide +kernel)) ggX8_pairsIfStruck_X6_strikeBy
set_option maxRecDepth 20000 in
theorem ggX8_pairsIfStruck_X6_pairs : GoodIn wsX8_pairsIfStruck wsX6_pairs := goodIn_r _ [104, 8, 105, 106, 107, 6, 108, 9, 67, 68, 69, 70, 12, 109, 110, 59, 111, 71, 65, 66, 123, 124, 125, 126, 127, 128] (by decide +kernel) (by decide +kernel)
set_option maxRecDepth 20000 in
theorem gX8_pairsIfStruck_X6_pairs : GoodIn wsX8_pairsIfStruck (wsV RX8 242 RX6 yX6_pairs wsX6_pairs) := goodIn_app (goodIn_of _ (by decide +kernel)) ggX8_pairsIfStruck_X6_pairs
theorem dX8_pairsIfStruck_0 : decode cX8_pairsIfStruck 0 = .ok (.aload_n 0, 1) := by decide +kernel
theorem dX8_pairsIfStruck_1 : decode cX8_pairsIfStruck 1 = .ok (.getfield 16, 3) := by decide +kernel
theorem dX8_pairsIfStruck_4 : decode cX8_pairsIfStruck 4 = .ok (.aload_n 0, 1) := by decide +kernel
theorem dX8_pairsIfStruck_5 : decode cX8_pairsIfStruck 5 = .ok (.getfield 10, 3) := by decide +kernel
theorem dX8_pairsIfStruck_8 : decode cX8_pairsIfStruck 8 = .ok (.invokevirtual 74, 3) := by decide +kernel
theorem dX8_pairsIfStruck_11 : decode cX8_pairsIfStruck 11 = .ok (.aload_n 0, 1) := by decide +kernel
theorem dX8_pairsIfStruck_12 : decode cX8_pairsIfStruck 12 = .ok (.getfield 16, 3) := by decide +kernel
theorem dX8_pairsIfStruck_15 : decode cX8_pairsIfStruck 15 = .ok (.iload_n 1, 1) := by decide +kernel
theorem dX8_pairsIfStruck_16 : decode cX8_pairsIfStruck 16 = .ok (.iload_n 2, 1) := by decide +kernel
theorem dX8_pairsIfStruck_17 : decode cX8_pairsIfStruck 17 = .ok (.invokevirtual 71, 3) := by decide +kernel
theorem dX8_pairsIfStruck_20 : decode cX8_pairsIfStruck 20 = .ok (.pop, 1) := by decide +kernel
theorem dX8_pairsIfStruck_21 : decode cX8_pairsIfStruck 21 = .ok (.aload_n 0, 1) := by decide +kernel
theorem dX8_pairsIfStruck_22 : decode cX8_pairsIfStruck 22 = .ok (.getfield 16, 3) := by decide +kernel
theorem dX8_pairsIfStruck_25 : decode cX8_pairsIfStruck 25 = .ok (.invokevirtual 242, 3) := by decide +kernel
theorem dX8_pairsIfStruck_28 : decode cX8_pairsIfStruck 28 = .ok (.ireturn, 1) := by decide +kernel
theorem dX9_init_0 : decode cX9_init 0 = .ok (.aload_n 0, 1) := by decide +kernel
theorem dX9_init_1 : decode cX9_init 1 = .ok (.invokespecial 1, 3) := by decide +kernel
theorem dX9_init_4 : decode cX9_init 4 = .ok (.aload_n 0, 1) := by decide +kernel
theorem dX9_init_5 : decode cX9_init 5 = .ok (.sipush 1245, 3) := by decide +kernel
theorem dX9_init_8 : decode cX9_init 8 = .ok (.newarray .int, 2) := by decide +kernel
theorem dX9_init_10 : decode cX9_init 10 = .ok (.putfield 7, 3) := by decide +kernel
theorem dX9_init_13 : decode cX9_init 13 = .ok (.aload_n 0, 1) := by decide +kernel
theorem dX9_init_14 : decode cX9_init 14 = .ok (.sipush 4980, 3) := by decide +kernel
theorem dX9_init_17 : decode cX9_init 17 = .ok (.newarray .int, 2) := by decide +kernel
theorem dX9_init_19 : decode cX9_init 19 = .ok (.putfield 13, 3) := by decide +kernel
theorem dX9_init_22 : decode cX9_init 22 = .ok (.aload_n 0, 1) := by decide +kernel
theorem dX9_init_23 : decode cX9_init 23 = .ok (.sipush 1245, 3) := by decide +kernel
theorem dX9_init_26 : decode cX9_init 26 = .ok (.newarray .int, 2) := by decide +kernel
theorem dX9_init_28 : decode cX9_init 28 = .ok (.putfield 16, 3) := by decide +kernel
theorem dX9_init_31 : decode cX9_init 31 = .ok (.aload_n 0, 1) := by decide +kernel
theorem dX9_init_32 : decode cX9_init 32 = .ok (.sipush 1245, 3) := by decide +kernel
theorem dX9_init_35 : decode cX9_init 35 = .ok (.newarray .int, 2) := by decide +kernel
theorem dX9_init_37 : decode cX9_init 37 = .ok (.putfield 19, 3) := by decide +kernel
theorem dX9_init_40 : decode cX9_init 40 = .ok (.aload_n 0, 1) := by decide +kernel
theorem dX9_init_41 : decode cX9_init 41 = .ok (.sipush 1229, 3) := by decide +kernel
theorem dX9_init_44 : decode cX9_init 44 = .ok (.newarray .int, 2) := by decide +kernel
theorem dX9_init_46 : decode cX9_init 46 = .ok (.putfield 22, 3) := by decide +kernel
theorem dX9_init_49 : decode cX9_init 49 = .ok (.aload_n 0, 1) := by decide +kernel
theorem dX9_init_50 : decode cX9_init 50 = .ok (.bipush 60, 2) := by decide +kernel
theorem dX9_init_52 : decode cX9_init 52 = .ok (.newarray .int, 2) := by decide +kernel
theorem dX9_init_54 : decode cX9_init 54 = .ok (.putfield 25, 3) := by decide +kernel
theorem dX9_init_57 : decode cX9_init 57 = .ok (.aload_n 0, 1) := by decide +kernel
theorem dX9_init_58 : decode cX9_init 58 = .ok (.iconst 3, 1) := by decide +kernel
theorem dX9_init_59 : decode cX9_init 59 = .ok (.newarray .int, 2) := by decide +kernel
theorem dX9_init_61 : decode cX9_init 61 = .ok (.putfield 28, 3) := by decide +kernel
theorem dX9_init_64 : decode cX9_init 64 = .ok (.aload_n 0, 1) := by decide +kernel
theorem dX9_init_65 : decode cX9_init 65 = .ok (.bipush 12, 2) := by decide +kernel
theorem dX9_init_67 : decode cX9_init 67 = .ok (.newarray .int, 2) := by decide +kernel
theorem dX9_init_69 : decode cX9_init 69 = .ok (.putfield 31, 3) := by decide +kernel
theorem dX9_init_72 : decode cX9_init 72 = .ok (.aload_n 0, 1) := by decide +kernel
theorem dX9_init_73 : decode cX9_init 73 = .ok (.bipush 124, 2) := by decide +kernel
theorem dX9_init_75 : decode cX9_init 75 = .ok (.newarray .int, 2) := by decide +kernel
theorem dX9_init_77 : decode cX9_init 77 = .ok (.putfield 34, 3) := by decide +kernel
theorem dX9_init_80 : decode cX9_init 80 = .ok (.aload_n 0, 1) := by decide +kernel
theorem dX9_init_81 : decode cX9_init 81 = .ok (.bipush 12, 2) := by decide +kernel
theorem dX9_init_83 : decode cX9_init 83 = .ok (.newarray .int, 2) := by decide +kernel
theorem dX9_init_85 : decode cX9_init 85 = .ok (.putfield 37, 3) := by decide +kernel
theorem dX9_init_88 : decode cX9_init 88 = .ok (.aload_n 0, 1) := by decide +kernel
theorem dX9_init_89 : decode cX9_init 89 = .ok (.bipush 12, 2) := by decide +kernel
theorem dX9_init_91 : decode cX9_init 91 = .ok (.newarray .int, 2) := by decide +kernel
theorem dX9_init_93 : decode cX9_init 93 = .ok (.putfield 40, 3) := by decide +kernel
theorem dX9_init_96 : decode cX9_init 96 = .ok (.aload_n 0, 1) := by decide +kernel
theorem dX9_init_97 : decode cX9_init 97 = .ok (.getfield 7, 3) := by decide +kernel
theorem dX9_init_100 : decode cX9_init 100 = .ok (.iconst 1, 1) := by decide +kernel
theorem dX9_init_101 : decode cX9_init 101 = .ok (.iconst 2, 1) := by decide +kernel
theorem dX9_init_102 : decode cX9_init 102 = .ok (.iastore, 1) := by decide +kernel
theorem dX9_init_103 : decode cX9_init 103 = .ok (.iconst 0, 1) := by decide +kernel
theorem dX9_init_104 : decode cX9_init 104 = .ok (.istore_n 1, 1) := by decide +kernel
theorem dX9_init_105 : decode cX9_init 105 = .ok (.iconst 2, 1) := by decide +kernel
theorem dX9_init_106 : decode cX9_init 106 = .ok (.istore_n 2, 1) := by decide +kernel
theorem dX9_init_107 : decode cX9_init 107 = .ok (.iload_n 2, 1) := by decide +kernel
theorem dX9_init_108 : decode cX9_init 108 = .ok (.sipush 9999, 3) := by decide +kernel
theorem dX9_init_111 : decode cX9_init 111 = .ok (.if_icmp .gt 81, 3) := by decide +kernel
theorem dX9_init_114 : decode cX9_init 114 = .ok (.iconst 1, 1) := by decide +kernel
theorem dX9_init_115 : decode cX9_init 115 = .ok (.istore_n 3, 1) := by decide +kernel
theorem dX9_init_116 : decode cX9_init 116 = .ok (.iconst 0, 1) := by decide +kernel
theorem dX9_init_117 : decode cX9_init 117 = .ok (.istore 4, 2) := by decide +kernel
theorem dX9_init_119 : decode cX9_init 119 = .ok (.iload 4, 2) := by decide +kernel
theorem dX9_init_121 : decode cX9_init 121 = .ok (.iload_n 1, 1) := by decide +kernel
theorem dX9_init_122 : decode cX9_init 122 = .ok (.if_icmp .ge 50, 3) := by decide +kernel
theorem dX9_init_125 : decode cX9_init 125 = .ok (.iload_n 3, 1) := by decide +kernel
theorem dX9_init_126 : decode cX9_init 126 = .ok (.ifCond .eq 46, 3) := by decide +kernel
theorem dX9_init_129 : decode cX9_init 129 = .ok (.aload_n 0, 1) := by decide +kernel
theorem dX9_init_130 : decode cX9_init 130 = .ok (.getfield 22, 3) := by decide +kernel
theorem dX9_init_133 : decode cX9_init 133 = .ok (.iload 4, 2) := by decide +kernel
theorem dX9_init_135 : decode cX9_init 135 = .ok (.iaload, 1) := by decide +kernel
theorem dX9_init_136 : decode cX9_init 136 = .ok (.aload_n 0, 1) := by decide +kernel
theorem dX9_init_137 : decode cX9_init 137 = .ok (.getfield 22, 3) := by decide +kernel
theorem dX9_init_140 : decode cX9_init 140 = .ok (.iload 4, 2) := by decide +kernel
theorem dX9_init_142 : decode cX9_init 142 = .ok (.iaload, 1) := by decide +kernel
theorem dX9_init_143 : decode cX9_init 143 = .ok (.imul, 1) := by decide +kernel
theorem dX9_init_144 : decode cX9_init 144 = .ok (.iload_n 2, 1) := by decide +kernel
theorem dX9_init_145 : decode cX9_init 145 = .ok (.if_icmp .gt 27, 3) := by decide +kernel
theorem dX9_init_148 : decode cX9_init 148 = .ok (.iload_n 2, 1) := by decide +kernel
theorem dX9_init_149 : decode cX9_init 149 = .ok (.aload_n 0, 1) := by decide +kernel
theorem dX9_init_150 : decode cX9_init 150 = .ok (.getfield 22, 3) := by decide +kernel
theorem dX9_init_153 : decode cX9_init 153 = .ok (.iload 4, 2) := by decide +kernel
theorem dX9_init_155 : decode cX9_init 155 = .ok (.iaload, 1) := by decide +kernel
theorem dX9_init_156 : decode cX9_init 156 = .ok (.irem, 1) := by decide +kernel
theorem dX9_init_157 : decode cX9_init 157 = .ok (.ifCond .eq 7, 3) := by decide +kernel
theorem dX9_init_160 : decode cX9_init 160 = .ok (.iconst 1, 1) := by decide +kernel
theorem dX9_init_161 : decode cX9_init 161 = .ok (.goto 4, 3) := by decide +kernel
theorem dX9_init_164 : decode cX9_init 164 = .ok (.iconst 0, 1) := by decide +kernel
theorem dX9_init_165 : decode cX9_init 165 = .ok (.istore_n 3, 1) := by decide +kernel
theorem dX9_init_166 : decode cX9_init 166 = .ok (.iinc 4 1, 3) := by decide +kernel
theorem dX9_init_169 : decode cX9_init 169 = .ok (.goto (-50), 3) := by decide +kernel
theorem dX9_init_172 : decode cX9_init 172 = .ok (.iload_n 3, 1) := by decide +kernel
theorem dX9_init_173 : decode cX9_init 173 = .ok (.ifCond .eq 13, 3) := by decide +kernel
theorem dX9_init_176 : decode cX9_init 176 = .ok (.aload_n 0, 1) := by decide +kernel
theorem dX9_init_177 : decode cX9_init 177 = .ok (.getfield 22, 3) := by decide +kernel
theorem dX9_init_180 : decode cX9_init 180 = .ok (.iload_n 1, 1) := by decide +kernel
theorem dX9_init_181 : decode cX9_init 181 = .ok (.iload_n 2, 1) := by decide +kernel
theorem dX9_init_182 : decode cX9_init 182 = .ok (.iastore, 1) := by decide +kernel
theorem dX9_init_183 : decode cX9_init 183 = .ok (.iinc 1 1, 3) := by decide +kernel
theorem dX9_init_186 : decode cX9_init 186 = .ok (.iinc 2 1, 3) := by decide +kernel
theorem dX9_init_189 : decode cX9_init 189 = .ok (.goto (-82), 3) := by decide +kernel
theorem dX9_init_192 : decode cX9_init 192 = .ok (.return_, 1) := by decide +kernel
theorem dX9_in_0 : decode cX9_in 0 = .ok (.iload_n 0, 1) := by decide +kernel
theorem dX9_in_1 : decode cX9_in 1 = .ok (.iload_n 1, 1) := by decide +kernel
theorem dX9_in_2 : decode cX9_in 2 = .ok (.if_icmp .lt 12, 3) := by decide +kernel
theorem dX9_in_5 : decode cX9_in 5 = .ok (.iload_n 0, 1) := by decide +kernel
theorem dX9_in_6 : decode cX9_in 6 = .ok (.iload_n 2, 1) := by decide +kernel
theorem dX9_in_7 : decode cX9_in 7 = .ok (.if_icmp .gt 7, 3) := by decide +kernel
theorem dX9_in_10 : decode cX9_in 10 = .ok (.iconst 1, 1) := by decide +kernel
theorem dX9_in_11 : decode cX9_in 11 = .ok (.goto 4, 3) := by decide +kernel
theorem dX9_in_14 : decode cX9_in 14 = .ok (.iconst 0, 1) := by decide +kernel
theorem dX9_in_15 : decode cX9_in 15 = .ok (.ireturn, 1) := by decide +kernel
theorem dX9_changes_0 : decode cX9_changes 0 = .ok (.aload_n 0, 1) := by decide +kernel
theorem dX9_changes_1 : decode cX9_changes 1 = .ok (.getfield 43, 3) := by decide +kernel
theorem dX9_changes_4 : decode cX9_changes 4 = .ok (.ifCond .eq 4, 3) := by decide +kernel
theorem dX9_changes_7 : decode cX9_changes 7 = .ok (.return_, 1) := by decide +kernel
theorem dX9_changes_8 : decode cX9_changes 8 = .ok (.aload_n 0, 1) := by decide +kernel
theorem dX9_changes_9 : decode cX9_changes 9 = .ok (.getfield 47, 3) := by decide +kernel
theorem dX9_changes_12 : decode cX9_changes 12 = .ok (.iconst 4, 1) := by decide +kernel
theorem dX9_changes_13 : decode cX9_changes 13 = .ok (.if_icmp .ne 44, 3) := by decide +kernel
theorem dX9_changes_16 : decode cX9_changes 16 = .ok (.iconst 0, 1) := by decide +kernel
theorem dX9_changes_17 : decode cX9_changes 17 = .ok (.istore_n 1, 1) := by decide +kernel
theorem dX9_changes_18 : decode cX9_changes 18 = .ok (.iload_n 1, 1) := by decide +kernel
theorem dX9_changes_19 : decode cX9_changes 19 = .ok (.sipush 3735, 3) := by decide +kernel
theorem dX9_changes_22 : decode cX9_changes 22 = .ok (.if_icmp .ge 25, 3) := by decide +kernel
theorem dX9_changes_25 : decode cX9_changes 25 = .ok (.aload_n 0, 1) := by decide +kernel
theorem dX9_changes_26 : decode cX9_changes 26 = .ok (.getfield 13, 3) := by decide +kernel
theorem dX9_changes_29 : decode cX9_changes 29 = .ok (.iload_n 1, 1) := by decide +kernel
theorem dX9_changes_30 : decode cX9_changes 30 = .ok (.aload_n 0, 1) := by decide +kernel
theorem dX9_changes_31 : decode cX9_changes 31 = .ok (.getfield 13, 3) := by decide +kernel
theorem dX9_changes_34 : decode cX9_changes 34 = .ok (.iload_n 1, 1) := by decide +kernel
theorem dX9_changes_35 : decode cX9_changes 35 = .ok (.sipush 1245, 3) := by decide +kernel
theorem dX9_changes_38 : decode cX9_changes 38 = .ok (.iadd, 1) := by decide +kernel
theorem dX9_changes_39 : decode cX9_changes 39 = .ok (.iaload, 1) := by decide +kernel
theorem dX9_changes_40 : decode cX9_changes 40 = .ok (.iastore, 1) := by decide +kernel
theorem dX9_changes_41 : decode cX9_changes 41 = .ok (.iinc 1 1, 3) := by decide +kernel
theorem dX9_changes_44 : decode cX9_changes 44 = .ok (.goto (-26), 3) := by decide +kernel
theorem dX9_changes_47 : decode cX9_changes 47 = .ok (.aload_n 0, 1) := by decide +kernel
theorem dX9_changes_48 : decode cX9_changes 48 = .ok (.dup, 1) := by decide +kernel
theorem dX9_changes_49 : decode cX9_changes 49 = .ok (.getfield 47, 3) := by decide +kernel
theorem dX9_changes_52 : decode cX9_changes 52 = .ok (.iconst 1, 1) := by decide +kernel
theorem dX9_changes_53 : decode cX9_changes 53 = .ok (.isub, 1) := by decide +kernel
theorem dX9_changes_54 : decode cX9_changes 54 = .ok (.putfield 47, 3) := by decide +kernel
theorem dX9_changes_57 : decode cX9_changes 57 = .ok (.iconst 0, 1) := by decide +kernel
theorem dX9_changes_58 : decode cX9_changes 58 = .ok (.istore_n 1, 1) := by decide +kernel
theorem dX9_changes_59 : decode cX9_changes 59 = .ok (.iload_n 1, 1) := by decide +kernel
theorem dX9_changes_60 : decode cX9_changes 60 = .ok (.sipush 1245, 3) := by decide +kernel
theorem dX9_changes_63 : decode cX9_changes 63 = .ok (.if_icmp .ge 30, 3) := by decide +kernel
theorem dX9_changes_66 : decode cX9_changes 66 = .ok (.aload_n 0, 1) := by decide +kernel
theorem dX9_changes_67 : decode cX9_changes 67 = .ok (.getfield 13, 3) := by decide +kernel
theorem dX9_changes_70 : decode cX9_changes 70 = .ok (.sipush 1245, 3) := by decide +kernel
theorem dX9_changes_73 : decode cX9_changes 73 = .ok (.aload_n 0, 1) := by decide +kernel
theorem dX9_changes_74 : decode cX9_changes 74 = .ok (.getfield 47, 3) := by decide +kernel
theorem dX9_changes_77 : decode cX9_changes 77 = .ok (.imul, 1) := by decide +kernel
theorem dX9_changes_78 : decode cX9_changes 78 = .ok (.iload_n 1, 1) := by decide +kernel
theorem dX9_changes_79 : decode cX9_changes 79 = .ok (.iadd, 1) := by decide +kernel
theorem dX9_changes_80 : decode cX9_changes 80 = .ok (.aload_n 0, 1) := by decide +kernel
theorem dX9_changes_81 : decode cX9_changes 81 = .ok (.getfield 7, 3) := by decide +kernel
theorem dX9_changes_84 : decode cX9_changes 84 = .ok (.iload_n 1, 1) := by decide +kernel
theorem dX9_changes_85 : decode cX9_changes 85 = .ok (.iaload, 1) := by decide +kernel
theorem dX9_changes_86 : decode cX9_changes 86 = .ok (.iastore, 1) := by decide +kernel
theorem dX9_changes_87 : decode cX9_changes 87 = .ok (.iinc 1 1, 3) := by decide +kernel
theorem dX9_changes_90 : decode cX9_changes 90 = .ok (.goto (-31), 3) := by decide +kernel
theorem dX9_changes_93 : decode cX9_changes 93 = .ok (.aload_n 0, 1) := by decide +kernel
theorem dX9_changes_94 : decode cX9_changes 94 = .ok (.dup, 1) := by decide +kernel
theorem dX9_changes_95 : decode cX9_changes 95 = .ok (.getfield 47, 3) := by decide +kernel
theorem dX9_changes_98 : decode cX9_changes 98 = .ok (.iconst 1, 1) := by decide +kernel
theorem dX9_changes_99 : decode cX9_changes 99 = .ok (.iadd, 1) := by decide +kernel
theorem dX9_changes_100 : decode cX9_changes 100 = .ok (.putfield 47, 3) := by decide +kernel
theorem dX9_changes_103 : decode cX9_changes 103 = .ok (.return_, 1) := by decide +kernel
theorem dX9_putsAside_0 : decode cX9_putsAside 0 = .ok (.iconst 0, 1) := by decide +kernel
theorem dX9_putsAside_1 : decode cX9_putsAside 1 = .ok (.istore_n 1, 1) := by decide +kernel
theorem dX9_putsAside_2 : decode cX9_putsAside 2 = .ok (.iload_n 1, 1) := by decide +kernel
theorem dX9_putsAside_3 : decode cX9_putsAside 3 = .ok (.sipush 1245, 3) := by decide +kernel
theorem dX9_putsAside_6 : decode cX9_putsAside 6 = .ok (.if_icmp .ge 21, 3) := by decide +kernel
theorem dX9_putsAside_9 : decode cX9_putsAside 9 = .ok (.aload_n 0, 1) := by decide +kernel
theorem dX9_putsAside_10 : decode cX9_putsAside 10 = .ok (.getfield 19, 3) := by decide +kernel
theorem dX9_putsAside_13 : decode cX9_putsAside 13 = .ok (.iload_n 1, 1) := by decide +kernel
theorem dX9_putsAside_14 : decode cX9_putsAside 14 = .ok (.aload_n 0, 1) := by decide +kernel
theorem dX9_putsAside_15 : decode cX9_putsAside 15 = .ok (.getfield 7, 3) := by decide +kernel
theorem dX9_putsAside_18 : decode cX9_putsAside 18 = .ok (.iload_n 1, 1) := by decide +kernel
theorem dX9_putsAside_19 : decode cX9_putsAside 19 = .ok (.iaload, 1) := by decide +kernel
theorem dX9_putsAside_20 : decode cX9_putsAside 20 = .ok (.iastore, 1) := by decide +kernel
theorem dX9_putsAside_21 : decode cX9_putsAside 21 = .ok (.iinc 1 1, 3) := by decide +kernel
theorem dX9_putsAside_24 : decode cX9_putsAside 24 = .ok (.goto (-22), 3) := by decide +kernel
theorem dX9_putsAside_27 : decode cX9_putsAside 27 = .ok (.return_, 1) := by decide +kernel
theorem dX9_putsBack_0 : decode cX9_putsBack 0 = .ok (.iconst 0, 1) := by decide +kernel
theorem dX9_putsBack_1 : decode cX9_putsBack 1 = .ok (.istore_n 1, 1) := by decide +kernel
theorem dX9_putsBack_2 : decode cX9_putsBack 2 = .ok (.iload_n 1, 1) := by decide +kernel
theorem dX9_putsBack_3 : decode cX9_putsBack 3 = .ok (.sipush 1245, 3) := by decide +kernel
theorem dX9_putsBack_6 : decode cX9_putsBack 6 = .ok (.if_icmp .ge 21, 3) := by decide +kernel
theorem dX9_putsBack_9 : decode cX9_putsBack 9 = .ok (.aload_n 0, 1) := by decide +kernel
theorem dX9_putsBack_10 : decode cX9_putsBack 10 = .ok (.getfield 7, 3) := by decide +kernel
theorem dX9_putsBack_13 : decode cX9_putsBack 13 = .ok (.iload_n 1, 1) := by decide +kernel
theorem dX9_putsBack_14 : decode cX9_putsBack 14 = .ok (.aload_n 0, 1) := by decide +kernel
theorem dX9_putsBack_15 : decode cX9_putsBack 15 = .ok (.getfield 19, 3) := by decide +kernel
theorem dX9_putsBack_18 : decode cX9_putsBack 18 = .ok (.iload_n 1, 1) := by decide +kernel
theorem dX9_putsBack_19 : decode cX9_putsBack 19 = .ok (.iaload, 1) := by decide +kernel
theorem dX9_putsBack_20 : decode cX9_putsBack 20 = .ok (.iastore, 1) := by decide +kernel
theorem dX9_putsBack_21 : decode cX9_putsBack 21 = .ok (.iinc 1 1, 3) := by decide +kernel
theorem dX9_putsBack_24 : decode cX9_putsBack 24 = .ok (.goto (-22), 3) := by decide +kernel
theorem dX9_putsBack_27 : decode cX9_putsBack 27 = .ok (.return_, 1) := by decide +kernel
theorem dX9_of_0 : decode cX9_of 0 = .ok (.aload_n 0, 1) := by decide +kernel
theorem dX9_of_1 : decode cX9_of 1 = .ok (.getfield 7, 3) := by decide +kernel
theorem dX9_of_4 : decode cX9_of 4 = .ok (.iconst 4, 1) := by decide +kernel
theorem dX9_of_5 : decode cX9_of 5 = .ok (.iload_n 1, 1) := by decide +kernel
theorem dX9_of_6 : decode cX9_of 6 = .ok (.iadd, 1) := by decide +kernel
theorem dX9_of_7 : decode cX9_of 7 = .ok (.iaload, 1) := by decide +kernel
theorem dX9_of_8 : decode cX9_of 8 = .ok (.ireturn, 1) := by decide +kernel
set_option maxRecDepth 20000 in
theorem ggX9_isStep_X9_in : GoodIn wsX9_isStep wsX9_in := goodIn_r _ [5] (by decide +kernel) (by decide +kernel)
set_option maxRecDepth 20000 in
theorem gX9_isStep_X9_in : GoodIn wsX9_isStep (va_wsS RX9 51 yX9_in wsX9_in) := goodIn_app (goodIn_of _ (by decide +kernel)) ggX9_isStep_X9_in
theorem dX9_isStep_0 : decode cX9_isStep 0 = .ok (.iload_n 1, 1) := by decide +kernel
theorem dX9_isStep_1 : decode cX9_isStep 1 = .ok (.iconst 0, 1) := by decide +kernel
theorem dX9_isStep_2 : decode cX9_isStep 2 = .ok (.aload_n 0, 1) := by decide +kernel
theorem dX9_isStep_3 : decode cX9_isStep 3 = .ok (.getfield 7, 3) := by decide +kernel
theorem dX9_isStep_6 : decode cX9_isStep 6 = .ok (.iconst 2, 1) := by decide +kernel
theorem dX9_isStep_7 : decode cX9_isStep 7 = .ok (.iaload, 1) := by decide +kernel
theorem dX9_isStep_8 : decode cX9_isStep 8 = .ok (.iconst 1, 1) := by decide +kernel
theorem dX9_isStep_9 : decode cX9_isStep 9 = .ok (.isub, 1) := by decide +kernel
theorem dX9_isStep_10 : decode cX9_isStep 10 = .ok (.invokestatic 51, 3) := by decide +kernel
theorem dX9_isStep_13 : decode cX9_isStep 13 = .ok (.ireturn, 1) := by decide +kernel
theorem dX9_rank_0 : decode cX9_rank 0 = .ok (.iconst 0, 1) := by decide +kernel
theorem dX9_rank_1 : decode cX9_rank 1 = .ok (.istore_n 2, 1) := by decide +kernel
theorem dX9_rank_2 : decode cX9_rank 2 = .ok (.sipush 1228, 3) := by decide +kernel
theorem dX9_rank_5 : decode cX9_rank 5 = .ok (.istore_n 3, 1) := by decide +kernel
theorem dX9_rank_6 : decode cX9_rank 6 = .ok (.iload_n 2, 1) := by decide +kernel
theorem dX9_rank_7 : decode cX9_rank 7 = .ok (.iload_n 3, 1) := by decide +kernel
theorem dX9_rank_8 : decode cX9_rank 8 = .ok (.if_icmp .ge 51, 3) := by decide +kernel
theorem dX9_rank_11 : decode cX9_rank 11 = .ok (.iload_n 2, 1) := by decide +kernel
theorem dX9_rank_12 : decode cX9_rank 12 = .ok (.iload_n 3, 1) := by decide +kernel
theorem dX9_rank_13 : decode cX9_rank 13 = .ok (.iadd, 1) := by decide +kernel
theorem dX9_rank_14 : decode cX9_rank 14 = .ok (.iconst 2, 1) := by decide +kernel
theorem dX9_rank_15 : decode cX9_rank 15 = .ok (.idiv, 1) := by decide +kernel
theorem dX9_rank_16 : decode cX9_rank 16 = .ok (.istore 4, 2) := by decide +kernel
theorem dX9_rank_18 : decode cX9_rank 18 = .ok (.aload_n 0, 1) := by decide +kernel
theorem dX9_rank_19 : decode cX9_rank 19 = .ok (.getfield 22, 3) := by decide +kernel
theorem dX9_rank_22 : decode cX9_rank 22 = .ok (.iload 4, 2) := by decide +kernel
theorem dX9_rank_24 : decode cX9_rank 24 = .ok (.iaload, 1) := by decide +kernel
theorem dX9_rank_25 : decode cX9_rank 25 = .ok (.iload_n 1, 1) := by decide +kernel
theorem dX9_rank_26 : decode cX9_rank 26 = .ok (.if_icmp .ge 10, 3) := by decide +kernel
theorem dX9_rank_29 : decode cX9_rank 29 = .ok (.iload 4, 2) := by decide +kernel
theorem dX9_rank_31 : decode cX9_rank 31 = .ok (.iconst 1, 1) := by decide +kernel
theorem dX9_rank_32 : decode cX9_rank 32 = .ok (.iadd, 1) := by decide +kernel
theorem dX9_rank_33 : decode cX9_rank 33 = .ok (.goto 4, 3) := by decide +kernel
theorem dX9_rank_36 : decode cX9_rank 36 = .ok (.iload_n 2, 1) := by decide +kernel
theorem dX9_rank_37 : decode cX9_rank 37 = .ok (.istore_n 2, 1) := by decide +kernel
theorem dX9_rank_38 : decode cX9_rank 38 = .ok (.aload_n 0, 1) := by decide +kernel
theorem dX9_rank_39 : decode cX9_rank 39 = .ok (.getfield 22, 3) := by decide +kernel
theorem dX9_rank_42 : decode cX9_rank 42 = .ok (.iload 4, 2) := by decide +kernel
theorem dX9_rank_44 : decode cX9_rank 44 = .ok (.iaload, 1) := by decide +kernel
theorem dX9_rank_45 : decode cX9_rank 45 = .ok (.iload_n 1, 1) := by decide +kernel
theorem dX9_rank_46 : decode cX9_rank 46 = .ok (.if_icmp .ge 7, 3) := by decide +kernel
theorem dX9_rank_49 : decode cX9_rank 49 = .ok (.iload_n 3, 1) := by decide +kernel
theorem dX9_rank_50 : decode cX9_rank 50 = .ok (.goto 5, 3) := by decide +kernel
theorem dX9_rank_53 : decode cX9_rank 53 = .ok (.iload 4, 2) := by decide +kernel
theorem dX9_rank_55 : decode cX9_rank 55 = .ok (.istore_n 3, 1) := by decide +kernel
theorem dX9_rank_56 : decode cX9_rank 56 = .ok (.goto (-50), 3) := by decide +kernel
theorem dX9_rank_59 : decode cX9_rank 59 = .ok (.aload_n 0, 1) := by decide +kernel
theorem dX9_rank_60 : decode cX9_rank 60 = .ok (.getfield 22, 3) := by decide +kernel
theorem dX9_rank_63 : decode cX9_rank 63 = .ok (.iload_n 2, 1) := by decide +kernel
theorem dX9_rank_64 : decode cX9_rank 64 = .ok (.iaload, 1) := by decide +kernel
theorem dX9_rank_65 : decode cX9_rank 65 = .ok (.iload_n 1, 1) := by decide +kernel
theorem dX9_rank_66 : decode cX9_rank 66 = .ok (.if_icmp .ne 7, 3) := by decide +kernel
theorem dX9_rank_69 : decode cX9_rank 69 = .ok (.iload_n 2, 1) := by decide +kernel
theorem dX9_rank_70 : decode cX9_rank 70 = .ok (.goto 5, 3) := by decide +kernel
theorem dX9_rank_73 : decode cX9_rank 73 = .ok (.bipush (-4), 2) := by decide +kernel
theorem dX9_rank_75 : decode cX9_rank 75 = .ok (.ireturn, 1) := by decide +kernel
theorem dX9_divisor_0 : decode cX9_divisor 0 = .ok (.iload_n 0, 1) := by decide +kernel
theorem dX9_divisor_1 : decode cX9_divisor 1 = .ok (.istore_n 2, 1) := by decide +kernel
theorem dX9_divisor_2 : decode cX9_divisor 2 = .ok (.iload_n 1, 1) := by decide +kernel
theorem dX9_divisor_3 : decode cX9_divisor 3 = .ok (.istore_n 3, 1) := by decide +kernel
theorem dX9_divisor_4 : decode cX9_divisor 4 = .ok (.iload_n 3, 1) := by decide +kernel
theorem dX9_divisor_5 : decode cX9_divisor 5 = .ok (.ifCond .le 16, 3) := by decide +kernel
theorem dX9_divisor_8 : decode cX9_divisor 8 = .ok (.iload_n 2, 1) := by decide +kernel
theorem dX9_divisor_9 : decode cX9_divisor 9 = .ok (.iload_n 3, 1) := by decide +kernel
theorem dX9_divisor_10 : decode cX9_divisor 10 = .ok (.irem, 1) := by decide +kernel
theorem dX9_divisor_11 : decode cX9_divisor 11 = .ok (.istore 4, 2) := by decide +kernel
theorem dX9_divisor_13 : decode cX9_divisor 13 = .ok (.iload_n 3, 1) := by decide +kernel
theorem dX9_divisor_14 : decode cX9_divisor 14 = .ok (.istore_n 2, 1) := by decide +kernel
theorem dX9_divisor_15 : decode cX9_divisor 15 = .ok (.iload 4, 2) := by decide +kernel
theorem dX9_divisor_17 : decode cX9_divisor 17 = .ok (.istore_n 3, 1) := by decide +kernel
theorem dX9_divisor_18 : decode cX9_divisor 18 = .ok (.goto (-14), 3) := by decide +kernel
theorem dX9_divisor_21 : decode cX9_divisor 21 = .ok (.iload_n 2, 1) := by decide +kernel
theorem dX9_divisor_22 : decode cX9_divisor 22 = .ok (.ireturn, 1) := by decide +kernel
theorem dX9_exponent_0 : decode cX9_exponent 0 = .ok (.iload_n 0, 1) := by decide +kernel
theorem dX9_exponent_1 : decode cX9_exponent 1 = .ok (.istore_n 2, 1) := by decide +kernel
theorem dX9_exponent_2 : decode cX9_exponent 2 = .ok (.iconst 0, 1) := by decide +kernel
theorem dX9_exponent_3 : decode cX9_exponent 3 = .ok (.istore_n 3, 1) := by decide +kernel
theorem dX9_exponent_4 : decode cX9_exponent 4 = .ok (.iload_n 2, 1) := by decide +kernel
theorem dX9_exponent_5 : decode cX9_exponent 5 = .ok (.iload_n 1, 1) := by decide +kernel
theorem dX9_exponent_6 : decode cX9_exponent 6 = .ok (.irem, 1) := by decide +kernel
theorem dX9_exponent_7 : decode cX9_exponent 7 = .ok (.ifCond .ne 13, 3) := by decide +kernel
theorem dX9_exponent_10 : decode cX9_exponent 10 = .ok (.iload_n 2, 1) := by decide +kernel
theorem dX9_exponent_11 : decode cX9_exponent 11 = .ok (.iload_n 1, 1) := by decide +kernel
theorem dX9_exponent_12 : decode cX9_exponent 12 = .ok (.idiv, 1) := by decide +kernel
theorem dX9_exponent_13 : decode cX9_exponent 13 = .ok (.istore_n 2, 1) := by decide +kernel
theorem dX9_exponent_14 : decode cX9_exponent 14 = .ok (.iinc 3 1, 3) := by decide +kernel
theorem dX9_exponent_17 : decode cX9_exponent 17 = .ok (.goto (-13), 3) := by decide +kernel
theorem dX9_exponent_20 : decode cX9_exponent 20 = .ok (.iload_n 3, 1) := by decide +kernel
theorem dX9_exponent_21 : decode cX9_exponent 21 = .ok (.ireturn, 1) := by decide +kernel
theorem dX9_leastFactor_0 : decode cX9_leastFactor 0 = .ok (.iconst 2, 1) := by decide +kernel
theorem dX9_leastFactor_1 : decode cX9_leastFactor 1 = .ok (.istore_n 1, 1) := by decide +kernel
theorem dX9_leastFactor_2 : decode cX9_leastFactor 2 = .ok (.iload_n 0, 1) := by decide +kernel
theorem dX9_leastFactor_3 : decode cX9_leastFactor 3 = .ok (.iload_n 1, 1) := by decide +kernel
theorem dX9_leastFactor_4 : decode cX9_leastFactor 4 = .ok (.irem, 1) := by decide +kernel
theorem dX9_leastFactor_5 : decode cX9_leastFactor 5 = .ok (.ifCond .eq 9, 3) := by decide +kernel
theorem dX9_leastFactor_8 : decode cX9_leastFactor 8 = .ok (.iinc 1 1, 3) := by decide +kernel
theorem dX9_leastFactor_11 : decode cX9_leastFactor 11 = .ok (.goto (-9), 3) := by decide +kernel
theorem dX9_leastFactor_14 : decode cX9_leastFactor 14 = .ok (.iload_n 1, 1) := by decide +kernel
theorem dX9_leastFactor_15 : decode cX9_leastFactor 15 = .ok (.ireturn, 1) := by decide +kernel
set_option maxRecDepth 20000 in
theorem ggX9_factorOf_X9_leastFactor : GoodIn wsX9_factorOf wsX9_leastFactor := goodIn_r _ [4] (by decide +kernel) (by decide +kernel)
set_option maxRecDepth 20000 in
theorem gX9_factorOf_X9_leastFactor : GoodIn wsX9_factorOf (va_wsS RX9 55 yX9_leastFactor wsX9_leastFactor) := goodIn_app (goodIn_of _ (by decide +kernel)) ggX9_factorOf_X9_leastFactor
theorem dX9_factorOf_0 : decode cX9_factorOf 0 = .ok (.iload_n 0, 1) := by decide +kernel
theorem dX9_factorOf_1 : decode cX9_factorOf 1 = .ok (.istore_n 2, 1) := by decide +kernel
theorem dX9_factorOf_2 : decode cX9_factorOf 2 = .ok (.iconst 0, 1) := by decide +kernel
theorem dX9_factorOf_3 : decode cX9_factorOf 3 = .ok (.istore_n 3, 1) := by decide +kernel
theorem dX9_factorOf_4 : decode cX9_factorOf 4 = .ok (.iload_n 2, 1) := by decide +kernel
theorem dX9_factorOf_5 : decode cX9_factorOf 5 = .ok (.iconst 1, 1) := by decide +kernel
theorem dX9_factorOf_6 : decode cX9_factorOf 6 = .ok (.if_icmp .le 28, 3) := by decide +kernel
theorem dX9_factorOf_9 : decode cX9_factorOf 9 = .ok (.iload_n 2, 1) := by decide +kernel
theorem dX9_factorOf_10 : decode cX9_factorOf 10 = .ok (.invokestatic 55, 3) := by decide +kernel
theorem dX9_factorOf_13 : decode cX9_factorOf 13 = .ok (.istore 4, 2) := by decide +kernel
theorem dX9_factorOf_15 : decode cX9_factorOf 15 = .ok (.iload_n 3, 1) := by decide +kernel
theorem dX9_factorOf_16 : decode cX9_factorOf 16 = .ok (.iload_n 1, 1) := by decide +kernel
theorem dX9_factorOf_17 : decode cX9_factorOf 17 = .ok (.if_icmp .ne 6, 3) := by decide +kernel
theorem dX9_factorOf_20 : decode cX9_factorOf 20 = .ok (.iload 4, 2) := by decide +kernel
theorem dX9_factorOf_22 : decode cX9_factorOf 22 = .ok (.ireturn, 1) := by decide +kernel
theorem dX9_factorOf_23 : decode cX9_factorOf 23 = .ok (.iload_n 2, 1) := by decide +kernel
theorem dX9_factorOf_24 : decode cX9_factorOf 24 = .ok (.iload 4, 2) := by decide +kernel
theorem dX9_factorOf_26 : decode cX9_factorOf 26 = .ok (.idiv, 1) := by decide +kernel
theorem dX9_factorOf_27 : decode cX9_factorOf 27 = .ok (.istore_n 2, 1) := by decide +kernel
theorem dX9_factorOf_28 : decode cX9_factorOf 28 = .ok (.iinc 3 1, 3) := by decide +kernel
theorem dX9_factorOf_31 : decode cX9_factorOf 31 = .ok (.goto (-27), 3) := by decide +kernel
theorem dX9_factorOf_34 : decode cX9_factorOf 34 = .ok (.bipush (-4), 2) := by decide +kernel
theorem dX9_factorOf_36 : decode cX9_factorOf 36 = .ok (.ireturn, 1) := by decide +kernel
set_option maxRecDepth 20000 in
theorem ggX9_factors_X9_leastFactor : GoodIn wsX9_factors wsX9_leastFactor := goodIn_r _ [4] (by decide +kernel) (by decide +kernel)
set_option maxRecDepth 20000 in
theorem gX9_factors_X9_leastFactor : GoodIn wsX9_factors (va_wsS RX9 55 yX9_leastFactor wsX9_leastFactor) := goodIn_app (goodIn_of _ (by decide +kernel)) ggX9_factors_X9_leastFactor
theorem dX9_factors_0 : decode cX9_factors 0 = .ok (.iload_n 0, 1) := by decide +kernel
theorem dX9_factors_1 : decode cX9_factors 1 = .ok (.istore_n 2, 1) := by decide +kernel
theorem dX9_factors_2 : decode cX9_factors 2 = .ok (.iconst 0, 1) := by decide +kernel
theorem dX9_factors_3 : decode cX9_factors 3 = .ok (.istore_n 3, 1) := by decide +kernel
theorem dX9_factors_4 : decode cX9_factors 4 = .ok (.iload_n 2, 1) := by decide +kernel
theorem dX9_factors_5 : decode cX9_factors 5 = .ok (.iconst 1, 1) := by decide +kernel
theorem dX9_factors_6 : decode cX9_factors 6 = .ok (.if_icmp .le 39, 3) := by decide +kernel
theorem dX9_factors_9 : decode cX9_factors 9 = .ok (.iload_n 2, 1) := by decide +kernel
theorem dX9_factors_10 : decode cX9_factors 10 = .ok (.invokestatic 55, 3) := by decide +kernel
theorem dX9_factors_13 : decode cX9_factors 13 = .ok (.istore 4, 2) := by decide +kernel
theorem dX9_factors_15 : decode cX9_factors 15 = .ok (.iinc 3 1, 3) := by decide +kernel
theorem dX9_factors_18 : decode cX9_factors 18 = .ok (.iload_n 2, 1) := by decide +kernel
theorem dX9_factors_19 : decode cX9_factors 19 = .ok (.iload 4, 2) := by decide +kernel
theorem dX9_factors_21 : decode cX9_factors 21 = .ok (.idiv, 1) := by decide +kernel
theorem dX9_factors_22 : decode cX9_factors 22 = .ok (.istore_n 2, 1) := by decide +kernel
theorem dX9_factors_23 : decode cX9_factors 23 = .ok (.iload_n 1, 1) := by decide +kernel
theorem dX9_factors_24 : decode cX9_factors 24 = .ok (.ifCond .ne 18, 3) := by decide +kernel
theorem dX9_factors_27 : decode cX9_factors 27 = .ok (.iload_n 2, 1) := by decide +kernel
theorem dX9_factors_28 : decode cX9_factors 28 = .ok (.iload 4, 2) := by decide +kernel
theorem dX9_factors_30 : decode cX9_factors 30 = .ok (.irem, 1) := by decide +kernel
theorem dX9_factors_31 : decode cX9_factors 31 = .ok (.ifCond .ne 11, 3) := by decide +kernel
theorem dX9_factors_34 : decode cX9_factors 34 = .ok (.iload_n 2, 1) := by decide +kernel
theorem dX9_factors_35 : decode cX9_factors 35 = .ok (.iload 4, 2) := by decide +kernel
theorem dX9_factors_37 : decode cX9_factors 37 = .ok (.idiv, 1) := by decide +kernel
theorem dX9_factors_38 : decode cX9_factors 38 = .ok (.istore_n 2, 1) := by decide +kernel
theorem dX9_factors_39 : decode cX9_factors 39 = .ok (.goto (-16), 3) := by decide +kernel
theorem dX9_factors_42 : decode cX9_factors 42 = .ok (.goto (-38), 3) := by decide +kernel
theorem dX9_factors_45 : decode cX9_factors 45 = .ok (.iload_n 3, 1) := by decide +kernel
theorem dX9_factors_46 : decode cX9_factors 46 = .ok (.ireturn, 1) := by decide +kernel
set_option maxRecDepth 20000 in
theorem ggX9_areKin_X9_of : GoodIn wsX9_areKin wsX9_of := goodIn_r _ [6, 1, 10, 11, 12, 13, 14, 15, 16, 17, 18, 19, 20, 21, 22, 23, 24, 25, 26, 27] (by decide +kernel) (by decide +kernel)
set_option maxRecDepth 20000 in
theorem gX9_areKin_X9_of : GoodIn wsX9_areKin (wsV RX9 59 RX9 yX9_of wsX9_of) := goodIn_app (goodIn_of _ (by decide +kernel)) ggX9_areKin_X9_of
set_option maxRecDepth 20000 in
theorem ggX9_areKin_X9_divisor : GoodIn wsX9_areKin wsX9_divisor := goodIn_r _ [9] (by decide +kernel) (by decide +kernel)
set_option maxRecDepth 20000 in
theorem gX9_areKin_X9_divisor : GoodIn wsX9_areKin (va_wsS RX9 62 yX9_divisor wsX9_divisor) := goodIn_app (goodIn_of _ (by decide +kernel)) ggX9_areKin_X9_divisor
theorem dX9_areKin_0 : decode cX9_areKin 0 = .ok (.aload_n 0, 1) := by decide +kernel
theorem dX9_areKin_1 : decode cX9_areKin 1 = .ok (.iload_n 1, 1) := by decide +kernel
theorem dX9_areKin_2 : decode cX9_areKin 2 = .ok (.iload_n 2, 1) := by decide +kernel
theorem dX9_areKin_3 : decode cX9_areKin 3 = .ok (.if_icmp .ge 7, 3) := by decide +kernel
theorem dX9_areKin_6 : decode cX9_areKin 6 = .ok (.iload_n 1, 1) := by decide +kernel
theorem dX9_areKin_7 : decode cX9_areKin 7 = .ok (.goto 4, 3) := by decide +kernel
theorem dX9_areKin_10 : decode cX9_areKin 10 = .ok (.iload_n 2, 1) := by decide +kernel
theorem dX9_areKin_11 : decode cX9_areKin 11 = .ok (.invokevirtual 59, 3) := by decide +kernel
theorem dX9_areKin_14 : decode cX9_areKin 14 = .ok (.istore_n 3, 1) := by decide +kernel
theorem dX9_areKin_15 : decode cX9_areKin 15 = .ok (.aload_n 0, 1) := by decide +kernel
theorem dX9_areKin_16 : decode cX9_areKin 16 = .ok (.iload_n 1, 1) := by decide +kernel
theorem dX9_areKin_17 : decode cX9_areKin 17 = .ok (.iload_n 2, 1) := by decide +kernel
theorem dX9_areKin_18 : decode cX9_areKin 18 = .ok (.if_icmp .ge 7, 3) := by decide +kernel
theorem dX9_areKin_21 : decode cX9_areKin 21 = .ok (.iload_n 2, 1) := by decide +kernel
theorem dX9_areKin_22 : decode cX9_areKin 22 = .ok (.goto 4, 3) := by decide +kernel
theorem dX9_areKin_25 : decode cX9_areKin 25 = .ok (.iload_n 1, 1) := by decide +kernel
theorem dX9_areKin_26 : decode cX9_areKin 26 = .ok (.invokevirtual 59, 3) := by decide +kernel
theorem dX9_areKin_29 : decode cX9_areKin 29 = .ok (.istore 4, 2) := by decide +kernel
theorem dX9_areKin_31 : decode cX9_areKin 31 = .ok (.iload_n 1, 1) := by decide +kernel
theorem dX9_areKin_32 : decode cX9_areKin 32 = .ok (.iload_n 2, 1) := by decide +kernel
theorem dX9_areKin_33 : decode cX9_areKin 33 = .ok (.if_icmp .ne 5, 3) := by decide +kernel
theorem dX9_areKin_36 : decode cX9_areKin 36 = .ok (.iconst 0, 1) := by decide +kernel
theorem dX9_areKin_37 : decode cX9_areKin 37 = .ok (.ireturn, 1) := by decide +kernel
theorem dX9_areKin_38 : decode cX9_areKin 38 = .ok (.aload_n 0, 1) := by decide +kernel
theorem dX9_areKin_39 : decode cX9_areKin 39 = .ok (.getfield 7, 3) := by decide +kernel
theorem dX9_areKin_42 : decode cX9_areKin 42 = .ok (.iconst 0, 1) := by decide +kernel
theorem dX9_areKin_43 : decode cX9_areKin 43 = .ok (.iaload, 1) := by decide +kernel
theorem dX9_areKin_44 : decode cX9_areKin 44 = .ok (.ifCond .ne 21, 3) := by decide +kernel
theorem dX9_areKin_47 : decode cX9_areKin 47 = .ok (.iload_n 3, 1) := by decide +kernel
theorem dX9_areKin_48 : decode cX9_areKin 48 = .ok (.iload 4, 2) := by decide +kernel
theorem dX9_areKin_50 : decode cX9_areKin 50 = .ok (.invokestatic 62, 3) := by decide +kernel
theorem dX9_areKin_53 : decode cX9_areKin 53 = .ok (.iconst 1, 1) := by decide +kernel
theorem dX9_areKin_54 : decode cX9_areKin 54 = .ok (.if_icmp .le 7, 3) := by decide +kernel
theorem dX9_areKin_57 : decode cX9_areKin 57 = .ok (.iconst 1, 1) := by decide +kernel
theorem dX9_areKin_58 : decode cX9_areKin 58 = .ok (.goto 36, 3) := by decide +kernel
theorem dX9_areKin_61 : decode cX9_areKin 61 = .ok (.iconst 0, 1) := by decide +kernel
theorem dX9_areKin_62 : decode cX9_areKin 62 = .ok (.goto 32, 3) := by decide +kernel
theorem dX9_areKin_65 : decode cX9_areKin 65 = .ok (.iload 4, 2) := by decide +kernel
theorem dX9_areKin_67 : decode cX9_areKin 67 = .ok (.iload_n 3, 1) := by decide +kernel
theorem dX9_areKin_68 : decode cX9_areKin 68 = .ok (.irem, 1) := by decide +kernel
theorem dX9_areKin_69 : decode cX9_areKin 69 = .ok (.ifCond .eq 20, 3) := by decide +kernel
theorem dX9_areKin_72 : decode cX9_areKin 72 = .ok (.aload_n 0, 1) := by decide +kernel
theorem dX9_areKin_73 : decode cX9_areKin 73 = .ok (.getfield 7, 3) := by decide +kernel
theorem dX9_areKin_76 : decode cX9_areKin 76 = .ok (.iconst 0, 1) := by decide +kernel
theorem dX9_areKin_77 : decode cX9_areKin 77 = .ok (.iaload, 1) := by decide +kernel
theorem dX9_areKin_78 : decode cX9_areKin 78 = .ok (.iconst 1, 1) := by decide +kernel
theorem dX9_areKin_79 : decode cX9_areKin 79 = .ok (.if_icmp .ne 14, 3) := by decide +kernel
theorem dX9_areKin_82 : decode cX9_areKin 82 = .ok (.iload_n 3, 1) := by decide +kernel
theorem dX9_areKin_83 : decode cX9_areKin 83 = .ok (.iload 4, 2) := by decide +kernel
theorem dX9_areKin_85 : decode cX9_areKin 85 = .ok (.irem, 1) := by decide +kernel
theorem dX9_areKin_86 : decode cX9_areKin 86 = .ok (.ifCond .ne 7, 3) := by decide +kernel
theorem dX9_areKin_89 : decode cX9_areKin 89 = .ok (.iconst 1, 1) := by decide +kernel
theorem dX9_areKin_90 : decode cX9_areKin 90 = .ok (.goto 4, 3) := by decide +kernel
theorem dX9_areKin_93 : decode cX9_areKin 93 = .ok (.iconst 0, 1) := by decide +kernel
theorem dX9_areKin_94 : decode cX9_areKin 94 = .ok (.ireturn, 1) := by decide +kernel
set_option maxRecDepth 20000 in
theorem ggX9_kinOf_X9_areKin : GoodIn wsX9_kinOf wsX9_areKin := goodIn_r _ [6, 1, 7, 8, 9, 5, 10, 11, 12, 13, 14, 15, 16, 17, 18, 19, 20, 21, 22, 23, 24, 25, 26, 27, 28, 29, 30, 31] (by decide +kernel) (by decide +kernel)
set_option maxRecDepth 20000 in
theorem gX9_kinOf_X9_areKin : GoodIn wsX9_kinOf (wsV RX9 66 RX9 yX9_areKin wsX9_areKin) := goodIn_app (goodIn_of _ (by decide +kernel)) ggX9_kinOf_X9_areKin
theorem dX9_kinOf_0 : decode cX9_kinOf 0 = .ok (.iconst 0, 1) := by decide +kernel
theorem dX9_kinOf_1 : decode cX9_kinOf 1 = .ok (.istore_n 2, 1) := by decide +kernel
theorem dX9_kinOf_2 : decode cX9_kinOf 2 = .ok (.iconst 0, 1) := by decide +kernel
theorem dX9_kinOf_3 : decode cX9_kinOf 3 = .ok (.istore_n 3, 1) := by decide +kernel
theorem dX9_kinOf_4 : decode cX9_kinOf 4 = .ok (.iload_n 3, 1) := by decide +kernel
theorem dX9_kinOf_5 : decode cX9_kinOf 5 = .ok (.aload_n 0, 1) := by decide +kernel
theorem dX9_kinOf_6 : decode cX9_kinOf 6 = .ok (.getfield 7, 3) := by decide +kernel
theorem dX9_kinOf_9 : decode cX9_kinOf 9 = .ok (.iconst 2, 1) := by decide +kernel
theorem dX9_kinOf_10 : decode cX9_kinOf 10 = .ok (.iaload, 1) := by decide +kernel
theorem dX9_kinOf_11 : decode cX9_kinOf 11 = .ok (.if_icmp .ge 26, 3) := by decide +kernel
theorem dX9_kinOf_14 : decode cX9_kinOf 14 = .ok (.iload_n 2, 1) := by decide +kernel
theorem dX9_kinOf_15 : decode cX9_kinOf 15 = .ok (.aload_n 0, 1) := by decide +kernel
theorem dX9_kinOf_16 : decode cX9_kinOf 16 = .ok (.iload_n 1, 1) := by decide +kernel
theorem dX9_kinOf_17 : decode cX9_kinOf 17 = .ok (.iload_n 3, 1) := by decide +kernel
theorem dX9_kinOf_18 : decode cX9_kinOf 18 = .ok (.invokevirtual 66, 3) := by decide +kernel
theorem dX9_kinOf_21 : decode cX9_kinOf 21 = .ok (.ifCond .eq 7, 3) := by decide +kernel
theorem dX9_kinOf_24 : decode cX9_kinOf 24 = .ok (.iconst 1, 1) := by decide +kernel
theorem dX9_kinOf_25 : decode cX9_kinOf 25 = .ok (.goto 4, 3) := by decide +kernel
theorem dX9_kinOf_28 : decode cX9_kinOf 28 = .ok (.iconst 0, 1) := by decide +kernel
theorem dX9_kinOf_29 : decode cX9_kinOf 29 = .ok (.iadd, 1) := by decide +kernel
theorem dX9_kinOf_30 : decode cX9_kinOf 30 = .ok (.istore_n 2, 1) := by decide +kernel
theorem dX9_kinOf_31 : decode cX9_kinOf 31 = .ok (.iinc 3 1, 3) := by decide +kernel
theorem dX9_kinOf_34 : decode cX9_kinOf 34 = .ok (.goto (-30), 3) := by decide +kernel
theorem dX9_kinOf_37 : decode cX9_kinOf 37 = .ok (.iload_n 2, 1) := by decide +kernel
theorem dX9_kinOf_38 : decode cX9_kinOf 38 = .ok (.ireturn, 1) := by decide +kernel
set_option maxRecDepth 20000 in
theorem ggX9_pairs_X9_kinOf : GoodIn wsX9_pairs wsX9_kinOf := goodIn_r _ [6, 1, 7, 8, 9, 5, 10, 11, 12, 13, 14, 15, 16, 17, 18, 19, 20, 21, 22, 23, 24, 25, 26, 27, 28, 29, 30, 31, 32, 33, 34, 35] (by decide +kernel) (by decide +kernel)
set_option maxRecDepth 20000 in
theorem gX9_pairs_X9_kinOf : GoodIn wsX9_pairs (wsV RX9 70 RX9 yX9_kinOf wsX9_kinOf) := goodIn_app (goodIn_of _ (by decide +kernel)) ggX9_pairs_X9_kinOf
theorem dX9_pairs_0 : decode cX9_pairs 0 = .ok (.iconst 0, 1) := by decide +kernel
theorem dX9_pairs_1 : decode cX9_pairs 1 = .ok (.istore_n 1, 1) := by decide +kernel
theorem dX9_pairs_2 : decode cX9_pairs 2 = .ok (.iconst 0, 1) := by decide +kernel
theorem dX9_pairs_3 : decode cX9_pairs 3 = .ok (.istore_n 2, 1) := by decide +kernel
theorem dX9_pairs_4 : decode cX9_pairs 4 = .ok (.iload_n 2, 1) := by decide +kernel
theorem dX9_pairs_5 : decode cX9_pairs 5 = .ok (.aload_n 0, 1) := by decide +kernel
theorem dX9_pairs_6 : decode cX9_pairs 6 = .ok (.getfield 7, 3) := by decide +kernel
theorem dX9_pairs_9 : decode cX9_pairs 9 = .ok (.iconst 2, 1) := by decide +kernel
theorem dX9_pairs_10 : decode cX9_pairs 10 = .ok (.iaload, 1) := by decide +kernel
theorem dX9_pairs_11 : decode cX9_pairs 11 = .ok (.if_icmp .ge 17, 3) := by decide +kernel
theorem dX9_pairs_14 : decode cX9_pairs 14 = .ok (.iload_n 1, 1) := by decide +kernel
theorem dX9_pairs_15 : decode cX9_pairs 15 = .ok (.aload_n 0, 1) := by decide +kernel
theorem dX9_pairs_16 : decode cX9_pairs 16 = .ok (.iload_n 2, 1) := by decide +kernel
theorem dX9_pairs_17 : decode cX9_pairs 17 = .ok (.invokevirtual 70, 3) := by decide +kernel
theorem dX9_pairs_20 : decode cX9_pairs 20 = .ok (.iadd, 1) := by decide +kernel
theorem dX9_pairs_21 : decode cX9_pairs 21 = .ok (.istore_n 1, 1) := by decide +kernel
theorem dX9_pairs_22 : decode cX9_pairs 22 = .ok (.iinc 2 1, 3) := by decide +kernel
theorem dX9_pairs_25 : decode cX9_pairs 25 = .ok (.goto (-21), 3) := by decide +kernel
theorem dX9_pairs_28 : decode cX9_pairs 28 = .ok (.iload_n 1, 1) := by decide +kernel
theorem dX9_pairs_29 : decode cX9_pairs 29 = .ok (.iconst 2, 1) := by decide +kernel
theorem dX9_pairs_30 : decode cX9_pairs 30 = .ok (.idiv, 1) := by decide +kernel
theorem dX9_pairs_31 : decode cX9_pairs 31 = .ok (.ireturn, 1) := by decide +kernel
set_option maxRecDepth 20000 in
theorem ggX9_joins_X9_areKin : GoodIn wsX9_joins wsX9_areKin := goodIn_r _ [7, 2, 8, 9, 10, 6, 11, 12, 13, 14, 15, 16, 17, 18, 19, 20, 21, 22, 23, 24, 25, 26, 27, 28, 29, 30, 31, 32] (by decide +kernel) (by decide +kernel)
set_option maxRecDepth 20000 in
theorem gX9_joins_X9_areKin : GoodIn wsX9_joins (wsV RX9 66 RX9 yX9_areKin wsX9_areKin) := goodIn_app (goodIn_of _ (by decide +kernel)) ggX9_joins_X9_areKin
theorem dX9_joins_0 : decode cX9_joins 0 = .ok (.iconst 0, 1) := by decide +kernel
theorem dX9_joins_1 : decode cX9_joins 1 = .ok (.istore_n 1, 1) := by decide +kernel
theorem dX9_joins_2 : decode cX9_joins 2 = .ok (.iload_n 1, 1) := by decide +kernel
theorem dX9_joins_3 : decode cX9_joins 3 = .ok (.bipush 12, 2) := by decide +kernel
theorem dX9_joins_5 : decode cX9_joins 5 = .ok (.if_icmp .ge 16, 3) := by decide +kernel
theorem dX9_joins_8 : decode cX9_joins 8 = .ok (.aload_n 0, 1) := by decide +kernel
theorem dX9_joins_9 : decode cX9_joins 9 = .ok (.getfield 31, 3) := by decide +kernel
theorem dX9_joins_12 : decode cX9_joins 12 = .ok (.iload_n 1, 1) := by decide +kernel
theorem dX9_joins_13 : decode cX9_joins 13 = .ok (.iload_n 1, 1) := by decide +kernel
theorem dX9_joins_14 : decode cX9_joins 14 = .ok (.iastore, 1) := by decide +kernel
theorem dX9_joins_15 : decode cX9_joins 15 = .ok (.iinc 1 1, 3) := by decide +kernel
theorem dX9_joins_18 : decode cX9_joins 18 = .ok (.goto (-16), 3) := by decide +kernel
theorem dX9_joins_21 : decode cX9_joins 21 = .ok (.iconst 1, 1) := by decide +kernel
theorem dX9_joins_22 : decode cX9_joins 22 = .ok (.istore_n 1, 1) := by decide +kernel
theorem dX9_joins_23 : decode cX9_joins 23 = .ok (.iload_n 1, 1) := by decide +kernel
theorem dX9_joins_24 : decode cX9_joins 24 = .ok (.ifCond .eq 82, 3) := by decide +kernel
theorem dX9_joins_27 : decode cX9_joins 27 = .ok (.iconst 0, 1) := by decide +kernel
theorem dX9_joins_28 : decode cX9_joins 28 = .ok (.istore_n 1, 1) := by decide +kernel
theorem dX9_joins_29 : decode cX9_joins 29 = .ok (.iconst 0, 1) := by decide +kernel
theorem dX9_joins_30 : decode cX9_joins 30 = .ok (.istore_n 2, 1) := by decide +kernel
theorem dX9_joins_31 : decode cX9_joins 31 = .ok (.iload_n 2, 1) := by decide +kernel
theorem dX9_joins_32 : decode cX9_joins 32 = .ok (.aload_n 0, 1) := by decide +kernel
theorem dX9_joins_33 : decode cX9_joins 33 = .ok (.getfield 7, 3) := by decide +kernel
theorem dX9_joins_36 : decode cX9_joins 36 = .ok (.iconst 2, 1) := by decide +kernel
theorem dX9_joins_37 : decode cX9_joins 37 = .ok (.iaload, 1) := by decide +kernel
theorem dX9_joins_38 : decode cX9_joins 38 = .ok (.if_icmp .ge 65, 3) := by decide +kernel
theorem dX9_joins_41 : decode cX9_joins 41 = .ok (.iconst 0, 1) := by decide +kernel
theorem dX9_joins_42 : decode cX9_joins 42 = .ok (.istore_n 3, 1) := by decide +kernel
theorem dX9_joins_43 : decode cX9_joins 43 = .ok (.iload_n 3, 1) := by decide +kernel
theorem dX9_joins_44 : decode cX9_joins 44 = .ok (.aload_n 0, 1) := by decide +kernel
theorem dX9_joins_45 : decode cX9_joins 45 = .ok (.getfield 7, 3) := by decide +kernel
theorem dX9_joins_48 : decode cX9_joins 48 = .ok (.iconst 2, 1) := by decide +kernel
theorem dX9_joins_49 : decode cX9_joins 49 = .ok (.iaload, 1) := by decide +kernel
theorem dX9_joins_50 : decode cX9_joins 50 = .ok (.if_icmp .ge 47, 3) := by decide +kernel
theorem dX9_joins_53 : decode cX9_joins 53 = .ok (.aload_n 0, 1) := by decide +kernel
theorem dX9_joins_54 : decode cX9_joins 54 = .ok (.getfield 31, 3) := by decide +kernel
theorem dX9_joins_57 : decode cX9_joins 57 = .ok (.iload_n 3, 1) := by decide +kernel
theorem dX9_joins_58 : decode cX9_joins 58 = .ok (.iaload, 1) := by decide +kernel
theorem dX9_joins_59 : decode cX9_joins 59 = .ok (.aload_n 0, 1) := by decide +kernel
theorem dX9_joins_60 : decode cX9_joins 60 = .ok (.getfield 31, 3) := by decide +kernel
theorem dX9_joins_63 : decode cX9_joins 63 = .ok (.iload_n 2, 1) := by decide +kernel
theorem dX9_joins_64 : decode cX9_joins 64 = .ok (.iaload, 1) := by decide +kernel
theorem dX9_joins_65 : decode cX9_joins 65 = .ok (.if_icmp .ge 26, 3) := by decide +kernel
theorem dX9_joins_68 : decode cX9_joins 68 = .ok (.aload_n 0, 1) := by decide +kernel
theorem dX9_joins_69 : decode cX9_joins 69 = .ok (.iload_n 2, 1) := by decide +kernel
theorem dX9_joins_70 : decode cX9_joins 70 = .ok (.iload_n 3, 1) := by decide +kernel
theorem dX9_joins_71 : decode cX9_joins 71 = .ok (.invokevirtual 66, 3) := by decide +kernel
theorem dX9_joins_74 : decode cX9_joins 74 = .ok (.ifCond .eq 17, 3) := by decide +kernel
theorem dX9_joins_77 : decode cX9_joins 77 = .ok (.aload_n 0, 1) := by decide +kernel
theorem dX9_joins_78 : decode cX9_joins 78 = .ok (.getfield 31, 3) := by decide +kernel
theorem dX9_joins_81 : decode cX9_joins 81 = .ok (.iload_n 2, 1) := by decide +kernel
theorem dX9_joins_82 : decode cX9_joins 82 = .ok (.aload_n 0, 1) := by decide +kernel
theorem dX9_joins_83 : decode cX9_joins 83 = .ok (.getfield 31, 3) := by decide +kernel
theorem dX9_joins_86 : decode cX9_joins 86 = .ok (.iload_n 3, 1) := by decide +kernel
theorem dX9_joins_87 : decode cX9_joins 87 = .ok (.iaload, 1) := by decide +kernel
theorem dX9_joins_88 : decode cX9_joins 88 = .ok (.iastore, 1) := by decide +kernel
theorem dX9_joins_89 : decode cX9_joins 89 = .ok (.iconst 1, 1) := by decide +kernel
theorem dX9_joins_90 : decode cX9_joins 90 = .ok (.istore_n 1, 1) := by decide +kernel
theorem dX9_joins_91 : decode cX9_joins 91 = .ok (.iinc 3 1, 3) := by decide +kernel
theorem dX9_joins_94 : decode cX9_joins 94 = .ok (.goto (-51), 3) := by decide +kernel
theorem dX9_joins_97 : decode cX9_joins 97 = .ok (.iinc 2 1, 3) := by decide +kernel
theorem dX9_joins_100 : decode cX9_joins 100 = .ok (.goto (-69), 3) := by decide +kernel
theorem dX9_joins_103 : decode cX9_joins 103 = .ok (.goto (-80), 3) := by decide +kernel
theorem dX9_joins_106 : decode cX9_joins 106 = .ok (.return_, 1) := by decide +kernel
theorem dX9_sizeOf_0 : decode cX9_sizeOf 0 = .ok (.iconst 0, 1) := by decide +kernel
theorem dX9_sizeOf_1 : decode cX9_sizeOf 1 = .ok (.istore_n 2, 1) := by decide +kernel
theorem dX9_sizeOf_2 : decode cX9_sizeOf 2 = .ok (.iconst 0, 1) := by decide +kernel
theorem dX9_sizeOf_3 : decode cX9_sizeOf 3 = .ok (.istore_n 3, 1) := by decide +kernel
theorem dX9_sizeOf_4 : decode cX9_sizeOf 4 = .ok (.iload_n 3, 1) := by decide +kernel
theorem dX9_sizeOf_5 : decode cX9_sizeOf 5 = .ok (.aload_n 0, 1) := by decide +kernel
theorem dX9_sizeOf_6 : decode cX9_sizeOf 6 = .ok (.getfield 7, 3) := by decide +kernel
theorem dX9_sizeOf_9 : decode cX9_sizeOf 9 = .ok (.iconst 2, 1) := by decide +kernel
theorem dX9_sizeOf_10 : decode cX9_sizeOf 10 = .ok (.iaload, 1) := by decide +kernel
theorem dX9_sizeOf_11 : decode cX9_sizeOf 11 = .ok (.if_icmp .ge 27, 3) := by decide +kernel
theorem dX9_sizeOf_14 : decode cX9_sizeOf 14 = .ok (.iload_n 2, 1) := by decide +kernel
theorem dX9_sizeOf_15 : decode cX9_sizeOf 15 = .ok (.aload_n 0, 1) := by decide +kernel
theorem dX9_sizeOf_16 : decode cX9_sizeOf 16 = .ok (.getfield 31, 3) := by decide +kernel
theorem dX9_sizeOf_19 : decode cX9_sizeOf 19 = .ok (.iload_n 3, 1) := by decide +kernel
theorem dX9_sizeOf_20 : decode cX9_sizeOf 20 = .ok (.iaload, 1) := by decide +kernel
theorem dX9_sizeOf_21 : decode cX9_sizeOf 21 = .ok (.iload_n 1, 1) := by decide +kernel
theorem dX9_sizeOf_22 : decode cX9_sizeOf 22 = .ok (.if_icmp .ne 7, 3) := by decide +kernel
theorem dX9_sizeOf_25 : decode cX9_sizeOf 25 = .ok (.iconst 1, 1) := by decide +kernel
theorem dX9_sizeOf_26 : decode cX9_sizeOf 26 = .ok (.goto 4, 3) := by decide +kernel
theorem dX9_sizeOf_29 : decode cX9_sizeOf 29 = .ok (.iconst 0, 1) := by decide +kernel
theorem dX9_sizeOf_30 : decode cX9_sizeOf 30 = .ok (.iadd, 1) := by decide +kernel
theorem dX9_sizeOf_31 : decode cX9_sizeOf 31 = .ok (.istore_n 2, 1) := by decide +kernel
theorem dX9_sizeOf_32 : decode cX9_sizeOf 32 = .ok (.iinc 3 1, 3) := by decide +kernel
theorem dX9_sizeOf_35 : decode cX9_sizeOf 35 = .ok (.goto (-31), 3) := by decide +kernel
theorem dX9_sizeOf_38 : decode cX9_sizeOf 38 = .ok (.iload_n 2, 1) := by decide +kernel
theorem dX9_sizeOf_39 : decode cX9_sizeOf 39 = .ok (.ireturn, 1) := by decide +kernel
set_option maxRecDepth 20000 in
theorem ggX9_families_X9_joins : GoodIn wsX9_families wsX9_joins := goodIn_r _ [7, 2, 1, 8, 9, 10, 6, 11, 12, 13, 14, 15, 16, 17, 18, 23, 24, 25, 26, 27, 28, 29, 30, 31, 32, 33, 34, 35, 36, 37, 38, 39, 40] (by decide +kernel) (by decide +kernel)
set_option maxRecDepth 20000 in
theorem gX9_families_X9_joins : GoodIn wsX9_families (wsV RX9 73 RX9 yX9_joins wsX9_joins) := goodIn_app (goodIn_of _ (by decide +kernel)) ggX9_families_X9_joins
set_option maxRecDepth 20000 in
theorem ggX9_families_X9_sizeOf : GoodIn wsX9_families wsX9_sizeOf := goodIn_r _ [22, 1, 2, 23, 24, 25, 26, 27, 28, 29, 30, 31, 32, 33, 34, 35, 36, 37, 38, 39, 40] (by decide +kernel) (by decide +kernel)
set_option maxRecDepth 20000 in
theorem gX9_families_X9_sizeOf : GoodIn wsX9_families (wsV RX9 76 RX9 yX9_sizeOf wsX9_sizeOf) := goodIn_app (goodIn_of _ (by decide +kernel)) ggX9_families_X9_sizeOf
theorem dX9_families_0 : decode cX9_families 0 = .ok (.aload_n 0, 1) := by decide +kernel
theorem dX9_families_1 : decode cX9_families 1 = .ok (.invokevirtual 73, 3) := by decide +kernel
theorem dX9_families_4 : decode cX9_families 4 = .ok (.iconst 0, 1) := by decide +kernel
theorem dX9_families_5 : decode cX9_families 5 = .ok (.istore_n 2, 1) := by decide +kernel
theorem dX9_families_6 : decode cX9_families 6 = .ok (.iconst 0, 1) := by decide +kernel
theorem dX9_families_7 : decode cX9_families 7 = .ok (.istore_n 3, 1) := by decide +kernel
theorem dX9_families_8 : decode cX9_families 8 = .ok (.iconst 0, 1) := by decide +kernel
theorem dX9_families_9 : decode cX9_families 9 = .ok (.istore 4, 2) := by decide +kernel
theorem dX9_families_11 : decode cX9_families 11 = .ok (.iload 4, 2) := by decide +kernel
theorem dX9_families_13 : decode cX9_families 13 = .ok (.aload_n 0, 1) := by decide +kernel
theorem dX9_families_14 : decode cX9_families 14 = .ok (.getfield 7, 3) := by decide +kernel
theorem dX9_families_17 : decode cX9_families 17 = .ok (.iconst 2, 1) := by decide +kernel
theorem dX9_families_18 : decode cX9_families 18 = .ok (.iaload, 1) := by decide +kernel
theorem dX9_families_19 : decode cX9_families 19 = .ok (.if_icmp .ge 50, 3) := by decide +kernel
theorem dX9_families_22 : decode cX9_families 22 = .ok (.iload_n 2, 1) := by decide +kernel
theorem dX9_families_23 : decode cX9_families 23 = .ok (.aload_n 0, 1) := by decide +kernel
theorem dX9_families_24 : decode cX9_families 24 = .ok (.getfield 31, 3) := by decide +kernel
theorem dX9_families_27 : decode cX9_families 27 = .ok (.iload 4, 2) := by decide +kernel
theorem dX9_families_29 : decode cX9_families 29 = .ok (.iaload, 1) := by decide +kernel
theorem dX9_families_30 : decode cX9_families 30 = .ok (.iload 4, 2) := by decide +kernel
theorem dX9_families_32 : decode cX9_families 32 = .ok (.if_icmp .ne 7, 3) := by decide +kernel
theorem dX9_families_35 : decode cX9_families 35 = .ok (.iconst 1, 1) := by decide +kernel
theorem dX9_families_36 : decode cX9_families 36 = .ok (.goto 4, 3) := by decide +kernel
theorem dX9_families_39 : decode cX9_families 39 = .ok (.iconst 0, 1) := by decide +kernel
theorem dX9_families_40 : decode cX9_families 40 = .ok (.iadd, 1) := by decide +kernel
theorem dX9_families_41 : decode cX9_families 41 = .ok (.istore_n 2, 1) := by decide +kernel
theorem dX9_families_42 : decode cX9_families 42 = .ok (.aload_n 0, 1) := by decide +kernel
theorem dX9_families_43 : decode cX9_families 43 = .ok (.iload 4, 2) := by decide +kernel
theorem dX9_families_45 : decode cX9_families 45 = .ok (.invokevirtual 76, 3) := by decide +kernel
theorem dX9_families_48 : decode cX9_families 48 = .ok (.iload_n 3, 1) := by decide +kernel
theorem dX9_families_49 : decode cX9_families 49 = .ok (.if_icmp .le 12, 3) := by decide +kernel
theorem dX9_families_52 : decode cX9_families 52 = .ok (.aload_n 0, 1) := by decide +kernel
theorem dX9_families_53 : decode cX9_families 53 = .ok (.iload 4, 2) := by decide +kernel
theorem dX9_families_55 : decode cX9_families 55 = .ok (.invokevirtual 76, 3) := by decide +kernel
theorem dX9_families_58 : decode cX9_families 58 = .ok (.goto 4, 3) := by decide +kernel
theorem dX9_families_61 : decode cX9_families 61 = .ok (.iload_n 3, 1) := by decide +kernel
theorem dX9_families_62 : decode cX9_families 62 = .ok (.istore_n 3, 1) := by decide +kernel
theorem dX9_families_63 : decode cX9_families 63 = .ok (.iinc 4 1, 3) := by decide +kernel
theorem dX9_families_66 : decode cX9_families 66 = .ok (.goto (-55), 3) := by decide +kernel
theorem dX9_families_69 : decode cX9_families 69 = .ok (.iload_n 1, 1) := by decide +kernel
theorem dX9_families_70 : decode cX9_families 70 = .ok (.ifCond .eq 7, 3) := by decide +kernel
theorem dX9_families_73 : decode cX9_families 73 = .ok (.iload_n 3, 1) := by decide +kernel
theorem dX9_families_74 : decode cX9_families 74 = .ok (.goto 4, 3) := by decide +kernel
theorem dX9_families_77 : decode cX9_families 77 = .ok (.iload_n 2, 1) := by decide +kernel
