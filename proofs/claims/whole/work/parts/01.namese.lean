theorem dX8_why_21 : decode cX8_why 21 = .ok (.iload_n 1, 1) := by decide +kernel
theorem dX8_why_22 : decode cX8_why 22 = .ok (.lookupswitch 36 #[(0, 26), (1, 31)], 26) := by decide +kernel
theorem dX8_why_48 : decode cX8_why 48 = .ok (.aload_n 0, 1) := by decide +kernel
theorem dX8_why_49 : decode cX8_why 49 = .ok (.getfield 113, 3) := by decide +kernel
theorem dX8_why_52 : decode cX8_why 52 = .ok (.ireturn, 1) := by decide +kernel
theorem dX8_why_53 : decode cX8_why 53 = .ok (.aload_n 0, 1) := by decide +kernel
theorem dX8_why_54 : decode cX8_why 54 = .ok (.getfield 129, 3) := by decide +kernel
theorem dX8_why_57 : decode cX8_why 57 = .ok (.ireturn, 1) := by decide +kernel
theorem dX8_why_58 : decode cX8_why 58 = .ok (.aload_n 0, 1) := by decide +kernel
theorem dX8_why_59 : decode cX8_why 59 = .ok (.getfield 135, 3) := by decide +kernel
theorem dX8_why_62 : decode cX8_why 62 = .ok (.ireturn, 1) := by decide +kernel
set_option maxRecDepth 20000 in
theorem ggX8_step_X6_has : GoodIn wsX8_step wsX6_has := goodIn_r _ [7, 8, 109, 110, 111, 112, 113, 114] (by decide +kernel) (by decide +kernel)
set_option maxRecDepth 20000 in
theorem gX8_step_X6_has : GoodIn wsX8_step (wsV RX8 138 RX6 yX6_has wsX6_has) := goodIn_app (goodIn_of _ (by decide +kernel)) ggX8_step_X6_has
set_option maxRecDepth 20000 in
theorem ggX8_step_X6_numberOf : GoodIn wsX8_step wsX6_numberOf := goodIn_r _ [12, 8, 13, 109, 110, 111, 112, 113, 114] (by decide +kernel) (by decide +kernel)
set_option maxRecDepth 20000 in
theorem gX8_step_X6_numberOf : GoodIn wsX8_step (wsV RX8 141 RX6 yX6_numberOf wsX6_numberOf) := goodIn_app (goodIn_of _ (by decide +kernel)) ggX8_step_X6_numberOf
set_option maxRecDepth 20000 in
theorem ggX8_step_X6_kinOf : GoodIn wsX8_step wsX6_kinOf := goodIn_r _ [17, 8, 18, 19, 20, 6, 21, 22, 23, 10, 11, 12, 13, 24, 25, 26, 27, 28, 29, 30, 109, 110, 111, 112, 113, 114] (by decide +kernel) (by decide +kernel)
set_option maxRecDepth 20000 in
theorem gX8_step_X6_kinOf : GoodIn wsX8_step (wsV RX8 144 RX6 yX6_kinOf wsX6_kinOf) := goodIn_app (goodIn_of _ (by decide +kernel)) ggX8_step_X6_kinOf
set_option maxRecDepth 20000 in
theorem ggX8_step_X2_find : GoodIn wsX8_step wsX2_find := goodIn_r _ [35, 36, 37, 38, 39, 40, 41, 42, 19, 20, 6, 21, 22, 23, 10, 11, 12, 8, 13, 24, 25, 26, 27, 28, 29, 30, 43, 44, 45, 34, 46, 47, 48, 49, 50, 51, 52, 53, 54, 55, 56, 57, 109, 110, 111, 112, 113, 114, 115, 116] (by decide +kernel) (by decide +kernel)
set_option maxRecDepth 20000 in
theorem gX8_step_X2_find : GoodIn wsX8_step (wsV RX8 147 RX2 yX2_find wsX2_find) := goodIn_app (goodIn_of _ (by decide +kernel)) ggX8_step_X2_find
set_option maxRecDepth 20000 in
theorem ggX8_step_X2_lowestOf : GoodIn wsX8_step wsX2_lowestOf := goodIn_r _ [46, 37, 47, 48, 40, 49, 115, 116] (by decide +kernel) (by decide +kernel)
set_option maxRecDepth 20000 in
theorem gX8_step_X2_lowestOf : GoodIn wsX8_step (wsV RX8 150 RX2 yX2_lowestOf wsX2_lowestOf) := goodIn_app (goodIn_of _ (by decide +kernel)) ggX8_step_X2_lowestOf
set_option maxRecDepth 20000 in
theorem ggX8_step_X2_sizeOf : GoodIn wsX8_step wsX2_sizeOf := goodIn_r _ [62, 36, 43, 44, 45, 34, 46, 37, 47, 48, 40, 49, 115, 116] (by decide +kernel) (by decide +kernel)
set_option maxRecDepth 20000 in
theorem gX8_step_X2_sizeOf : GoodIn wsX8_step (wsV RX8 153 RX2 yX2_sizeOf wsX2_sizeOf) := goodIn_app (goodIn_of _ (by decide +kernel)) ggX8_step_X2_sizeOf
set_option maxRecDepth 20000 in
theorem ggX8_step_X7_factors : GoodIn wsX8_step wsX7_factors := goodIn_r _ [65, 66, 67, 26, 68, 69, 29, 30, 70, 71, 72] (by decide +kernel) (by decide +kernel)
set_option maxRecDepth 20000 in
theorem gX8_step_X7_factors : GoodIn wsX8_step (va_wsS RX8 156 yX7_factors wsX7_factors) := goodIn_app (goodIn_of _ (by decide +kernel)) ggX8_step_X7_factors
set_option maxRecDepth 20000 in
theorem ggX8_step_X7_differentFactors : GoodIn wsX8_step wsX7_differentFactors := goodIn_r _ [75, 66, 67, 26, 68, 69, 29, 30, 76, 77, 78, 79, 80, 81, 70, 71, 72] (by decide +kernel) (by decide +kernel)
set_option maxRecDepth 20000 in
theorem gX8_step_X7_differentFactors : GoodIn wsX8_step (va_wsS RX8 161 yX7_differentFactors wsX7_differentFactors) := goodIn_app (goodIn_of _ (by decide +kernel)) ggX8_step_X7_differentFactors
set_option maxRecDepth 20000 in
theorem ggX8_step_X7_greatestPrime : GoodIn wsX8_step wsX7_greatestPrime := goodIn_r _ [84, 66, 67, 26, 68, 69, 29, 30, 76, 77, 78, 79, 80, 81, 70, 71, 72] (by decide +kernel) (by decide +kernel)
set_option maxRecDepth 20000 in
theorem gX8_step_X7_greatestPrime : GoodIn wsX8_step (va_wsS RX8 164 yX7_greatestPrime wsX7_greatestPrime) := goodIn_app (goodIn_of _ (by decide +kernel)) ggX8_step_X7_greatestPrime
set_option maxRecDepth 20000 in
theorem ggX8_step_X6_leadsFrom : GoodIn wsX8_step wsX6_leadsFrom := goodIn_r _ [88, 8, 89, 90, 91, 6, 92, 93, 94, 95, 96, 97, 18, 19, 20, 21, 22, 23, 10, 11, 12, 13, 24, 25, 26, 27, 28, 29, 30, 109, 110, 111, 112, 113, 114] (by decide +kernel) (by decide +kernel)
set_option maxRecDepth 20000 in
theorem gX8_step_X6_leadsFrom : GoodIn wsX8_step (wsV RX8 167 RX6 yX6_leadsFrom wsX6_leadsFrom) := goodIn_app (goodIn_of _ (by decide +kernel)) ggX8_step_X6_leadsFrom
theorem dX8_step_0 : decode cX8_step 0 = .ok (.aload_n 0, 1) := by decide +kernel
theorem dX8_step_1 : decode cX8_step 1 = .ok (.getfield 10, 3) := by decide +kernel
theorem dX8_step_4 : decode cX8_step 4 = .ok (.iload_n 1, 1) := by decide +kernel
theorem dX8_step_5 : decode cX8_step 5 = .ok (.invokevirtual 138, 3) := by decide +kernel
theorem dX8_step_8 : decode cX8_step 8 = .ok (.ifCond .eq 13, 3) := by decide +kernel
theorem dX8_step_11 : decode cX8_step 11 = .ok (.iload_n 2, 1) := by decide +kernel
theorem dX8_step_12 : decode cX8_step 12 = .ok (.ifCond .lt 9, 3) := by decide +kernel
theorem dX8_step_15 : decode cX8_step 15 = .ok (.iload_n 2, 1) := by decide +kernel
theorem dX8_step_16 : decode cX8_step 16 = .ok (.bipush 7, 2) := by decide +kernel
theorem dX8_step_18 : decode cX8_step 18 = .ok (.if_icmp .le 5, 3) := by decide +kernel
theorem dX8_step_21 : decode cX8_step 21 = .ok (.iconst (-1), 1) := by decide +kernel
theorem dX8_step_22 : decode cX8_step 22 = .ok (.ireturn, 1) := by decide +kernel
theorem dX8_step_23 : decode cX8_step 23 = .ok (.aload_n 0, 1) := by decide +kernel
theorem dX8_step_24 : decode cX8_step 24 = .ok (.getfield 10, 3) := by decide +kernel
theorem dX8_step_27 : decode cX8_step 27 = .ok (.iload_n 1, 1) := by decide +kernel
theorem dX8_step_28 : decode cX8_step 28 = .ok (.invokevirtual 141, 3) := by decide +kernel
theorem dX8_step_31 : decode cX8_step 31 = .ok (.istore_n 3, 1) := by decide +kernel
theorem dX8_step_32 : decode cX8_step 32 = .ok (.iload_n 2, 1) := by decide +kernel
theorem dX8_step_33 : decode cX8_step 33 = .ok (.tableswitch 126 0 6 #[43, 45, 54, 74, 101, 106, 111], 43) := by decide +kernel
theorem dX8_step_76 : decode cX8_step 76 = .ok (.iload_n 3, 1) := by decide +kernel
theorem dX8_step_77 : decode cX8_step 77 = .ok (.ireturn, 1) := by decide +kernel
theorem dX8_step_78 : decode cX8_step 78 = .ok (.aload_n 0, 1) := by decide +kernel
theorem dX8_step_79 : decode cX8_step 79 = .ok (.getfield 10, 3) := by decide +kernel
theorem dX8_step_82 : decode cX8_step 82 = .ok (.iload_n 1, 1) := by decide +kernel
theorem dX8_step_83 : decode cX8_step 83 = .ok (.invokevirtual 144, 3) := by decide +kernel
theorem dX8_step_86 : decode cX8_step 86 = .ok (.ireturn, 1) := by decide +kernel
theorem dX8_step_87 : decode cX8_step 87 = .ok (.aload_n 0, 1) := by decide +kernel
theorem dX8_step_88 : decode cX8_step 88 = .ok (.getfield 39, 3) := by decide +kernel
theorem dX8_step_91 : decode cX8_step 91 = .ok (.aload_n 0, 1) := by decide +kernel
theorem dX8_step_92 : decode cX8_step 92 = .ok (.getfield 10, 3) := by decide +kernel
theorem dX8_step_95 : decode cX8_step 95 = .ok (.invokevirtual 147, 3) := by decide +kernel
theorem dX8_step_98 : decode cX8_step 98 = .ok (.aload_n 0, 1) := by decide +kernel
theorem dX8_step_99 : decode cX8_step 99 = .ok (.getfield 39, 3) := by decide +kernel
theorem dX8_step_102 : decode cX8_step 102 = .ok (.iload_n 1, 1) := by decide +kernel
theorem dX8_step_103 : decode cX8_step 103 = .ok (.invokevirtual 150, 3) := by decide +kernel
theorem dX8_step_106 : decode cX8_step 106 = .ok (.ireturn, 1) := by decide +kernel
theorem dX8_step_107 : decode cX8_step 107 = .ok (.aload_n 0, 1) := by decide +kernel
theorem dX8_step_108 : decode cX8_step 108 = .ok (.getfield 39, 3) := by decide +kernel
theorem dX8_step_111 : decode cX8_step 111 = .ok (.aload_n 0, 1) := by decide +kernel
theorem dX8_step_112 : decode cX8_step 112 = .ok (.getfield 10, 3) := by decide +kernel
theorem dX8_step_115 : decode cX8_step 115 = .ok (.invokevirtual 147, 3) := by decide +kernel
theorem dX8_step_118 : decode cX8_step 118 = .ok (.aload_n 0, 1) := by decide +kernel
theorem dX8_step_119 : decode cX8_step 119 = .ok (.getfield 39, 3) := by decide +kernel
theorem dX8_step_122 : decode cX8_step 122 = .ok (.aload_n 0, 1) := by decide +kernel
theorem dX8_step_123 : decode cX8_step 123 = .ok (.getfield 39, 3) := by decide +kernel
theorem dX8_step_126 : decode cX8_step 126 = .ok (.iload_n 1, 1) := by decide +kernel
theorem dX8_step_127 : decode cX8_step 127 = .ok (.invokevirtual 150, 3) := by decide +kernel
theorem dX8_step_130 : decode cX8_step 130 = .ok (.invokevirtual 153, 3) := by decide +kernel
theorem dX8_step_133 : decode cX8_step 133 = .ok (.ireturn, 1) := by decide +kernel
theorem dX8_step_134 : decode cX8_step 134 = .ok (.iload_n 3, 1) := by decide +kernel
theorem dX8_step_135 : decode cX8_step 135 = .ok (.invokestatic 156, 3) := by decide +kernel
theorem dX8_step_138 : decode cX8_step 138 = .ok (.ireturn, 1) := by decide +kernel
theorem dX8_step_139 : decode cX8_step 139 = .ok (.iload_n 3, 1) := by decide +kernel
theorem dX8_step_140 : decode cX8_step 140 = .ok (.invokestatic 161, 3) := by decide +kernel
theorem dX8_step_143 : decode cX8_step 143 = .ok (.ireturn, 1) := by decide +kernel
theorem dX8_step_144 : decode cX8_step 144 = .ok (.iload_n 3, 1) := by decide +kernel
theorem dX8_step_145 : decode cX8_step 145 = .ok (.iconst 1, 1) := by decide +kernel
theorem dX8_step_146 : decode cX8_step 146 = .ok (.if_icmp .ne 8, 3) := by decide +kernel
theorem dX8_step_149 : decode cX8_step 149 = .ok (.bipush (-4), 2) := by decide +kernel
theorem dX8_step_151 : decode cX8_step 151 = .ok (.goto 7, 3) := by decide +kernel
theorem dX8_step_154 : decode cX8_step 154 = .ok (.iload_n 3, 1) := by decide +kernel
theorem dX8_step_155 : decode cX8_step 155 = .ok (.invokestatic 164, 3) := by decide +kernel
theorem dX8_step_158 : decode cX8_step 158 = .ok (.ireturn, 1) := by decide +kernel
theorem dX8_step_159 : decode cX8_step 159 = .ok (.aload_n 0, 1) := by decide +kernel
theorem dX8_step_160 : decode cX8_step 160 = .ok (.getfield 10, 3) := by decide +kernel
theorem dX8_step_163 : decode cX8_step 163 = .ok (.iload_n 1, 1) := by decide +kernel
theorem dX8_step_164 : decode cX8_step 164 = .ok (.invokevirtual 167, 3) := by decide +kernel
theorem dX8_step_167 : decode cX8_step 167 = .ok (.ireturn, 1) := by decide +kernel
set_option maxRecDepth 20000 in
theorem ggX8_factor_X6_has : GoodIn wsX8_factor wsX6_has := goodIn_r _ [6, 7, 37, 38, 39, 40, 41, 42] (by decide +kernel) (by decide +kernel)
set_option maxRecDepth 20000 in
theorem gX8_factor_X6_has : GoodIn wsX8_factor (wsV RX8 138 RX6 yX6_has wsX6_has) := goodIn_app (goodIn_of _ (by decide +kernel)) ggX8_factor_X6_has
set_option maxRecDepth 20000 in
theorem ggX8_factor_X6_numberOf : GoodIn wsX8_factor wsX6_numberOf := goodIn_r _ [11, 7, 12, 37, 38, 39, 40, 41, 42] (by decide +kernel) (by decide +kernel)
set_option maxRecDepth 20000 in
theorem gX8_factor_X6_numberOf : GoodIn wsX8_factor (wsV RX8 141 RX6 yX6_numberOf wsX6_numberOf) := goodIn_app (goodIn_of _ (by decide +kernel)) ggX8_factor_X6_numberOf
set_option maxRecDepth 20000 in
theorem ggX8_factor_X7_factorAt : GoodIn wsX8_factor wsX7_factorAt := goodIn_r _ [16, 17, 18, 15, 19, 20, 21, 22, 23, 24, 25] (by decide +kernel) (by decide +kernel)
set_option maxRecDepth 20000 in
theorem gX8_factor_X7_factorAt : GoodIn wsX8_factor (va_wsS RX8 170 yX7_factorAt wsX7_factorAt) := goodIn_app (goodIn_of _ (by decide +kernel)) ggX8_factor_X7_factorAt
theorem dX8_factor_0 : decode cX8_factor 0 = .ok (.aload_n 0, 1) := by decide +kernel
theorem dX8_factor_1 : decode cX8_factor 1 = .ok (.getfield 10, 3) := by decide +kernel
theorem dX8_factor_4 : decode cX8_factor 4 = .ok (.iload_n 1, 1) := by decide +kernel
theorem dX8_factor_5 : decode cX8_factor 5 = .ok (.invokevirtual 138, 3) := by decide +kernel
theorem dX8_factor_8 : decode cX8_factor 8 = .ok (.ifCond .eq 7, 3) := by decide +kernel
theorem dX8_factor_11 : decode cX8_factor 11 = .ok (.iload_n 2, 1) := by decide +kernel
theorem dX8_factor_12 : decode cX8_factor 12 = .ok (.ifCond .ge 5, 3) := by decide +kernel
theorem dX8_factor_15 : decode cX8_factor 15 = .ok (.iconst (-1), 1) := by decide +kernel
theorem dX8_factor_16 : decode cX8_factor 16 = .ok (.ireturn, 1) := by decide +kernel
theorem dX8_factor_17 : decode cX8_factor 17 = .ok (.aload_n 0, 1) := by decide +kernel
theorem dX8_factor_18 : decode cX8_factor 18 = .ok (.getfield 10, 3) := by decide +kernel
theorem dX8_factor_21 : decode cX8_factor 21 = .ok (.iload_n 1, 1) := by decide +kernel
theorem dX8_factor_22 : decode cX8_factor 22 = .ok (.invokevirtual 141, 3) := by decide +kernel
theorem dX8_factor_25 : decode cX8_factor 25 = .ok (.iload_n 2, 1) := by decide +kernel
theorem dX8_factor_26 : decode cX8_factor 26 = .ok (.invokestatic 170, 3) := by decide +kernel
theorem dX8_factor_29 : decode cX8_factor 29 = .ok (.istore_n 3, 1) := by decide +kernel
theorem dX8_factor_30 : decode cX8_factor 30 = .ok (.iload_n 3, 1) := by decide +kernel
theorem dX8_factor_31 : decode cX8_factor 31 = .ok (.iconst (-1), 1) := by decide +kernel
theorem dX8_factor_32 : decode cX8_factor 32 = .ok (.if_icmp .ne 8, 3) := by decide +kernel
theorem dX8_factor_35 : decode cX8_factor 35 = .ok (.bipush (-4), 2) := by decide +kernel
theorem dX8_factor_37 : decode cX8_factor 37 = .ok (.goto 4, 3) := by decide +kernel
theorem dX8_factor_40 : decode cX8_factor 40 = .ok (.iload_n 3, 1) := by decide +kernel
theorem dX8_factor_41 : decode cX8_factor 41 = .ok (.ireturn, 1) := by decide +kernel
set_option maxRecDepth 20000 in
theorem ggX8_common_X6_has : GoodIn wsX8_common wsX6_has := goodIn_r _ [6, 7, 40, 41, 42, 43, 44, 45] (by decide +kernel) (by decide +kernel)
set_option maxRecDepth 20000 in
theorem gX8_common_X6_has : GoodIn wsX8_common (wsV RX8 138 RX6 yX6_has wsX6_has) := goodIn_app (goodIn_of _ (by decide +kernel)) ggX8_common_X6_has
set_option maxRecDepth 20000 in
theorem ggX8_common_X6_numberOf : GoodIn wsX8_common wsX6_numberOf := goodIn_r _ [11, 7, 12, 40, 41, 42, 43, 44, 45] (by decide +kernel) (by decide +kernel)
set_option maxRecDepth 20000 in
theorem gX8_common_X6_numberOf : GoodIn wsX8_common (wsV RX8 141 RX6 yX6_numberOf wsX6_numberOf) := goodIn_app (goodIn_of _ (by decide +kernel)) ggX8_common_X6_numberOf
set_option maxRecDepth 20000 in
theorem ggX8_common_X7_divisorByRemainders : GoodIn wsX8_common wsX7_divisorByRemainders := goodIn_r _ [16] (by decide +kernel) (by decide +kernel)
set_option maxRecDepth 20000 in
theorem gX8_common_X7_divisorByRemainders : GoodIn wsX8_common (va_wsS RX8 173 yX7_divisorByRemainders wsX7_divisorByRemainders) := goodIn_app (goodIn_of _ (by decide +kernel)) ggX8_common_X7_divisorByRemainders
set_option maxRecDepth 20000 in
theorem ggX8_common_X7_divisorByFactors : GoodIn wsX8_common wsX7_divisorByFactors := goodIn_r _ [19, 20, 21, 15, 22, 23, 24, 25, 26, 27, 28] (by decide +kernel) (by decide +kernel)
set_option maxRecDepth 20000 in
theorem gX8_common_X7_divisorByFactors : GoodIn wsX8_common (va_wsS RX8 176 yX7_divisorByFactors wsX7_divisorByFactors) := goodIn_app (goodIn_of _ (by decide +kernel)) ggX8_common_X7_divisorByFactors
theorem dX8_common_0 : decode cX8_common 0 = .ok (.aload_n 0, 1) := by decide +kernel
theorem dX8_common_1 : decode cX8_common 1 = .ok (.getfield 10, 3) := by decide +kernel
theorem dX8_common_4 : decode cX8_common 4 = .ok (.iload_n 1, 1) := by decide +kernel
theorem dX8_common_5 : decode cX8_common 5 = .ok (.invokevirtual 138, 3) := by decide +kernel
theorem dX8_common_8 : decode cX8_common 8 = .ok (.ifCond .eq 23, 3) := by decide +kernel
theorem dX8_common_11 : decode cX8_common 11 = .ok (.aload_n 0, 1) := by decide +kernel
theorem dX8_common_12 : decode cX8_common 12 = .ok (.getfield 10, 3) := by decide +kernel
theorem dX8_common_15 : decode cX8_common 15 = .ok (.iload_n 2, 1) := by decide +kernel
theorem dX8_common_16 : decode cX8_common 16 = .ok (.invokevirtual 138, 3) := by decide +kernel
theorem dX8_common_19 : decode cX8_common 19 = .ok (.ifCond .eq 12, 3) := by decide +kernel
theorem dX8_common_22 : decode cX8_common 22 = .ok (.iload_n 3, 1) := by decide +kernel
theorem dX8_common_23 : decode cX8_common 23 = .ok (.ifCond .lt 8, 3) := by decide +kernel
theorem dX8_common_26 : decode cX8_common 26 = .ok (.iload_n 3, 1) := by decide +kernel
theorem dX8_common_27 : decode cX8_common 27 = .ok (.iconst 1, 1) := by decide +kernel
theorem dX8_common_28 : decode cX8_common 28 = .ok (.if_icmp .le 5, 3) := by decide +kernel
theorem dX8_common_31 : decode cX8_common 31 = .ok (.iconst (-1), 1) := by decide +kernel
theorem dX8_common_32 : decode cX8_common 32 = .ok (.ireturn, 1) := by decide +kernel
theorem dX8_common_33 : decode cX8_common 33 = .ok (.aload_n 0, 1) := by decide +kernel
theorem dX8_common_34 : decode cX8_common 34 = .ok (.getfield 10, 3) := by decide +kernel
theorem dX8_common_37 : decode cX8_common 37 = .ok (.iload_n 1, 1) := by decide +kernel
theorem dX8_common_38 : decode cX8_common 38 = .ok (.invokevirtual 141, 3) := by decide +kernel
theorem dX8_common_41 : decode cX8_common 41 = .ok (.istore 4, 2) := by decide +kernel
theorem dX8_common_43 : decode cX8_common 43 = .ok (.aload_n 0, 1) := by decide +kernel
theorem dX8_common_44 : decode cX8_common 44 = .ok (.getfield 10, 3) := by decide +kernel
theorem dX8_common_47 : decode cX8_common 47 = .ok (.iload_n 2, 1) := by decide +kernel
theorem dX8_common_48 : decode cX8_common 48 = .ok (.invokevirtual 141, 3) := by decide +kernel
theorem dX8_common_51 : decode cX8_common 51 = .ok (.istore 5, 2) := by decide +kernel
theorem dX8_common_53 : decode cX8_common 53 = .ok (.iload_n 3, 1) := by decide +kernel
theorem dX8_common_54 : decode cX8_common 54 = .ok (.ifCond .ne 13, 3) := by decide +kernel
theorem dX8_common_57 : decode cX8_common 57 = .ok (.iload 4, 2) := by decide +kernel
theorem dX8_common_59 : decode cX8_common 59 = .ok (.iload 5, 2) := by decide +kernel
theorem dX8_common_61 : decode cX8_common 61 = .ok (.invokestatic 173, 3) := by decide +kernel
theorem dX8_common_64 : decode cX8_common 64 = .ok (.goto 10, 3) := by decide +kernel
theorem dX8_common_67 : decode cX8_common 67 = .ok (.iload 4, 2) := by decide +kernel
theorem dX8_common_69 : decode cX8_common 69 = .ok (.iload 5, 2) := by decide +kernel
theorem dX8_common_71 : decode cX8_common 71 = .ok (.invokestatic 176, 3) := by decide +kernel
theorem dX8_common_74 : decode cX8_common 74 = .ok (.ireturn, 1) := by decide +kernel
set_option maxRecDepth 20000 in
theorem ggX8_whyNot_X6_has : GoodIn wsX8_whyNot wsX6_has := goodIn_r _ [6, 7, 41, 42, 43, 44, 45, 46] (by decide +kernel) (by decide +kernel)
set_option maxRecDepth 20000 in
theorem gX8_whyNot_X6_has : GoodIn wsX8_whyNot (wsV RX8 138 RX6 yX6_has wsX6_has) := goodIn_app (goodIn_of _ (by decide +kernel)) ggX8_whyNot_X6_has
set_option maxRecDepth 20000 in
theorem ggX8_whyNot_X6_obstacle : GoodIn wsX8_whyNot wsX6_obstacle := goodIn_r _ [11, 12, 13, 14, 15, 5, 16, 17, 18, 19, 20, 21, 7, 22, 23, 24, 25, 26, 27, 28, 29, 41, 42, 43, 44, 45, 46] (by decide +kernel) (by decide +kernel)
set_option maxRecDepth 20000 in
theorem gX8_whyNot_X6_obstacle : GoodIn wsX8_whyNot (wsV RX8 179 RX6 yX6_obstacle wsX6_obstacle) := goodIn_app (goodIn_of _ (by decide +kernel)) ggX8_whyNot_X6_obstacle
theorem dX8_whyNot_0 : decode cX8_whyNot 0 = .ok (.aload_n 0, 1) := by decide +kernel
theorem dX8_whyNot_1 : decode cX8_whyNot 1 = .ok (.getfield 10, 3) := by decide +kernel
theorem dX8_whyNot_4 : decode cX8_whyNot 4 = .ok (.iload_n 1, 1) := by decide +kernel
theorem dX8_whyNot_5 : decode cX8_whyNot 5 = .ok (.invokevirtual 138, 3) := by decide +kernel
theorem dX8_whyNot_8 : decode cX8_whyNot 8 = .ok (.ifCond .eq 14, 3) := by decide +kernel
theorem dX8_whyNot_11 : decode cX8_whyNot 11 = .ok (.aload_n 0, 1) := by decide +kernel
theorem dX8_whyNot_12 : decode cX8_whyNot 12 = .ok (.getfield 10, 3) := by decide +kernel
theorem dX8_whyNot_15 : decode cX8_whyNot 15 = .ok (.iload_n 2, 1) := by decide +kernel
theorem dX8_whyNot_16 : decode cX8_whyNot 16 = .ok (.invokevirtual 138, 3) := by decide +kernel
theorem dX8_whyNot_19 : decode cX8_whyNot 19 = .ok (.ifCond .ne 5, 3) := by decide +kernel
theorem dX8_whyNot_22 : decode cX8_whyNot 22 = .ok (.iconst (-1), 1) := by decide +kernel
theorem dX8_whyNot_23 : decode cX8_whyNot 23 = .ok (.ireturn, 1) := by decide +kernel
theorem dX8_whyNot_24 : decode cX8_whyNot 24 = .ok (.aload_n 0, 1) := by decide +kernel
theorem dX8_whyNot_25 : decode cX8_whyNot 25 = .ok (.getfield 10, 3) := by decide +kernel
theorem dX8_whyNot_28 : decode cX8_whyNot 28 = .ok (.iload_n 1, 1) := by decide +kernel
theorem dX8_whyNot_29 : decode cX8_whyNot 29 = .ok (.iload_n 2, 1) := by decide +kernel
theorem dX8_whyNot_30 : decode cX8_whyNot 30 = .ok (.invokevirtual 179, 3) := by decide +kernel
theorem dX8_whyNot_33 : decode cX8_whyNot 33 = .ok (.ireturn, 1) := by decide +kernel
set_option maxRecDepth 20000 in
theorem ggX8_climbs_X8_isSpan : GoodIn wsX8_climbs wsX8_isSpan := goodIn_r _ [7, 2, 8, 9, 10, 11, 12, 13, 56, 57, 58, 59, 60, 61, 62, 63, 64, 65, 66, 67, 68, 69, 70, 71, 72] (by decide +kernel) (by decide +kernel)
set_option maxRecDepth 20000 in
theorem gX8_climbs_X8_isSpan : GoodIn wsX8_climbs (wsV RX8 182 RX8 yX8_isSpan wsX8_isSpan) := goodIn_app (goodIn_of _ (by decide +kernel)) ggX8_climbs_X8_isSpan
set_option maxRecDepth 20000 in
theorem ggX8_climbs_X1_addUp : GoodIn wsX8_climbs wsX1_addUp := goodIn_r _ [18, 19, 20, 21, 22, 23, 24, 25, 26, 11, 27, 28, 29, 30, 31, 32, 33, 34, 35, 36, 37, 38, 39, 40, 41, 13, 42, 43, 44, 45, 46, 47, 48, 49, 50, 51, 52, 73, 74, 75, 76, 77, 78, 79, 80, 67, 68, 69, 70, 71, 72] (by decide +kernel) (by decide +kernel)
set_option maxRecDepth 20000 in
theorem gX8_climbs_X1_addUp : GoodIn wsX8_climbs (wsV RX8 186 RX1 yX1_addUp wsX1_addUp) := goodIn_app (goodIn_of _ (by decide +kernel)) ggX8_climbs_X1_addUp
set_option maxRecDepth 20000 in
theorem ggX8_climbs_X1_goEach : GoodIn wsX8_climbs wsX1_goEach := goodIn_r _ [54, 24, 25, 26, 11, 27, 28, 29, 30, 31, 32, 33, 34, 35, 36, 37, 38, 39, 40, 41, 13, 42, 43, 44, 45, 46, 47, 48, 49, 55, 53, 17, 67, 68, 69, 70, 71, 72] (by decide +kernel) (by decide +kernel)
set_option maxRecDepth 20000 in
theorem gX8_climbs_X1_goEach_n190 : GoodIn wsX8_climbs (wsX1_goEach) := ggX8_climbs_X1_goEach
theorem dX8_climbs_0 : decode cX8_climbs 0 = .ok (.aload_n 0, 1) := by decide +kernel
theorem dX8_climbs_1 : decode cX8_climbs 1 = .ok (.iload_n 1, 1) := by decide +kernel
theorem dX8_climbs_2 : decode cX8_climbs 2 = .ok (.iload_n 2, 1) := by decide +kernel
theorem dX8_climbs_3 : decode cX8_climbs 3 = .ok (.invokevirtual 182, 3) := by decide +kernel
theorem dX8_climbs_6 : decode cX8_climbs 6 = .ok (.ifCond .eq 12, 3) := by decide +kernel
theorem dX8_climbs_9 : decode cX8_climbs 9 = .ok (.iload_n 3, 1) := by decide +kernel
theorem dX8_climbs_10 : decode cX8_climbs 10 = .ok (.ifCond .lt 8, 3) := by decide +kernel
theorem dX8_climbs_13 : decode cX8_climbs 13 = .ok (.iload_n 3, 1) := by decide +kernel
theorem dX8_climbs_14 : decode cX8_climbs 14 = .ok (.iconst 1, 1) := by decide +kernel
theorem dX8_climbs_15 : decode cX8_climbs 15 = .ok (.if_icmp .le 5, 3) := by decide +kernel
theorem dX8_climbs_18 : decode cX8_climbs 18 = .ok (.iconst (-1), 1) := by decide +kernel
theorem dX8_climbs_19 : decode cX8_climbs 19 = .ok (.ireturn, 1) := by decide +kernel
theorem dX8_climbs_20 : decode cX8_climbs 20 = .ok (.iload_n 3, 1) := by decide +kernel
theorem dX8_climbs_21 : decode cX8_climbs 21 = .ok (.ifCond .ne 19, 3) := by decide +kernel
theorem dX8_climbs_24 : decode cX8_climbs 24 = .ok (.aload_n 0, 1) := by decide +kernel
theorem dX8_climbs_25 : decode cX8_climbs 25 = .ok (.getfield 46, 3) := by decide +kernel
theorem dX8_climbs_28 : decode cX8_climbs 28 = .ok (.aload_n 0, 1) := by decide +kernel
theorem dX8_climbs_29 : decode cX8_climbs 29 = .ok (.getfield 10, 3) := by decide +kernel
theorem dX8_climbs_32 : decode cX8_climbs 32 = .ok (.iload_n 1, 1) := by decide +kernel
theorem dX8_climbs_33 : decode cX8_climbs 33 = .ok (.iload_n 2, 1) := by decide +kernel
theorem dX8_climbs_34 : decode cX8_climbs 34 = .ok (.invokevirtual 186, 3) := by decide +kernel
theorem dX8_climbs_37 : decode cX8_climbs 37 = .ok (.goto 13, 3) := by decide +kernel
theorem dX8_climbs_40 : decode cX8_climbs 40 = .ok (.aload_n 0, 1) := by decide +kernel
theorem dX8_climbs_41 : decode cX8_climbs 41 = .ok (.getfield 10, 3) := by decide +kernel
theorem dX8_climbs_44 : decode cX8_climbs 44 = .ok (.iload_n 1, 1) := by decide +kernel
theorem dX8_climbs_45 : decode cX8_climbs 45 = .ok (.iload_n 2, 1) := by decide +kernel
theorem dX8_climbs_46 : decode cX8_climbs 46 = .ok (.iconst 1, 1) := by decide +kernel
theorem dX8_climbs_47 : decode cX8_climbs 47 = .ok (.invokestatic 190, 3) := by decide +kernel
theorem dX8_climbs_50 : decode cX8_climbs 50 = .ok (.ireturn, 1) := by decide +kernel
set_option maxRecDepth 20000 in
theorem ggX8_climb_X8_isSpan : GoodIn wsX8_climb wsX8_isSpan := goodIn_r _ [7, 2, 8, 9, 10, 11, 12, 13, 73, 74, 75, 76, 77, 78, 79, 80, 81, 82, 83, 92, 93, 94, 95, 96, 97] (by decide +kernel) (by decide +kernel)
set_option maxRecDepth 20000 in
theorem gX8_climb_X8_isSpan : GoodIn wsX8_climb (wsV RX8 182 RX8 yX8_isSpan wsX8_isSpan) := goodIn_app (goodIn_of _ (by decide +kernel)) ggX8_climb_X8_isSpan
set_option maxRecDepth 20000 in
theorem ggX8_climb_X1_seek : GoodIn wsX8_climb wsX1_seek := goodIn_r _ [18, 19, 20, 21, 22, 23, 24, 25, 17, 26, 27, 28, 29, 30, 31, 32, 33, 11, 34, 35, 36, 37, 38, 39, 40, 41, 42, 43, 44, 45, 46, 47, 48, 13, 49, 50, 51, 52, 53, 54, 55, 56, 57, 58, 59, 60, 61, 62, 63, 84, 85, 86, 87, 88, 89, 90, 91, 92, 93, 94, 95, 96, 97] (by decide +kernel) (by decide +kernel)
set_option maxRecDepth 20000 in
theorem gX8_climb_X1_seek : GoodIn wsX8_climb (wsV RX8 194 RX1 yX1_seek wsX1_seek) := goodIn_app (goodIn_of _ (by decide +kernel)) ggX8_climb_X1_seek
set_option maxRecDepth 20000 in
theorem ggX8_climb_X1_sumOf : GoodIn wsX8_climb wsX1_sumOf := goodIn_r _ [67, 21, 22, 27, 28, 29, 30, 60, 46, 47, 11, 48, 13, 49, 84, 85, 86, 87, 88, 89, 90, 91, 92, 93, 94, 95, 96, 97] (by decide +kernel) (by decide +kernel)
set_option maxRecDepth 20000 in
theorem gX8_climb_X1_sumOf : GoodIn wsX8_climb (wsV RX8 201 RX1 yX1_sumOf wsX1_sumOf) := goodIn_app (goodIn_of _ (by decide +kernel)) ggX8_climb_X1_sumOf
set_option maxRecDepth 20000 in
theorem ggX8_climb_X1_divisorOf : GoodIn wsX8_climb wsX1_divisorOf := goodIn_r _ [71, 21, 22, 27, 28, 29, 30, 60, 46, 47, 11, 48, 13, 49, 72, 51, 52, 53, 84, 85, 86, 87, 88, 89, 90, 91, 92, 93, 94, 95, 96, 97] (by decide +kernel) (by decide +kernel)
set_option maxRecDepth 20000 in
theorem gX8_climb_X1_divisorOf : GoodIn wsX8_climb (wsV RX8 205 RX1 yX1_divisorOf wsX1_divisorOf) := goodIn_app (goodIn_of _ (by decide +kernel)) ggX8_climb_X1_divisorOf
theorem dX8_climb_0 : decode cX8_climb 0 = .ok (.aload_n 0, 1) := by decide +kernel
theorem dX8_climb_1 : decode cX8_climb 1 = .ok (.iload_n 1, 1) := by decide +kernel
theorem dX8_climb_2 : decode cX8_climb 2 = .ok (.iload_n 2, 1) := by decide +kernel
theorem dX8_climb_3 : decode cX8_climb 3 = .ok (.invokevirtual 182, 3) := by decide +kernel
theorem dX8_climb_6 : decode cX8_climb 6 = .ok (.ifCond .eq 23, 3) := by decide +kernel
theorem dX8_climb_9 : decode cX8_climb 9 = .ok (.iload_n 3, 1) := by decide +kernel
theorem dX8_climb_10 : decode cX8_climb 10 = .ok (.ifCond .lt 19, 3) := by decide +kernel
theorem dX8_climb_13 : decode cX8_climb 13 = .ok (.iload_n 3, 1) := by decide +kernel
theorem dX8_climb_14 : decode cX8_climb 14 = .ok (.iconst 2, 1) := by decide +kernel
theorem dX8_climb_15 : decode cX8_climb 15 = .ok (.if_icmp .gt 14, 3) := by decide +kernel
theorem dX8_climb_18 : decode cX8_climb 18 = .ok (.iload 4, 2) := by decide +kernel
theorem dX8_climb_20 : decode cX8_climb 20 = .ok (.ifCond .lt 9, 3) := by decide +kernel
theorem dX8_climb_23 : decode cX8_climb 23 = .ok (.iload 4, 2) := by decide +kernel
theorem dX8_climb_25 : decode cX8_climb 25 = .ok (.iconst 2, 1) := by decide +kernel
theorem dX8_climb_26 : decode cX8_climb 26 = .ok (.if_icmp .le 5, 3) := by decide +kernel
theorem dX8_climb_29 : decode cX8_climb 29 = .ok (.iconst (-1), 1) := by decide +kernel
theorem dX8_climb_30 : decode cX8_climb 30 = .ok (.ireturn, 1) := by decide +kernel
theorem dX8_climb_31 : decode cX8_climb 31 = .ok (.aload_n 0, 1) := by decide +kernel
theorem dX8_climb_32 : decode cX8_climb 32 = .ok (.getfield 46, 3) := by decide +kernel
theorem dX8_climb_35 : decode cX8_climb 35 = .ok (.aload_n 0, 1) := by decide +kernel
theorem dX8_climb_36 : decode cX8_climb 36 = .ok (.getfield 10, 3) := by decide +kernel
theorem dX8_climb_39 : decode cX8_climb 39 = .ok (.iload_n 1, 1) := by decide +kernel
theorem dX8_climb_40 : decode cX8_climb 40 = .ok (.iload_n 2, 1) := by decide +kernel
theorem dX8_climb_41 : decode cX8_climb 41 = .ok (.iload_n 3, 1) := by decide +kernel
theorem dX8_climb_42 : decode cX8_climb 42 = .ok (.invokevirtual 194, 3) := by decide +kernel
theorem dX8_climb_45 : decode cX8_climb 45 = .ok (.aload_n 0, 1) := by decide +kernel
theorem dX8_climb_46 : decode cX8_climb 46 = .ok (.getfield 46, 3) := by decide +kernel
theorem dX8_climb_49 : decode cX8_climb 49 = .ok (.getfield 198, 3) := by decide +kernel
theorem dX8_climb_52 : decode cX8_climb 52 = .ok (.ifCond .ne 6, 3) := by decide +kernel
theorem dX8_climb_55 : decode cX8_climb 55 = .ok (.bipush (-4), 2) := by decide +kernel
theorem dX8_climb_57 : decode cX8_climb 57 = .ok (.ireturn, 1) := by decide +kernel
theorem dX8_climb_58 : decode cX8_climb 58 = .ok (.iload 4, 2) := by decide +kernel
theorem dX8_climb_60 : decode cX8_climb 60 = .ok (.lookupswitch 48 #[(0, 28), (1, 36)], 28) := by decide +kernel
theorem dX8_climb_88 : decode cX8_climb 88 = .ok (.aload_n 0, 1) := by decide +kernel
theorem dX8_climb_89 : decode cX8_climb 89 = .ok (.getfield 46, 3) := by decide +kernel
theorem dX8_climb_92 : decode cX8_climb 92 = .ok (.getfield 198, 3) := by decide +kernel
theorem dX8_climb_95 : decode cX8_climb 95 = .ok (.ireturn, 1) := by decide +kernel
theorem dX8_climb_96 : decode cX8_climb 96 = .ok (.aload_n 0, 1) := by decide +kernel
theorem dX8_climb_97 : decode cX8_climb 97 = .ok (.getfield 46, 3) := by decide +kernel
theorem dX8_climb_100 : decode cX8_climb 100 = .ok (.aload_n 0, 1) := by decide +kernel
theorem dX8_climb_101 : decode cX8_climb 101 = .ok (.getfield 10, 3) := by decide +kernel
theorem dX8_climb_104 : decode cX8_climb 104 = .ok (.invokevirtual 201, 3) := by decide +kernel
theorem dX8_climb_107 : decode cX8_climb 107 = .ok (.ireturn, 1) := by decide +kernel
theorem dX8_climb_108 : decode cX8_climb 108 = .ok (.aload_n 0, 1) := by decide +kernel
theorem dX8_climb_109 : decode cX8_climb 109 = .ok (.getfield 46, 3) := by decide +kernel
theorem dX8_climb_112 : decode cX8_climb 112 = .ok (.aload_n 0, 1) := by decide +kernel
theorem dX8_climb_113 : decode cX8_climb 113 = .ok (.getfield 10, 3) := by decide +kernel
theorem dX8_climb_116 : decode cX8_climb 116 = .ok (.invokevirtual 205, 3) := by decide +kernel
theorem dX8_climb_119 : decode cX8_climb 119 = .ok (.ireturn, 1) := by decide +kernel
set_option maxRecDepth 20000 in
theorem ggX8_climbAt_X8_isSpan : GoodIn wsX8_climbAt wsX8_isSpan := goodIn_r _ [7, 2, 8, 9, 10, 11, 12, 13, 65, 66, 67, 68, 69, 70, 71, 72, 73, 74, 75, 84, 85, 86, 87, 88, 89] (by decide +kernel) (by decide +kernel)
set_option maxRecDepth 20000 in
theorem gX8_climbAt_X8_isSpan : GoodIn wsX8_climbAt (wsV RX8 182 RX8 yX8_isSpan wsX8_isSpan) := goodIn_app (goodIn_of _ (by decide +kernel)) ggX8_climbAt_X8_isSpan
set_option maxRecDepth 20000 in
theorem ggX8_climbAt_X1_seek : GoodIn wsX8_climbAt wsX1_seek := goodIn_r _ [18, 19, 20, 21, 22, 23, 24, 25, 17, 26, 27, 28, 29, 30, 31, 32, 33, 11, 34, 35, 36, 37, 38, 39, 40, 41, 42, 43, 44, 45, 46, 47, 48, 13, 49, 50, 51, 52, 53, 54, 55, 56, 57, 58, 59, 60, 61, 62, 63, 76, 77, 78, 79, 80, 81, 82, 83, 84, 85, 86, 87, 88, 89] (by decide +kernel) (by decide +kernel)
set_option maxRecDepth 20000 in
theorem gX8_climbAt_X1_seek : GoodIn wsX8_climbAt (wsV RX8 194 RX1 yX1_seek wsX1_seek) := goodIn_app (goodIn_of _ (by decide +kernel)) ggX8_climbAt_X1_seek
set_option maxRecDepth 20000 in
theorem ggX8_climbAt_X5_at : GoodIn wsX8_climbAt wsX5_at := goodIn_r _ [30] (by decide +kernel) (by decide +kernel)
set_option maxRecDepth 20000 in
theorem gX8_climbAt_X5_at : GoodIn wsX8_climbAt (va_wsS RX8 212 yX5_at wsX5_at) := goodIn_app (goodIn_of _ (by decide +kernel)) ggX8_climbAt_X5_at
theorem dX8_climbAt_0 : decode cX8_climbAt 0 = .ok (.aload_n 0, 1) := by decide +kernel
theorem dX8_climbAt_1 : decode cX8_climbAt 1 = .ok (.iload_n 1, 1) := by decide +kernel
theorem dX8_climbAt_2 : decode cX8_climbAt 2 = .ok (.iload_n 2, 1) := by decide +kernel
theorem dX8_climbAt_3 : decode cX8_climbAt 3 = .ok (.invokevirtual 182, 3) := by decide +kernel
theorem dX8_climbAt_6 : decode cX8_climbAt 6 = .ok (.ifCond .eq 17, 3) := by decide +kernel
theorem dX8_climbAt_9 : decode cX8_climbAt 9 = .ok (.iload_n 3, 1) := by decide +kernel
theorem dX8_climbAt_10 : decode cX8_climbAt 10 = .ok (.ifCond .lt 13, 3) := by decide +kernel
theorem dX8_climbAt_13 : decode cX8_climbAt 13 = .ok (.iload_n 3, 1) := by decide +kernel
theorem dX8_climbAt_14 : decode cX8_climbAt 14 = .ok (.iconst 2, 1) := by decide +kernel
theorem dX8_climbAt_15 : decode cX8_climbAt 15 = .ok (.if_icmp .gt 8, 3) := by decide +kernel
theorem dX8_climbAt_18 : decode cX8_climbAt 18 = .ok (.iload 4, 2) := by decide +kernel
theorem dX8_climbAt_20 : decode cX8_climbAt 20 = .ok (.ifCond .ge 5, 3) := by decide +kernel
theorem dX8_climbAt_23 : decode cX8_climbAt 23 = .ok (.iconst (-1), 1) := by decide +kernel
theorem dX8_climbAt_24 : decode cX8_climbAt 24 = .ok (.ireturn, 1) := by decide +kernel
theorem dX8_climbAt_25 : decode cX8_climbAt 25 = .ok (.aload_n 0, 1) := by decide +kernel
theorem dX8_climbAt_26 : decode cX8_climbAt 26 = .ok (.getfield 46, 3) := by decide +kernel
theorem dX8_climbAt_29 : decode cX8_climbAt 29 = .ok (.aload_n 0, 1) := by decide +kernel
theorem dX8_climbAt_30 : decode cX8_climbAt 30 = .ok (.getfield 10, 3) := by decide +kernel
theorem dX8_climbAt_33 : decode cX8_climbAt 33 = .ok (.iload_n 1, 1) := by decide +kernel
theorem dX8_climbAt_34 : decode cX8_climbAt 34 = .ok (.iload_n 2, 1) := by decide +kernel
theorem dX8_climbAt_35 : decode cX8_climbAt 35 = .ok (.iload_n 3, 1) := by decide +kernel
theorem dX8_climbAt_36 : decode cX8_climbAt 36 = .ok (.invokevirtual 194, 3) := by decide +kernel
theorem dX8_climbAt_39 : decode cX8_climbAt 39 = .ok (.iload 4, 2) := by decide +kernel
theorem dX8_climbAt_41 : decode cX8_climbAt 41 = .ok (.aload_n 0, 1) := by decide +kernel
theorem dX8_climbAt_42 : decode cX8_climbAt 42 = .ok (.getfield 46, 3) := by decide +kernel
theorem dX8_climbAt_45 : decode cX8_climbAt 45 = .ok (.getfield 198, 3) := by decide +kernel
theorem dX8_climbAt_48 : decode cX8_climbAt 48 = .ok (.if_icmp .ge 18, 3) := by decide +kernel
theorem dX8_climbAt_51 : decode cX8_climbAt 51 = .ok (.aload_n 0, 1) := by decide +kernel
theorem dX8_climbAt_52 : decode cX8_climbAt 52 = .ok (.getfield 46, 3) := by decide +kernel
theorem dX8_climbAt_55 : decode cX8_climbAt 55 = .ok (.getfield 208, 3) := by decide +kernel
theorem dX8_climbAt_58 : decode cX8_climbAt 58 = .ok (.iload 4, 2) := by decide +kernel
theorem dX8_climbAt_60 : decode cX8_climbAt 60 = .ok (.invokestatic 212, 3) := by decide +kernel
theorem dX8_climbAt_63 : decode cX8_climbAt 63 = .ok (.goto 5, 3) := by decide +kernel
theorem dX8_climbAt_66 : decode cX8_climbAt 66 = .ok (.bipush (-4), 2) := by decide +kernel
theorem dX8_climbAt_68 : decode cX8_climbAt 68 = .ok (.ireturn, 1) := by decide +kernel
set_option maxRecDepth 20000 in
theorem ggX8_crown_X6_kinOf : GoodIn wsX8_crown wsX6_kinOf := goodIn_r _ [6, 7, 8, 9, 10, 5, 11, 12, 13, 14, 15, 16, 17, 18, 19, 20, 21, 22, 23, 24, 37, 38, 39, 40, 41, 42] (by decide +kernel) (by decide +kernel)
set_option maxRecDepth 20000 in
theorem gX8_crown_X6_kinOf : GoodIn wsX8_crown (wsV RX8 144 RX6 yX6_kinOf wsX6_kinOf) := goodIn_app (goodIn_of _ (by decide +kernel)) ggX8_crown_X6_kinOf
set_option maxRecDepth 20000 in
theorem ggX8_crown_X6_numberOf : GoodIn wsX8_crown wsX6_numberOf := goodIn_r _ [16, 7, 17, 37, 38, 39, 40, 41, 42] (by decide +kernel) (by decide +kernel)
set_option maxRecDepth 20000 in
theorem gX8_crown_X6_numberOf : GoodIn wsX8_crown (wsV RX8 141 RX6 yX6_numberOf wsX6_numberOf) := goodIn_app (goodIn_of _ (by decide +kernel)) ggX8_crown_X6_numberOf
theorem dX8_crown_0 : decode cX8_crown 0 = .ok (.iconst (-1), 1) := by decide +kernel
theorem dX8_crown_1 : decode cX8_crown 1 = .ok (.istore_n 1, 1) := by decide +kernel
theorem dX8_crown_2 : decode cX8_crown 2 = .ok (.iconst (-1), 1) := by decide +kernel
theorem dX8_crown_3 : decode cX8_crown 3 = .ok (.istore_n 2, 1) := by decide +kernel
theorem dX8_crown_4 : decode cX8_crown 4 = .ok (.iconst 0, 1) := by decide +kernel
theorem dX8_crown_5 : decode cX8_crown 5 = .ok (.istore_n 3, 1) := by decide +kernel
theorem dX8_crown_6 : decode cX8_crown 6 = .ok (.iload_n 3, 1) := by decide +kernel
theorem dX8_crown_7 : decode cX8_crown 7 = .ok (.aload_n 0, 1) := by decide +kernel
theorem dX8_crown_8 : decode cX8_crown 8 = .ok (.getfield 10, 3) := by decide +kernel
theorem dX8_crown_11 : decode cX8_crown 11 = .ok (.getfield 97, 3) := by decide +kernel
theorem dX8_crown_14 : decode cX8_crown 14 = .ok (.if_icmp .ge 55, 3) := by decide +kernel
theorem dX8_crown_17 : decode cX8_crown 17 = .ok (.aload_n 0, 1) := by decide +kernel
theorem dX8_crown_18 : decode cX8_crown 18 = .ok (.getfield 10, 3) := by decide +kernel
theorem dX8_crown_21 : decode cX8_crown 21 = .ok (.iload_n 3, 1) := by decide +kernel
theorem dX8_crown_22 : decode cX8_crown 22 = .ok (.invokevirtual 144, 3) := by decide +kernel
theorem dX8_crown_25 : decode cX8_crown 25 = .ok (.istore 4, 2) := by decide +kernel
theorem dX8_crown_27 : decode cX8_crown 27 = .ok (.iload 4, 2) := by decide +kernel
theorem dX8_crown_29 : decode cX8_crown 29 = .ok (.iload_n 2, 1) := by decide +kernel
theorem dX8_crown_30 : decode cX8_crown 30 = .ok (.if_icmp .gt 28, 3) := by decide +kernel
theorem dX8_crown_33 : decode cX8_crown 33 = .ok (.iload 4, 2) := by decide +kernel
theorem dX8_crown_35 : decode cX8_crown 35 = .ok (.iload_n 2, 1) := by decide +kernel
theorem dX8_crown_36 : decode cX8_crown 36 = .ok (.if_icmp .ne 27, 3) := by decide +kernel
theorem dX8_crown_39 : decode cX8_crown 39 = .ok (.aload_n 0, 1) := by decide +kernel
theorem dX8_crown_40 : decode cX8_crown 40 = .ok (.getfield 10, 3) := by decide +kernel
theorem dX8_crown_43 : decode cX8_crown 43 = .ok (.iload_n 3, 1) := by decide +kernel
theorem dX8_crown_44 : decode cX8_crown 44 = .ok (.invokevirtual 141, 3) := by decide +kernel
theorem dX8_crown_47 : decode cX8_crown 47 = .ok (.aload_n 0, 1) := by decide +kernel
theorem dX8_crown_48 : decode cX8_crown 48 = .ok (.getfield 10, 3) := by decide +kernel
theorem dX8_crown_51 : decode cX8_crown 51 = .ok (.iload_n 1, 1) := by decide +kernel
theorem dX8_crown_52 : decode cX8_crown 52 = .ok (.invokevirtual 141, 3) := by decide +kernel
theorem dX8_crown_55 : decode cX8_crown 55 = .ok (.if_icmp .le 8, 3) := by decide +kernel
theorem dX8_crown_58 : decode cX8_crown 58 = .ok (.iload_n 3, 1) := by decide +kernel
theorem dX8_crown_59 : decode cX8_crown 59 = .ok (.istore_n 1, 1) := by decide +kernel
theorem dX8_crown_60 : decode cX8_crown 60 = .ok (.iload 4, 2) := by decide +kernel
theorem dX8_crown_62 : decode cX8_crown 62 = .ok (.istore_n 2, 1) := by decide +kernel
theorem dX8_crown_63 : decode cX8_crown 63 = .ok (.iinc 3 1, 3) := by decide +kernel
theorem dX8_crown_66 : decode cX8_crown 66 = .ok (.goto (-60), 3) := by decide +kernel
theorem dX8_crown_69 : decode cX8_crown 69 = .ok (.iload_n 1, 1) := by decide +kernel
theorem dX8_crown_70 : decode cX8_crown 70 = .ok (.iconst (-1), 1) := by decide +kernel
theorem dX8_crown_71 : decode cX8_crown 71 = .ok (.if_icmp .ne 8, 3) := by decide +kernel
theorem dX8_crown_74 : decode cX8_crown 74 = .ok (.bipush (-4), 2) := by decide +kernel
theorem dX8_crown_76 : decode cX8_crown 76 = .ok (.goto 4, 3) := by decide +kernel
theorem dX8_crown_79 : decode cX8_crown 79 = .ok (.iload_n 1, 1) := by decide +kernel
theorem dX8_crown_80 : decode cX8_crown 80 = .ok (.ireturn, 1) := by decide +kernel
set_option maxRecDepth 20000 in
theorem ggX8_prime_X7_isPrime : GoodIn wsX8_prime wsX7_isPrime := goodIn_r _ [5, 6, 7, 4, 8, 9, 10, 11] (by decide +kernel) (by decide +kernel)
set_option maxRecDepth 20000 in
theorem gX8_prime_X7_isPrime : GoodIn wsX8_prime (va_wsS RX8 218 yX7_isPrime wsX7_isPrime) := goodIn_app (goodIn_of _ (by decide +kernel)) ggX8_prime_X7_isPrime
set_option maxRecDepth 20000 in
theorem ggX8_prime_X0_chipsOf : GoodIn wsX8_prime wsX0_chipsOf := goodIn_r _ [16, 17, 18, 19, 20, 15, 21, 22, 23, 24, 25, 26, 27, 80, 81, 82, 83] (by decide +kernel) (by decide +kernel)
set_option maxRecDepth 20000 in
theorem gX8_prime_X0_chipsOf : GoodIn wsX8_prime (wsV RX8 225 RX0 yX0_chipsOf wsX0_chipsOf) := goodIn_app (goodIn_of _ (by decide +kernel)) ggX8_prime_X0_chipsOf
set_option maxRecDepth 20000 in
theorem ggX8_prime_X0_cameOf : GoodIn wsX8_prime wsX0_cameOf := goodIn_r _ [31, 32, 18, 19, 20, 15, 21, 22, 23, 24, 25, 26, 27, 80, 81, 82, 83] (by decide +kernel) (by decide +kernel)
set_option maxRecDepth 20000 in
theorem gX8_prime_X0_cameOf : GoodIn wsX8_prime (wsV RX8 230 RX0 yX0_cameOf wsX0_cameOf) := goodIn_app (goodIn_of _ (by decide +kernel)) ggX8_prime_X0_cameOf
set_option maxRecDepth 20000 in
theorem ggX8_prime_X6_sumOfExponents : GoodIn wsX8_prime wsX6_sumOfExponents := goodIn_r _ [37, 38, 39, 40, 41, 36, 42, 43, 44, 45, 4, 46, 9, 10, 11, 47, 48, 49, 74, 75, 76, 77, 78, 79] (by decide +kernel) (by decide +kernel)
set_option maxRecDepth 20000 in
theorem gX8_prime_X6_sumOfExponents : GoodIn wsX8_prime (wsV RX8 233 RX6 yX6_sumOfExponents wsX6_sumOfExponents) := goodIn_app (goodIn_of _ (by decide +kernel)) ggX8_prime_X6_sumOfExponents
set_option maxRecDepth 20000 in
theorem ggX8_prime_X6_greatestExponent : GoodIn wsX8_prime wsX6_greatestExponent := goodIn_r _ [53, 38, 54, 55, 56, 57, 39, 40, 41, 36, 42, 43, 44, 45, 4, 46, 9, 10, 11, 47, 48, 49, 74, 75, 76, 77, 78, 79] (by decide +kernel) (by decide +kernel)
set_option maxRecDepth 20000 in
theorem gX8_prime_X6_greatestExponent : GoodIn wsX8_prime (wsV RX8 236 RX6 yX6_greatestExponent wsX6_greatestExponent) := goodIn_app (goodIn_of _ (by decide +kernel)) ggX8_prime_X6_greatestExponent
set_option maxRecDepth 20000 in
theorem ggX8_prime_X6_multiplesOf : GoodIn wsX8_prime wsX6_multiplesOf := goodIn_r _ [61, 38, 39, 40, 41, 36, 42, 43, 62, 10, 4, 11, 74, 75, 76, 77, 78, 79] (by decide +kernel) (by decide +kernel)
set_option maxRecDepth 20000 in
theorem gX8_prime_X6_multiplesOf : GoodIn wsX8_prime (wsV RX8 239 RX6 yX6_multiplesOf wsX6_multiplesOf) := goodIn_app (goodIn_of _ (by decide +kernel)) ggX8_prime_X6_multiplesOf
theorem dX8_prime_0 : decode cX8_prime 0 = .ok (.iload_n 1, 1) := by decide +kernel
theorem dX8_prime_1 : decode cX8_prime 1 = .ok (.invokestatic 218, 3) := by decide +kernel
theorem dX8_prime_4 : decode cX8_prime 4 = .ok (.ifCond .eq 12, 3) := by decide +kernel
theorem dX8_prime_7 : decode cX8_prime 7 = .ok (.iload_n 2, 1) := by decide +kernel
theorem dX8_prime_8 : decode cX8_prime 8 = .ok (.ifCond .lt 8, 3) := by decide +kernel
theorem dX8_prime_11 : decode cX8_prime 11 = .ok (.iload_n 2, 1) := by decide +kernel
theorem dX8_prime_12 : decode cX8_prime 12 = .ok (.iconst 4, 1) := by decide +kernel
theorem dX8_prime_13 : decode cX8_prime 13 = .ok (.if_icmp .le 5, 3) := by decide +kernel
theorem dX8_prime_16 : decode cX8_prime 16 = .ok (.iconst (-1), 1) := by decide +kernel
theorem dX8_prime_17 : decode cX8_prime 17 = .ok (.ireturn, 1) := by decide +kernel
theorem dX8_prime_18 : decode cX8_prime 18 = .ok (.iload_n 2, 1) := by decide +kernel
theorem dX8_prime_19 : decode cX8_prime 19 = .ok (.tableswitch 71 0 3 #[29, 41, 53, 62], 29) := by decide +kernel
theorem dX8_prime_48 : decode cX8_prime 48 = .ok (.aload_n 0, 1) := by decide +kernel
theorem dX8_prime_49 : decode cX8_prime 49 = .ok (.getfield 10, 3) := by decide +kernel
theorem dX8_prime_52 : decode cX8_prime 52 = .ok (.getfield 221, 3) := by decide +kernel
theorem dX8_prime_55 : decode cX8_prime 55 = .ok (.iload_n 1, 1) := by decide +kernel
theorem dX8_prime_56 : decode cX8_prime 56 = .ok (.invokevirtual 225, 3) := by decide +kernel
theorem dX8_prime_59 : decode cX8_prime 59 = .ok (.ireturn, 1) := by decide +kernel
theorem dX8_prime_60 : decode cX8_prime 60 = .ok (.aload_n 0, 1) := by decide +kernel
theorem dX8_prime_61 : decode cX8_prime 61 = .ok (.getfield 10, 3) := by decide +kernel
theorem dX8_prime_64 : decode cX8_prime 64 = .ok (.getfield 221, 3) := by decide +kernel
theorem dX8_prime_67 : decode cX8_prime 67 = .ok (.iload_n 1, 1) := by decide +kernel
theorem dX8_prime_68 : decode cX8_prime 68 = .ok (.invokevirtual 230, 3) := by decide +kernel
theorem dX8_prime_71 : decode cX8_prime 71 = .ok (.ireturn, 1) := by decide +kernel
theorem dX8_prime_72 : decode cX8_prime 72 = .ok (.aload_n 0, 1) := by decide +kernel
theorem dX8_prime_73 : decode cX8_prime 73 = .ok (.getfield 10, 3) := by decide +kernel
theorem dX8_prime_76 : decode cX8_prime 76 = .ok (.iload_n 1, 1) := by decide +kernel
theorem dX8_prime_77 : decode cX8_prime 77 = .ok (.invokevirtual 233, 3) := by decide +kernel
theorem dX8_prime_80 : decode cX8_prime 80 = .ok (.ireturn, 1) := by decide +kernel
theorem dX8_prime_81 : decode cX8_prime 81 = .ok (.aload_n 0, 1) := by decide +kernel
theorem dX8_prime_82 : decode cX8_prime 82 = .ok (.getfield 10, 3) := by decide +kernel
theorem dX8_prime_85 : decode cX8_prime 85 = .ok (.iload_n 1, 1) := by decide +kernel
theorem dX8_prime_86 : decode cX8_prime 86 = .ok (.invokevirtual 236, 3) := by decide +kernel
theorem dX8_prime_89 : decode cX8_prime 89 = .ok (.ireturn, 1) := by decide +kernel
theorem dX8_prime_90 : decode cX8_prime 90 = .ok (.aload_n 0, 1) := by decide +kernel
theorem dX8_prime_91 : decode cX8_prime 91 = .ok (.getfield 10, 3) := by decide +kernel
theorem dX8_prime_94 : decode cX8_prime 94 = .ok (.iload_n 1, 1) := by decide +kernel
theorem dX8_prime_95 : decode cX8_prime 95 = .ok (.invokevirtual 239, 3) := by decide +kernel
theorem dX8_prime_98 : decode cX8_prime 98 = .ok (.ireturn, 1) := by decide +kernel
set_option maxRecDepth 20000 in
theorem ggX8_count_X6_pairs : GoodIn wsX8_count wsX6_pairs := goodIn_r _ [9, 10, 11, 12, 13, 8, 14, 15, 16, 17, 18, 19, 20, 21, 22, 23, 24, 25, 26, 27, 122, 123, 124, 125, 126, 127] (by decide +kernel) (by decide +kernel)
set_option maxRecDepth 20000 in
theorem gX8_count_X6_pairs : GoodIn wsX8_count (wsV RX8 242 RX6 yX6_pairs wsX6_pairs) := goodIn_app (goodIn_of _ (by decide +kernel)) ggX8_count_X6_pairs
set_option maxRecDepth 20000 in
theorem ggX8_count_X2_find : GoodIn wsX8_count wsX2_find := goodIn_r _ [32, 33, 34, 35, 36, 37, 38, 39, 12, 13, 8, 14, 15, 16, 17, 18, 19, 10, 20, 21, 22, 23, 24, 25, 26, 27, 40, 41, 42, 31, 43, 44, 45, 46, 47, 48, 49, 50, 51, 52, 53, 54, 122, 123, 124, 125, 126, 127, 140, 141] (by decide +kernel) (by decide +kernel)
set_option maxRecDepth 20000 in
theorem gX8_count_X2_find : GoodIn wsX8_count (wsV RX8 147 RX2 yX2_find wsX2_find) := goodIn_app (goodIn_of _ (by decide +kernel)) ggX8_count_X2_find
set_option maxRecDepth 20000 in
theorem ggX8_count_X2_many : GoodIn wsX8_count wsX2_many := goodIn_r _ [58, 33, 40, 41, 42, 31, 43, 34, 44, 45, 37, 46, 140, 141] (by decide +kernel) (by decide +kernel)
set_option maxRecDepth 20000 in
theorem gX8_count_X2_many : GoodIn wsX8_count (wsV RX8 245 RX2 yX2_many wsX2_many) := goodIn_app (goodIn_of _ (by decide +kernel)) ggX8_count_X2_many
set_option maxRecDepth 20000 in
theorem ggX8_count_X2_greatest : GoodIn wsX8_count wsX2_greatest := goodIn_r _ [62, 33, 63, 64, 53, 65, 66, 67, 68, 31, 69, 40, 41, 42, 43, 34, 44, 45, 37, 46, 140, 141] (by decide +kernel) (by decide +kernel)
set_option maxRecDepth 20000 in
theorem gX8_count_X2_greatest : GoodIn wsX8_count (wsV RX8 248 RX2 yX2_greatest wsX2_greatest) := goodIn_app (goodIn_of _ (by decide +kernel)) ggX8_count_X2_greatest
set_option maxRecDepth 20000 in
theorem ggX8_count_X6_isSettled : GoodIn wsX8_count wsX6_isSettled := goodIn_r _ [73, 10, 16, 17, 18, 8, 19, 20, 25, 26, 23, 27, 122, 123, 124, 125, 126, 127] (by decide +kernel) (by decide +kernel)
set_option maxRecDepth 20000 in
theorem gX8_count_X6_isSettled : GoodIn wsX8_count (wsV RX8 251 RX6 yX6_isSettled wsX6_isSettled) := goodIn_app (goodIn_of _ (by decide +kernel)) ggX8_count_X6_isSettled
set_option maxRecDepth 20000 in
theorem ggX8_count_X0_allChips : GoodIn wsX8_count wsX0_allChips := goodIn_r _ [78, 79, 80, 81, 45, 37, 46, 142, 143, 144, 145] (by decide +kernel) (by decide +kernel)
set_option maxRecDepth 20000 in
theorem gX8_count_X0_allChips : GoodIn wsX8_count (wsV RX8 255 RX0 yX0_allChips wsX0_allChips) := goodIn_app (goodIn_of _ (by decide +kernel)) ggX8_count_X0_allChips
set_option maxRecDepth 20000 in
theorem ggX8_count_X0_kindsOfChips : GoodIn wsX8_count wsX0_kindsOfChips := goodIn_r _ [85, 79, 80, 81, 45, 37, 46, 142, 143, 144, 145] (by decide +kernel) (by decide +kernel)
set_option maxRecDepth 20000 in
theorem gX8_count_X0_kindsOfChips : GoodIn wsX8_count (wsV RX8 258 RX0 yX0_kindsOfChips wsX0_kindsOfChips) := goodIn_app (goodIn_of _ (by decide +kernel)) ggX8_count_X0_kindsOfChips
set_option maxRecDepth 20000 in
theorem ggX8_count_X6_differentPrimes : GoodIn wsX8_count wsX6_differentPrimes := goodIn_r _ [89, 10, 16, 17, 18, 8, 19, 20, 90, 91, 23, 92, 93, 26, 27, 94, 95, 96, 97, 25, 98, 99, 100, 101, 102, 103, 104, 105, 106, 122, 123, 124, 125, 126, 127] (by decide +kernel) (by decide +kernel)
set_option maxRecDepth 20000 in
theorem gX8_count_X6_differentPrimes : GoodIn wsX8_count (wsV RX8 264 RX6 yX6_differentPrimes wsX6_differentPrimes) := goodIn_app (goodIn_of _ (by decide +kernel)) ggX8_count_X6_differentPrimes
set_option maxRecDepth 20000 in
theorem ggX8_count_X6_ones : GoodIn wsX8_count wsX6_ones := goodIn_r _ [110, 10, 16, 17, 18, 8, 19, 20, 122, 123, 124, 125, 126, 127] (by decide +kernel) (by decide +kernel)
set_option maxRecDepth 20000 in
theorem gX8_count_X6_ones : GoodIn wsX8_count (wsV RX8 267 RX6 yX6_ones wsX6_ones) := goodIn_app (goodIn_of _ (by decide +kernel)) ggX8_count_X6_ones
theorem dX8_count_0 : decode cX8_count 0 = .ok (.iload_n 1, 1) := by decide +kernel
theorem dX8_count_1 : decode cX8_count 1 = .ok (.tableswitch 219 0 13 #[71, 79, 87, 106, 125, 141, 152, 163, 171, 179, 187, 195, 203, 211], 71) := by decide +kernel
theorem dX8_count_72 : decode cX8_count 72 = .ok (.aload_n 0, 1) := by decide +kernel
theorem dX8_count_73 : decode cX8_count 73 = .ok (.getfield 10, 3) := by decide +kernel
theorem dX8_count_76 : decode cX8_count 76 = .ok (.getfield 97, 3) := by decide +kernel
theorem dX8_count_79 : decode cX8_count 79 = .ok (.ireturn, 1) := by decide +kernel
theorem dX8_count_80 : decode cX8_count 80 = .ok (.aload_n 0, 1) := by decide +kernel
theorem dX8_count_81 : decode cX8_count 81 = .ok (.getfield 10, 3) := by decide +kernel
theorem dX8_count_84 : decode cX8_count 84 = .ok (.invokevirtual 242, 3) := by decide +kernel
theorem dX8_count_87 : decode cX8_count 87 = .ok (.ireturn, 1) := by decide +kernel
theorem dX8_count_88 : decode cX8_count 88 = .ok (.aload_n 0, 1) := by decide +kernel
theorem dX8_count_89 : decode cX8_count 89 = .ok (.getfield 39, 3) := by decide +kernel
theorem dX8_count_92 : decode cX8_count 92 = .ok (.aload_n 0, 1) := by decide +kernel
theorem dX8_count_93 : decode cX8_count 93 = .ok (.getfield 10, 3) := by decide +kernel
theorem dX8_count_96 : decode cX8_count 96 = .ok (.invokevirtual 147, 3) := by decide +kernel
theorem dX8_count_99 : decode cX8_count 99 = .ok (.aload_n 0, 1) := by decide +kernel
theorem dX8_count_100 : decode cX8_count 100 = .ok (.getfield 39, 3) := by decide +kernel
theorem dX8_count_103 : decode cX8_count 103 = .ok (.invokevirtual 245, 3) := by decide +kernel
theorem dX8_count_106 : decode cX8_count 106 = .ok (.ireturn, 1) := by decide +kernel
theorem dX8_count_107 : decode cX8_count 107 = .ok (.aload_n 0, 1) := by decide +kernel
theorem dX8_count_108 : decode cX8_count 108 = .ok (.getfield 39, 3) := by decide +kernel
theorem dX8_count_111 : decode cX8_count 111 = .ok (.aload_n 0, 1) := by decide +kernel
theorem dX8_count_112 : decode cX8_count 112 = .ok (.getfield 10, 3) := by decide +kernel
theorem dX8_count_115 : decode cX8_count 115 = .ok (.invokevirtual 147, 3) := by decide +kernel
theorem dX8_count_118 : decode cX8_count 118 = .ok (.aload_n 0, 1) := by decide +kernel
theorem dX8_count_119 : decode cX8_count 119 = .ok (.getfield 39, 3) := by decide +kernel
theorem dX8_count_122 : decode cX8_count 122 = .ok (.invokevirtual 248, 3) := by decide +kernel
theorem dX8_count_125 : decode cX8_count 125 = .ok (.ireturn, 1) := by decide +kernel
theorem dX8_count_126 : decode cX8_count 126 = .ok (.aload_n 0, 1) := by decide +kernel
theorem dX8_count_127 : decode cX8_count 127 = .ok (.getfield 10, 3) := by decide +kernel
theorem dX8_count_130 : decode cX8_count 130 = .ok (.invokevirtual 251, 3) := by decide +kernel
theorem dX8_count_133 : decode cX8_count 133 = .ok (.ifCond .eq 7, 3) := by decide +kernel
theorem dX8_count_136 : decode cX8_count 136 = .ok (.iconst 1, 1) := by decide +kernel
theorem dX8_count_137 : decode cX8_count 137 = .ok (.goto 4, 3) := by decide +kernel
theorem dX8_count_140 : decode cX8_count 140 = .ok (.iconst 0, 1) := by decide +kernel
theorem dX8_count_141 : decode cX8_count 141 = .ok (.ireturn, 1) := by decide +kernel
theorem dX8_count_142 : decode cX8_count 142 = .ok (.aload_n 0, 1) := by decide +kernel
theorem dX8_count_143 : decode cX8_count 143 = .ok (.getfield 10, 3) := by decide +kernel
theorem dX8_count_146 : decode cX8_count 146 = .ok (.getfield 221, 3) := by decide +kernel
theorem dX8_count_149 : decode cX8_count 149 = .ok (.invokevirtual 255, 3) := by decide +kernel
theorem dX8_count_152 : decode cX8_count 152 = .ok (.ireturn, 1) := by decide +kernel
theorem dX8_count_153 : decode cX8_count 153 = .ok (.aload_n 0, 1) := by decide +kernel
theorem dX8_count_154 : decode cX8_count 154 = .ok (.getfield 10, 3) := by decide +kernel
theorem dX8_count_157 : decode cX8_count 157 = .ok (.getfield 221, 3) := by decide +kernel
theorem dX8_count_160 : decode cX8_count 160 = .ok (.invokevirtual 258, 3) := by decide +kernel
theorem dX8_count_163 : decode cX8_count 163 = .ok (.ireturn, 1) := by decide +kernel
theorem dX8_count_164 : decode cX8_count 164 = .ok (.aload_n 0, 1) := by decide +kernel
theorem dX8_count_165 : decode cX8_count 165 = .ok (.getfield 10, 3) := by decide +kernel
theorem dX8_count_168 : decode cX8_count 168 = .ok (.getfield 261, 3) := by decide +kernel
theorem dX8_count_171 : decode cX8_count 171 = .ok (.ireturn, 1) := by decide +kernel
theorem dX8_count_172 : decode cX8_count 172 = .ok (.aload_n 0, 1) := by decide +kernel
theorem dX8_count_173 : decode cX8_count 173 = .ok (.getfield 10, 3) := by decide +kernel
theorem dX8_count_176 : decode cX8_count 176 = .ok (.invokevirtual 264, 3) := by decide +kernel
theorem dX8_count_179 : decode cX8_count 179 = .ok (.ireturn, 1) := by decide +kernel
theorem dX8_count_180 : decode cX8_count 180 = .ok (.aload_n 0, 1) := by decide +kernel
theorem dX8_count_181 : decode cX8_count 181 = .ok (.getfield 10, 3) := by decide +kernel
theorem dX8_count_184 : decode cX8_count 184 = .ok (.invokevirtual 267, 3) := by decide +kernel
theorem dX8_count_187 : decode cX8_count 187 = .ok (.ireturn, 1) := by decide +kernel
theorem dX8_count_188 : decode cX8_count 188 = .ok (.aload_n 0, 1) := by decide +kernel
theorem dX8_count_189 : decode cX8_count 189 = .ok (.getfield 10, 3) := by decide +kernel
theorem dX8_count_192 : decode cX8_count 192 = .ok (.getfield 270, 3) := by decide +kernel
theorem dX8_count_195 : decode cX8_count 195 = .ok (.ireturn, 1) := by decide +kernel
theorem dX8_count_196 : decode cX8_count 196 = .ok (.aload_n 0, 1) := by decide +kernel
theorem dX8_count_197 : decode cX8_count 197 = .ok (.getfield 10, 3) := by decide +kernel
theorem dX8_count_200 : decode cX8_count 200 = .ok (.getfield 273, 3) := by decide +kernel
theorem dX8_count_203 : decode cX8_count 203 = .ok (.ireturn, 1) := by decide +kernel
theorem dX8_count_204 : decode cX8_count 204 = .ok (.aload_n 0, 1) := by decide +kernel
theorem dX8_count_205 : decode cX8_count 205 = .ok (.getfield 32, 3) := by decide +kernel
theorem dX8_count_208 : decode cX8_count 208 = .ok (.getfield 276, 3) := by decide +kernel
theorem dX8_count_211 : decode cX8_count 211 = .ok (.ireturn, 1) := by decide +kernel
theorem dX8_count_212 : decode cX8_count 212 = .ok (.aload_n 0, 1) := by decide +kernel
theorem dX8_count_213 : decode cX8_count 213 = .ok (.getfield 25, 3) := by decide +kernel
theorem dX8_count_216 : decode cX8_count 216 = .ok (.getfield 277, 3) := by decide +kernel
theorem dX8_count_219 : decode cX8_count 219 = .ok (.ireturn, 1) := by decide +kernel
theorem dX8_count_220 : decode cX8_count 220 = .ok (.iconst (-1), 1) := by decide +kernel
theorem dX8_count_221 : decode cX8_count 221 = .ok (.ireturn, 1) := by decide +kernel
set_option maxRecDepth 20000 in
theorem ggX8_mean_X6_kinOf : GoodIn wsX8_mean wsX6_kinOf := goodIn_r _ [6, 7, 8, 9, 10, 5, 11, 12, 13, 14, 15, 16, 17, 18, 19, 20, 21, 22, 23, 24, 36, 37, 38, 39, 40, 41] (by decide +kernel) (by decide +kernel)
set_option maxRecDepth 20000 in
theorem gX8_mean_X6_kinOf : GoodIn wsX8_mean (wsV RX8 144 RX6 yX6_kinOf wsX6_kinOf) := goodIn_app (goodIn_of _ (by decide +kernel)) ggX8_mean_X6_kinOf
theorem dX8_mean_0 : decode cX8_mean 0 = .ok (.aload_n 0, 1) := by decide +kernel
theorem dX8_mean_1 : decode cX8_mean 1 = .ok (.getfield 10, 3) := by decide +kernel
theorem dX8_mean_4 : decode cX8_mean 4 = .ok (.getfield 97, 3) := by decide +kernel
theorem dX8_mean_7 : decode cX8_mean 7 = .ok (.ifCond .ne 5, 3) := by decide +kernel
theorem dX8_mean_10 : decode cX8_mean 10 = .ok (.dconst 0, 1) := by decide +kernel
theorem dX8_mean_11 : decode cX8_mean 11 = .ok (.dreturn, 1) := by decide +kernel
theorem dX8_mean_12 : decode cX8_mean 12 = .ok (.iconst 0, 1) := by decide +kernel
theorem dX8_mean_13 : decode cX8_mean 13 = .ok (.istore_n 1, 1) := by decide +kernel
theorem dX8_mean_14 : decode cX8_mean 14 = .ok (.iconst 0, 1) := by decide +kernel
theorem dX8_mean_15 : decode cX8_mean 15 = .ok (.istore_n 2, 1) := by decide +kernel
theorem dX8_mean_16 : decode cX8_mean 16 = .ok (.iload_n 2, 1) := by decide +kernel
theorem dX8_mean_17 : decode cX8_mean 17 = .ok (.aload_n 0, 1) := by decide +kernel
theorem dX8_mean_18 : decode cX8_mean 18 = .ok (.getfield 10, 3) := by decide +kernel
theorem dX8_mean_21 : decode cX8_mean 21 = .ok (.getfield 97, 3) := by decide +kernel
theorem dX8_mean_24 : decode cX8_mean 24 = .ok (.if_icmp .ge 20, 3) := by decide +kernel
theorem dX8_mean_27 : decode cX8_mean 27 = .ok (.iload_n 1, 1) := by decide +kernel
theorem dX8_mean_28 : decode cX8_mean 28 = .ok (.aload_n 0, 1) := by decide +kernel
theorem dX8_mean_29 : decode cX8_mean 29 = .ok (.getfield 10, 3) := by decide +kernel
theorem dX8_mean_32 : decode cX8_mean 32 = .ok (.iload_n 2, 1) := by decide +kernel
theorem dX8_mean_33 : decode cX8_mean 33 = .ok (.invokevirtual 144, 3) := by decide +kernel
theorem dX8_mean_36 : decode cX8_mean 36 = .ok (.iadd, 1) := by decide +kernel
theorem dX8_mean_37 : decode cX8_mean 37 = .ok (.istore_n 1, 1) := by decide +kernel
theorem dX8_mean_38 : decode cX8_mean 38 = .ok (.iinc 2 1, 3) := by decide +kernel
theorem dX8_mean_41 : decode cX8_mean 41 = .ok (.goto (-25), 3) := by decide +kernel
theorem dX8_mean_44 : decode cX8_mean 44 = .ok (.iload_n 1, 1) := by decide +kernel
theorem dX8_mean_45 : decode cX8_mean 45 = .ok (.i2d, 1) := by decide +kernel
theorem dX8_mean_46 : decode cX8_mean 46 = .ok (.aload_n 0, 1) := by decide +kernel
theorem dX8_mean_47 : decode cX8_mean 47 = .ok (.getfield 10, 3) := by decide +kernel
theorem dX8_mean_50 : decode cX8_mean 50 = .ok (.getfield 97, 3) := by decide +kernel
theorem dX8_mean_53 : decode cX8_mean 53 = .ok (.i2d, 1) := by decide +kernel
theorem dX8_mean_54 : decode cX8_mean 54 = .ok (.ddiv, 1) := by decide +kernel
theorem dX8_mean_55 : decode cX8_mean 55 = .ok (.dreturn, 1) := by decide +kernel
set_option maxRecDepth 20000 in
theorem ggX8_ifDone_X6_has : GoodIn wsX8_ifDone wsX6_has := goodIn_r _ [9, 10, 208, 209, 210, 211, 212, 213] (by decide +kernel) (by decide +kernel)
set_option maxRecDepth 20000 in
theorem gX8_ifDone_X6_has : GoodIn wsX8_ifDone (wsV RX8 138 RX6 yX6_has wsX6_has) := goodIn_app (goodIn_of _ (by decide +kernel)) ggX8_ifDone_X6_has
set_option maxRecDepth 20000 in
theorem ggX8_ifDone_X6_numberOf : GoodIn wsX8_ifDone wsX6_numberOf := goodIn_r _ [14, 10, 15, 208, 209, 210, 211, 212, 213] (by decide +kernel) (by decide +kernel)
set_option maxRecDepth 20000 in
theorem gX8_ifDone_X6_numberOf : GoodIn wsX8_ifDone (wsV RX8 141 RX6 yX6_numberOf wsX6_numberOf) := goodIn_app (goodIn_of _ (by decide +kernel)) ggX8_ifDone_X6_numberOf
set_option maxRecDepth 20000 in
theorem ggX8_ifDone_X6_copyFrom : GoodIn wsX8_ifDone wsX6_copyFrom := goodIn_r _ [19, 10, 20, 21, 22, 15, 23, 24, 25, 26, 27, 28, 29, 30, 31, 32, 33, 34, 35, 36, 37, 38, 39, 40, 41, 42, 43, 44, 45, 46, 47, 48, 49, 50, 51, 52, 53, 54, 55, 56, 57, 58, 208, 209, 210, 211, 212, 213, 214, 215, 216, 217] (by decide +kernel) (by decide +kernel)
set_option maxRecDepth 20000 in
theorem gX8_ifDone_X6_copyFrom : GoodIn wsX8_ifDone (wsV RX8 74 RX6 yX6_copyFrom wsX6_copyFrom) := goodIn_app (goodIn_of _ (by decide +kernel)) ggX8_ifDone_X6_copyFrom
set_option maxRecDepth 20000 in
theorem ggX8_ifDone_X7_greatestPrime : GoodIn wsX8_ifDone wsX7_greatestPrime := goodIn_r _ [62, 63, 64, 61, 65, 66, 67, 68, 69, 70, 71, 72, 73, 74, 75, 76, 77] (by decide +kernel) (by decide +kernel)
set_option maxRecDepth 20000 in
theorem gX8_ifDone_X7_greatestPrime : GoodIn wsX8_ifDone (va_wsS RX8 164 yX7_greatestPrime wsX7_greatestPrime) := goodIn_app (goodIn_of _ (by decide +kernel)) ggX8_ifDone_X7_greatestPrime
set_option maxRecDepth 20000 in
theorem ggX8_ifDone_X6_deed : GoodIn wsX8_ifDone wsX6_deed := goodIn_r _ [81, 82, 83, 84, 8, 85, 15, 86, 6, 7, 9, 10, 87, 12, 13, 14, 88, 89, 61, 90, 91, 92, 93, 75, 76, 77, 94, 95, 32, 26, 33, 96, 97, 98, 99, 100, 67, 68, 101, 102, 103, 104, 23, 22, 105, 106, 107, 108, 37, 109, 39, 41, 42, 43, 44, 45, 46, 40, 47, 48, 49, 50, 51, 52, 53, 54, 55, 56, 57, 110, 64, 65, 66, 111, 112, 113, 114, 115, 29, 30, 116, 117, 118, 119, 120, 121, 122, 123, 124, 125, 126, 127, 128, 129, 130, 131, 132, 133, 63, 208, 209, 210, 211, 212, 213, 214, 215, 216, 217] (by decide +kernel) (by decide +kernel)
set_option maxRecDepth 20000 in
theorem gX8_ifDone_X6_deed : GoodIn wsX8_ifDone (wsV RX8 125 RX6 yX6_deed wsX6_deed) := goodIn_app (goodIn_of _ (by decide +kernel)) ggX8_ifDone_X6_deed
set_option maxRecDepth 20000 in
theorem ggX8_ifDone_X6_pairs : GoodIn wsX8_ifDone wsX6_pairs := goodIn_r _ [137, 10, 138, 139, 140, 8, 141, 20, 87, 12, 13, 14, 15, 94, 92, 61, 93, 100, 67, 68, 208, 209, 210, 211, 212, 213] (by decide +kernel) (by decide +kernel)
set_option maxRecDepth 20000 in
theorem gX8_ifDone_X6_pairs : GoodIn wsX8_ifDone (wsV RX8 242 RX6 yX6_pairs wsX6_pairs) := goodIn_app (goodIn_of _ (by decide +kernel)) ggX8_ifDone_X6_pairs
set_option maxRecDepth 20000 in
theorem ggX8_ifDone_X2_find : GoodIn wsX8_ifDone wsX2_find := goodIn_r _ [146, 147, 148, 149, 32, 26, 33, 150, 139, 140, 8, 141, 20, 87, 12, 13, 14, 10, 15, 94, 92, 61, 93, 100, 67, 68, 151, 152, 153, 145, 154, 155, 29, 30, 156, 157, 158, 159, 160, 52, 49, 53, 208, 209, 210, 211, 212, 213, 218, 219] (by decide +kernel) (by decide +kernel)
set_option maxRecDepth 20000 in
theorem gX8_ifDone_X2_find : GoodIn wsX8_ifDone (wsV RX8 147 RX2 yX2_find wsX2_find) := goodIn_app (goodIn_of _ (by decide +kernel)) ggX8_ifDone_X2_find
set_option maxRecDepth 20000 in
theorem ggX8_ifDone_X2_many : GoodIn wsX8_ifDone wsX2_many := goodIn_r _ [164, 147, 151, 152, 153, 145, 154, 148, 155, 29, 26, 30, 218, 219] (by decide +kernel) (by decide +kernel)
set_option maxRecDepth 20000 in
theorem gX8_ifDone_X2_many : GoodIn wsX8_ifDone (wsV RX8 245 RX2 yX2_many wsX2_many) := goodIn_app (goodIn_of _ (by decide +kernel)) ggX8_ifDone_X2_many
set_option maxRecDepth 20000 in
theorem ggX8_ifDone_X1_seekLongest : GoodIn wsX8_ifDone wsX1_seekLongest := goodIn_r _ [169, 170, 171, 172, 173, 174, 175, 176, 177, 168, 178, 179, 180, 181, 8, 182, 183, 184, 185, 186, 21, 138, 139, 140, 141, 20, 87, 12, 13, 14, 10, 15, 94, 92, 61, 93, 100, 67, 68, 187, 29, 26, 30, 188, 32, 33, 200, 201, 202, 203, 204, 205, 206, 207, 208, 209, 210, 211, 212, 213] (by decide +kernel) (by decide +kernel)
set_option maxRecDepth 20000 in
theorem gX8_ifDone_X1_seekLongest : GoodIn wsX8_ifDone (wsV RX8 280 RX1 yX1_seekLongest wsX1_seekLongest) := goodIn_app (goodIn_of _ (by decide +kernel)) ggX8_ifDone_X1_seekLongest
theorem dX8_ifDone_0 : decode cX8_ifDone 0 = .ok (.iload_n 1, 1) := by decide +kernel
theorem dX8_ifDone_1 : decode cX8_ifDone 1 = .ok (.ifCond .lt 28, 3) := by decide +kernel
theorem dX8_ifDone_4 : decode cX8_ifDone 4 = .ok (.iload_n 1, 1) := by decide +kernel
theorem dX8_ifDone_5 : decode cX8_ifDone 5 = .ok (.iconst 2, 1) := by decide +kernel
theorem dX8_ifDone_6 : decode cX8_ifDone 6 = .ok (.if_icmp .gt 23, 3) := by decide +kernel
theorem dX8_ifDone_9 : decode cX8_ifDone 9 = .ok (.aload_n 0, 1) := by decide +kernel
theorem dX8_ifDone_10 : decode cX8_ifDone 10 = .ok (.getfield 10, 3) := by decide +kernel
theorem dX8_ifDone_13 : decode cX8_ifDone 13 = .ok (.iload_n 2, 1) := by decide +kernel
theorem dX8_ifDone_14 : decode cX8_ifDone 14 = .ok (.invokevirtual 138, 3) := by decide +kernel
theorem dX8_ifDone_17 : decode cX8_ifDone 17 = .ok (.ifCond .eq 12, 3) := by decide +kernel
theorem dX8_ifDone_20 : decode cX8_ifDone 20 = .ok (.iload_n 3, 1) := by decide +kernel
theorem dX8_ifDone_21 : decode cX8_ifDone 21 = .ok (.ifCond .lt 8, 3) := by decide +kernel
theorem dX8_ifDone_24 : decode cX8_ifDone 24 = .ok (.iload_n 3, 1) := by decide +kernel
theorem dX8_ifDone_25 : decode cX8_ifDone 25 = .ok (.iconst 3, 1) := by decide +kernel
theorem dX8_ifDone_26 : decode cX8_ifDone 26 = .ok (.if_icmp .le 5, 3) := by decide +kernel
theorem dX8_ifDone_29 : decode cX8_ifDone 29 = .ok (.iconst (-1), 1) := by decide +kernel
theorem dX8_ifDone_30 : decode cX8_ifDone 30 = .ok (.ireturn, 1) := by decide +kernel
theorem dX8_ifDone_31 : decode cX8_ifDone 31 = .ok (.aload_n 0, 1) := by decide +kernel
theorem dX8_ifDone_32 : decode cX8_ifDone 32 = .ok (.getfield 10, 3) := by decide +kernel
theorem dX8_ifDone_35 : decode cX8_ifDone 35 = .ok (.iload_n 2, 1) := by decide +kernel
theorem dX8_ifDone_36 : decode cX8_ifDone 36 = .ok (.invokevirtual 141, 3) := by decide +kernel
theorem dX8_ifDone_39 : decode cX8_ifDone 39 = .ok (.istore 4, 2) := by decide +kernel
theorem dX8_ifDone_41 : decode cX8_ifDone 41 = .ok (.iload_n 1, 1) := by decide +kernel
theorem dX8_ifDone_42 : decode cX8_ifDone 42 = .ok (.iconst 2, 1) := by decide +kernel
theorem dX8_ifDone_43 : decode cX8_ifDone 43 = .ok (.if_icmp .ne 12, 3) := by decide +kernel
theorem dX8_ifDone_46 : decode cX8_ifDone 46 = .ok (.iload 4, 2) := by decide +kernel
theorem dX8_ifDone_48 : decode cX8_ifDone 48 = .ok (.iconst 1, 1) := by decide +kernel
theorem dX8_ifDone_49 : decode cX8_ifDone 49 = .ok (.if_icmp .ne 6, 3) := by decide +kernel
theorem dX8_ifDone_52 : decode cX8_ifDone 52 = .ok (.bipush (-2), 2) := by decide +kernel
theorem dX8_ifDone_54 : decode cX8_ifDone 54 = .ok (.ireturn, 1) := by decide +kernel
theorem dX8_ifDone_55 : decode cX8_ifDone 55 = .ok (.aload_n 0, 1) := by decide +kernel
theorem dX8_ifDone_56 : decode cX8_ifDone 56 = .ok (.getfield 16, 3) := by decide +kernel
theorem dX8_ifDone_59 : decode cX8_ifDone 59 = .ok (.aload_n 0, 1) := by decide +kernel
theorem dX8_ifDone_60 : decode cX8_ifDone 60 = .ok (.getfield 10, 3) := by decide +kernel
theorem dX8_ifDone_63 : decode cX8_ifDone 63 = .ok (.invokevirtual 74, 3) := by decide +kernel
theorem dX8_ifDone_66 : decode cX8_ifDone 66 = .ok (.aload_n 0, 1) := by decide +kernel
theorem dX8_ifDone_67 : decode cX8_ifDone 67 = .ok (.getfield 16, 3) := by decide +kernel
theorem dX8_ifDone_70 : decode cX8_ifDone 70 = .ok (.iload_n 1, 1) := by decide +kernel
theorem dX8_ifDone_71 : decode cX8_ifDone 71 = .ok (.iload_n 2, 1) := by decide +kernel
theorem dX8_ifDone_72 : decode cX8_ifDone 72 = .ok (.iload 4, 2) := by decide +kernel
theorem dX8_ifDone_74 : decode cX8_ifDone 74 = .ok (.invokestatic 164, 3) := by decide +kernel
theorem dX8_ifDone_77 : decode cX8_ifDone 77 = .ok (.invokevirtual 125, 3) := by decide +kernel
theorem dX8_ifDone_80 : decode cX8_ifDone 80 = .ok (.istore 5, 2) := by decide +kernel
theorem dX8_ifDone_82 : decode cX8_ifDone 82 = .ok (.iload 5, 2) := by decide +kernel
theorem dX8_ifDone_84 : decode cX8_ifDone 84 = .ok (.ifCond .ge 6, 3) := by decide +kernel
theorem dX8_ifDone_87 : decode cX8_ifDone 87 = .ok (.iload 5, 2) := by decide +kernel
theorem dX8_ifDone_89 : decode cX8_ifDone 89 = .ok (.ireturn, 1) := by decide +kernel
theorem dX8_ifDone_90 : decode cX8_ifDone 90 = .ok (.iload_n 3, 1) := by decide +kernel
theorem dX8_ifDone_91 : decode cX8_ifDone 91 = .ok (.tableswitch 71 0 2 #[25, 33, 52], 25) := by decide +kernel
theorem dX8_ifDone_116 : decode cX8_ifDone 116 = .ok (.aload_n 0, 1) := by decide +kernel
theorem dX8_ifDone_117 : decode cX8_ifDone 117 = .ok (.getfield 16, 3) := by decide +kernel
theorem dX8_ifDone_120 : decode cX8_ifDone 120 = .ok (.invokevirtual 242, 3) := by decide +kernel
theorem dX8_ifDone_123 : decode cX8_ifDone 123 = .ok (.ireturn, 1) := by decide +kernel
theorem dX8_ifDone_124 : decode cX8_ifDone 124 = .ok (.aload_n 0, 1) := by decide +kernel
theorem dX8_ifDone_125 : decode cX8_ifDone 125 = .ok (.getfield 39, 3) := by decide +kernel
theorem dX8_ifDone_128 : decode cX8_ifDone 128 = .ok (.aload_n 0, 1) := by decide +kernel
theorem dX8_ifDone_129 : decode cX8_ifDone 129 = .ok (.getfield 16, 3) := by decide +kernel
theorem dX8_ifDone_132 : decode cX8_ifDone 132 = .ok (.invokevirtual 147, 3) := by decide +kernel
theorem dX8_ifDone_135 : decode cX8_ifDone 135 = .ok (.aload_n 0, 1) := by decide +kernel
theorem dX8_ifDone_136 : decode cX8_ifDone 136 = .ok (.getfield 39, 3) := by decide +kernel
theorem dX8_ifDone_139 : decode cX8_ifDone 139 = .ok (.invokevirtual 245, 3) := by decide +kernel
theorem dX8_ifDone_142 : decode cX8_ifDone 142 = .ok (.ireturn, 1) := by decide +kernel
theorem dX8_ifDone_143 : decode cX8_ifDone 143 = .ok (.aload_n 0, 1) := by decide +kernel
theorem dX8_ifDone_144 : decode cX8_ifDone 144 = .ok (.getfield 46, 3) := by decide +kernel
theorem dX8_ifDone_147 : decode cX8_ifDone 147 = .ok (.aload_n 0, 1) := by decide +kernel
theorem dX8_ifDone_148 : decode cX8_ifDone 148 = .ok (.getfield 16, 3) := by decide +kernel
theorem dX8_ifDone_151 : decode cX8_ifDone 151 = .ok (.invokevirtual 280, 3) := by decide +kernel
theorem dX8_ifDone_154 : decode cX8_ifDone 154 = .ok (.aload_n 0, 1) := by decide +kernel
theorem dX8_ifDone_155 : decode cX8_ifDone 155 = .ok (.getfield 46, 3) := by decide +kernel
theorem dX8_ifDone_158 : decode cX8_ifDone 158 = .ok (.getfield 283, 3) := by decide +kernel
theorem dX8_ifDone_161 : decode cX8_ifDone 161 = .ok (.ireturn, 1) := by decide +kernel
theorem dX8_ifDone_162 : decode cX8_ifDone 162 = .ok (.aload_n 0, 1) := by decide +kernel
theorem dX8_ifDone_163 : decode cX8_ifDone 163 = .ok (.getfield 16, 3) := by decide +kernel
theorem dX8_ifDone_166 : decode cX8_ifDone 166 = .ok (.getfield 97, 3) := by decide +kernel
theorem dX8_ifDone_169 : decode cX8_ifDone 169 = .ok (.ireturn, 1) := by decide +kernel
set_option maxRecDepth 20000 in
theorem ggX8_longest_X1_seekLongest : GoodIn wsX8_longest wsX1_seekLongest := goodIn_r _ [7, 8, 9, 10, 11, 12, 13, 14, 15, 6, 16, 17, 18, 19, 20, 21, 22, 23, 24, 25, 26, 27, 28, 29, 30, 31, 32, 33, 34, 35, 36, 37, 38, 39, 40, 41, 42, 43, 44, 45, 46, 47, 48, 49, 50, 51, 69, 70, 71, 72, 73, 74, 75, 76, 63, 64, 65, 66, 67, 68] (by decide +kernel) (by decide +kernel)
set_option maxRecDepth 20000 in
theorem gX8_longest_X1_seekLongest : GoodIn wsX8_longest (wsV RX8 280 RX1 yX1_seekLongest wsX1_seekLongest) := goodIn_app (goodIn_of _ (by decide +kernel)) ggX8_longest_X1_seekLongest
theorem dX8_longest_0 : decode cX8_longest 0 = .ok (.iload_n 1, 1) := by decide +kernel
theorem dX8_longest_1 : decode cX8_longest 1 = .ok (.ifCond .lt 8, 3) := by decide +kernel
theorem dX8_longest_4 : decode cX8_longest 4 = .ok (.iload_n 1, 1) := by decide +kernel
theorem dX8_longest_5 : decode cX8_longest 5 = .ok (.iconst 2, 1) := by decide +kernel
theorem dX8_longest_6 : decode cX8_longest 6 = .ok (.if_icmp .le 5, 3) := by decide +kernel
theorem dX8_longest_9 : decode cX8_longest 9 = .ok (.iconst (-1), 1) := by decide +kernel
theorem dX8_longest_10 : decode cX8_longest 10 = .ok (.ireturn, 1) := by decide +kernel
theorem dX8_longest_11 : decode cX8_longest 11 = .ok (.aload_n 0, 1) := by decide +kernel
theorem dX8_longest_12 : decode cX8_longest 12 = .ok (.getfield 10, 3) := by decide +kernel
theorem dX8_longest_15 : decode cX8_longest 15 = .ok (.getfield 97, 3) := by decide +kernel
theorem dX8_longest_18 : decode cX8_longest 18 = .ok (.ifCond .ne 6, 3) := by decide +kernel
theorem dX8_longest_21 : decode cX8_longest 21 = .ok (.bipush (-4), 2) := by decide +kernel
theorem dX8_longest_23 : decode cX8_longest 23 = .ok (.ireturn, 1) := by decide +kernel
theorem dX8_longest_24 : decode cX8_longest 24 = .ok (.aload_n 0, 1) := by decide +kernel
theorem dX8_longest_25 : decode cX8_longest 25 = .ok (.getfield 46, 3) := by decide +kernel
theorem dX8_longest_28 : decode cX8_longest 28 = .ok (.aload_n 0, 1) := by decide +kernel
theorem dX8_longest_29 : decode cX8_longest 29 = .ok (.getfield 10, 3) := by decide +kernel
theorem dX8_longest_32 : decode cX8_longest 32 = .ok (.invokevirtual 280, 3) := by decide +kernel
theorem dX8_longest_35 : decode cX8_longest 35 = .ok (.iload_n 1, 1) := by decide +kernel
theorem dX8_longest_36 : decode cX8_longest 36 = .ok (.lookupswitch 44 #[(0, 28), (1, 36)], 28) := by decide +kernel
theorem dX8_longest_64 : decode cX8_longest 64 = .ok (.aload_n 0, 1) := by decide +kernel
theorem dX8_longest_65 : decode cX8_longest 65 = .ok (.getfield 46, 3) := by decide +kernel
theorem dX8_longest_68 : decode cX8_longest 68 = .ok (.getfield 283, 3) := by decide +kernel
theorem dX8_longest_71 : decode cX8_longest 71 = .ok (.ireturn, 1) := by decide +kernel
theorem dX8_longest_72 : decode cX8_longest 72 = .ok (.aload_n 0, 1) := by decide +kernel
theorem dX8_longest_73 : decode cX8_longest 73 = .ok (.getfield 46, 3) := by decide +kernel
theorem dX8_longest_76 : decode cX8_longest 76 = .ok (.getfield 286, 3) := by decide +kernel
theorem dX8_longest_79 : decode cX8_longest 79 = .ok (.ireturn, 1) := by decide +kernel
theorem dX8_longest_80 : decode cX8_longest 80 = .ok (.aload_n 0, 1) := by decide +kernel
theorem dX8_longest_81 : decode cX8_longest 81 = .ok (.getfield 46, 3) := by decide +kernel
theorem dX8_longest_84 : decode cX8_longest 84 = .ok (.getfield 289, 3) := by decide +kernel
theorem dX8_longest_87 : decode cX8_longest 87 = .ok (.ireturn, 1) := by decide +kernel
set_option maxRecDepth 20000 in
theorem ggX8_bestStrike_X6_numberOf : GoodIn wsX8_bestStrike wsX6_numberOf := goodIn_r _ [6, 7, 8, 137, 138, 139, 140, 141, 142] (by decide +kernel) (by decide +kernel)
set_option maxRecDepth 20000 in
theorem gX8_bestStrike_X6_numberOf : GoodIn wsX8_bestStrike (wsV RX8 141 RX6 yX6_numberOf wsX6_numberOf) := goodIn_app (goodIn_of _ (by decide +kernel)) ggX8_bestStrike_X6_numberOf
set_option maxRecDepth 20000 in
theorem ggX8_bestStrike_X7_leastPrime : GoodIn wsX8_bestStrike wsX7_leastPrime := goodIn_r _ [12, 13, 14, 11, 15] (by decide +kernel) (by decide +kernel)
set_option maxRecDepth 20000 in
theorem gX8_bestStrike_X7_leastPrime : GoodIn wsX8_bestStrike (va_wsS RX8 292 yX7_leastPrime wsX7_leastPrime) := goodIn_app (goodIn_of _ (by decide +kernel)) ggX8_bestStrike_X7_leastPrime
set_option maxRecDepth 20000 in
theorem ggX8_bestStrike_X8_pairsIfStruck : GoodIn wsX8_bestStrike wsX8_pairsIfStruck := goodIn_r _ [20, 21, 1, 22, 23, 24, 5, 25, 7, 26, 27, 28, 8, 29, 30, 31, 32, 33, 34, 35, 36, 37, 38, 39, 40, 41, 42, 43, 44, 45, 46, 47, 48, 49, 50, 51, 52, 53, 54, 55, 56, 57, 58, 59, 60, 61, 62, 63, 64, 65, 66, 67, 68, 69, 70, 71, 72, 73, 74, 11, 75, 76, 10, 12, 13, 14, 15, 77, 3, 4, 6, 78, 79, 80, 81, 82, 83, 84, 85, 86, 87, 88, 89, 90, 91, 92, 93, 94, 95, 96, 97, 98, 99, 100, 101, 102, 103, 104, 105, 106, 107, 108, 109, 110, 111, 112, 113, 114, 115, 116, 117, 118, 126, 127, 128, 129, 130, 131, 132, 133, 134, 135, 136, 137, 138, 139, 140, 141, 142, 143, 144, 145, 146] (by decide +kernel) (by decide +kernel)
set_option maxRecDepth 20000 in
theorem gX8_bestStrike_X8_pairsIfStruck : GoodIn wsX8_bestStrike (wsV RX8 295 RX8 yX8_pairsIfStruck wsX8_pairsIfStruck) := goodIn_app (goodIn_of _ (by decide +kernel)) ggX8_bestStrike_X8_pairsIfStruck
set_option maxRecDepth 20000 in
theorem ggX8_bestStrike_X7_withoutPrime : GoodIn wsX8_bestStrike wsX7_withoutPrime := goodIn_r _ [121, 122, 123, 11, 124, 13, 14, 15, 125, 84, 85] (by decide +kernel) (by decide +kernel)
set_option maxRecDepth 20000 in
theorem gX8_bestStrike_X7_withoutPrime : GoodIn wsX8_bestStrike (va_wsS RX8 298 yX7_withoutPrime wsX7_withoutPrime) := goodIn_app (goodIn_of _ (by decide +kernel)) ggX8_bestStrike_X7_withoutPrime
theorem dX8_bestStrike_0 : decode cX8_bestStrike 0 = .ok (.bipush (-4), 2) := by decide +kernel
theorem dX8_bestStrike_2 : decode cX8_bestStrike 2 = .ok (.istore_n 1, 1) := by decide +kernel
theorem dX8_bestStrike_3 : decode cX8_bestStrike 3 = .ok (.iconst (-1), 1) := by decide +kernel
theorem dX8_bestStrike_4 : decode cX8_bestStrike 4 = .ok (.istore_n 2, 1) := by decide +kernel
theorem dX8_bestStrike_5 : decode cX8_bestStrike 5 = .ok (.iconst 0, 1) := by decide +kernel
theorem dX8_bestStrike_6 : decode cX8_bestStrike 6 = .ok (.istore_n 3, 1) := by decide +kernel
theorem dX8_bestStrike_7 : decode cX8_bestStrike 7 = .ok (.iload_n 3, 1) := by decide +kernel
theorem dX8_bestStrike_8 : decode cX8_bestStrike 8 = .ok (.aload_n 0, 1) := by decide +kernel
theorem dX8_bestStrike_9 : decode cX8_bestStrike 9 = .ok (.getfield 10, 3) := by decide +kernel
theorem dX8_bestStrike_12 : decode cX8_bestStrike 12 = .ok (.getfield 97, 3) := by decide +kernel
theorem dX8_bestStrike_15 : decode cX8_bestStrike 15 = .ok (.if_icmp .ge 84, 3) := by decide +kernel
theorem dX8_bestStrike_18 : decode cX8_bestStrike 18 = .ok (.aload_n 0, 1) := by decide +kernel
theorem dX8_bestStrike_19 : decode cX8_bestStrike 19 = .ok (.getfield 10, 3) := by decide +kernel
theorem dX8_bestStrike_22 : decode cX8_bestStrike 22 = .ok (.iload_n 3, 1) := by decide +kernel
theorem dX8_bestStrike_23 : decode cX8_bestStrike 23 = .ok (.invokevirtual 141, 3) := by decide +kernel
theorem dX8_bestStrike_26 : decode cX8_bestStrike 26 = .ok (.istore 4, 2) := by decide +kernel
theorem dX8_bestStrike_28 : decode cX8_bestStrike 28 = .ok (.iconst 0, 1) := by decide +kernel
theorem dX8_bestStrike_29 : decode cX8_bestStrike 29 = .ok (.istore 5, 2) := by decide +kernel
theorem dX8_bestStrike_31 : decode cX8_bestStrike 31 = .ok (.iload 5, 2) := by decide +kernel
theorem dX8_bestStrike_33 : decode cX8_bestStrike 33 = .ok (.bipush 13, 2) := by decide +kernel
theorem dX8_bestStrike_35 : decode cX8_bestStrike 35 = .ok (.if_icmp .ge 58, 3) := by decide +kernel
theorem dX8_bestStrike_38 : decode cX8_bestStrike 38 = .ok (.iload 4, 2) := by decide +kernel
theorem dX8_bestStrike_40 : decode cX8_bestStrike 40 = .ok (.iconst 1, 1) := by decide +kernel
theorem dX8_bestStrike_41 : decode cX8_bestStrike 41 = .ok (.if_icmp .le 52, 3) := by decide +kernel
theorem dX8_bestStrike_44 : decode cX8_bestStrike 44 = .ok (.iload 4, 2) := by decide +kernel
theorem dX8_bestStrike_46 : decode cX8_bestStrike 46 = .ok (.invokestatic 292, 3) := by decide +kernel
theorem dX8_bestStrike_49 : decode cX8_bestStrike 49 = .ok (.istore 6, 2) := by decide +kernel
theorem dX8_bestStrike_51 : decode cX8_bestStrike 51 = .ok (.aload_n 0, 1) := by decide +kernel
theorem dX8_bestStrike_52 : decode cX8_bestStrike 52 = .ok (.iload_n 3, 1) := by decide +kernel
theorem dX8_bestStrike_53 : decode cX8_bestStrike 53 = .ok (.iload 6, 2) := by decide +kernel
theorem dX8_bestStrike_55 : decode cX8_bestStrike 55 = .ok (.invokevirtual 295, 3) := by decide +kernel
theorem dX8_bestStrike_58 : decode cX8_bestStrike 58 = .ok (.istore 7, 2) := by decide +kernel
theorem dX8_bestStrike_60 : decode cX8_bestStrike 60 = .ok (.iload 7, 2) := by decide +kernel
theorem dX8_bestStrike_62 : decode cX8_bestStrike 62 = .ok (.iload_n 2, 1) := by decide +kernel
theorem dX8_bestStrike_63 : decode cX8_bestStrike 63 = .ok (.if_icmp .le 15, 3) := by decide +kernel
theorem dX8_bestStrike_66 : decode cX8_bestStrike 66 = .ok (.sipush 10000, 3) := by decide +kernel
theorem dX8_bestStrike_69 : decode cX8_bestStrike 69 = .ok (.iload_n 3, 1) := by decide +kernel
theorem dX8_bestStrike_70 : decode cX8_bestStrike 70 = .ok (.imul, 1) := by decide +kernel
theorem dX8_bestStrike_71 : decode cX8_bestStrike 71 = .ok (.iload 6, 2) := by decide +kernel
theorem dX8_bestStrike_73 : decode cX8_bestStrike 73 = .ok (.iadd, 1) := by decide +kernel
theorem dX8_bestStrike_74 : decode cX8_bestStrike 74 = .ok (.istore_n 1, 1) := by decide +kernel
theorem dX8_bestStrike_75 : decode cX8_bestStrike 75 = .ok (.iload 7, 2) := by decide +kernel
theorem dX8_bestStrike_77 : decode cX8_bestStrike 77 = .ok (.istore_n 2, 1) := by decide +kernel
theorem dX8_bestStrike_78 : decode cX8_bestStrike 78 = .ok (.iload 4, 2) := by decide +kernel
theorem dX8_bestStrike_80 : decode cX8_bestStrike 80 = .ok (.iload 6, 2) := by decide +kernel
theorem dX8_bestStrike_82 : decode cX8_bestStrike 82 = .ok (.invokestatic 298, 3) := by decide +kernel
theorem dX8_bestStrike_85 : decode cX8_bestStrike 85 = .ok (.istore 4, 2) := by decide +kernel
theorem dX8_bestStrike_87 : decode cX8_bestStrike 87 = .ok (.iinc 5 1, 3) := by decide +kernel
theorem dX8_bestStrike_90 : decode cX8_bestStrike 90 = .ok (.goto (-59), 3) := by decide +kernel
theorem dX8_bestStrike_93 : decode cX8_bestStrike 93 = .ok (.iinc 3 1, 3) := by decide +kernel
theorem dX8_bestStrike_96 : decode cX8_bestStrike 96 = .ok (.goto (-89), 3) := by decide +kernel
theorem dX8_bestStrike_99 : decode cX8_bestStrike 99 = .ok (.iload_n 1, 1) := by decide +kernel
theorem dX8_bestStrike_100 : decode cX8_bestStrike 100 = .ok (.ireturn, 1) := by decide +kernel
set_option maxRecDepth 20000 in
theorem ggX8_undo_X3_goBack : GoodIn wsX8_undo wsX3_goBack := goodIn_r _ [7, 8, 9, 10, 11, 6, 12, 13, 14, 15, 16, 17, 18, 19, 20, 21, 22, 23, 24, 25, 26, 27, 28, 29, 30, 31, 32, 33, 34, 35, 36, 37, 38, 39, 40, 41, 42, 43, 44, 45, 46, 47, 48, 49, 50, 51, 52, 53, 54, 55, 56, 57, 58, 59, 60, 72, 73, 74, 75, 76, 77, 78, 79, 80, 81, 82, 83, 84] (by decide +kernel) (by decide +kernel)
set_option maxRecDepth 20000 in
theorem gX8_undo_X3_goBack : GoodIn wsX8_undo (wsV RX8 301 RX3 yX3_goBack wsX3_goBack) := goodIn_app (goodIn_of _ (by decide +kernel)) ggX8_undo_X3_goBack
theorem dX8_undo_0 : decode cX8_undo 0 = .ok (.aload_n 0, 1) := by decide +kernel
theorem dX8_undo_1 : decode cX8_undo 1 = .ok (.getfield 25, 3) := by decide +kernel
theorem dX8_undo_4 : decode cX8_undo 4 = .ok (.aload_n 0, 1) := by decide +kernel
theorem dX8_undo_5 : decode cX8_undo 5 = .ok (.getfield 10, 3) := by decide +kernel
theorem dX8_undo_8 : decode cX8_undo 8 = .ok (.invokevirtual 301, 3) := by decide +kernel
theorem dX8_undo_11 : decode cX8_undo 11 = .ok (.ifCond .eq 13, 3) := by decide +kernel
theorem dX8_undo_14 : decode cX8_undo 14 = .ok (.aload_n 0, 1) := by decide +kernel
theorem dX8_undo_15 : decode cX8_undo 15 = .ok (.getfield 25, 3) := by decide +kernel
theorem dX8_undo_18 : decode cX8_undo 18 = .ok (.getfield 277, 3) := by decide +kernel
theorem dX8_undo_21 : decode cX8_undo 21 = .ok (.goto 5, 3) := by decide +kernel
theorem dX8_undo_24 : decode cX8_undo 24 = .ok (.bipush (-2), 2) := by decide +kernel
theorem dX8_undo_26 : decode cX8_undo 26 = .ok (.ireturn, 1) := by decide +kernel
set_option maxRecDepth 20000 in
theorem ggX8_save_X6_copyFrom : GoodIn wsX8_save wsX6_copyFrom := goodIn_r _ [8, 9, 10, 11, 12, 13, 14, 15, 16, 17, 18, 19, 20, 21, 22, 23, 24, 25, 26, 27, 28, 29, 30, 31, 32, 33, 34, 35, 36, 37, 38, 39, 40, 41, 42, 43, 44, 45, 46, 47, 48, 49, 61, 62, 63, 64, 65, 66, 67, 68, 69, 70] (by decide +kernel) (by decide +kernel)
set_option maxRecDepth 20000 in
theorem gX8_save_X6_copyFrom : GoodIn wsX8_save (wsV RX8 74 RX6 yX6_copyFrom wsX6_copyFrom) := goodIn_app (goodIn_of _ (by decide +kernel)) ggX8_save_X6_copyFrom
theorem dX8_save_0 : decode cX8_save 0 = .ok (.aload_n 0, 1) := by decide +kernel
theorem dX8_save_1 : decode cX8_save 1 = .ok (.getfield 19, 3) := by decide +kernel
theorem dX8_save_4 : decode cX8_save 4 = .ok (.aload_n 0, 1) := by decide +kernel
theorem dX8_save_5 : decode cX8_save 5 = .ok (.getfield 10, 3) := by decide +kernel
theorem dX8_save_8 : decode cX8_save 8 = .ok (.invokevirtual 74, 3) := by decide +kernel
theorem dX8_save_11 : decode cX8_save 11 = .ok (.aload_n 0, 1) := by decide +kernel
theorem dX8_save_12 : decode cX8_save 12 = .ok (.iconst 1, 1) := by decide +kernel
theorem dX8_save_13 : decode cX8_save 13 = .ok (.putfield 305, 3) := by decide +kernel
theorem dX8_save_16 : decode cX8_save 16 = .ok (.aload_n 0, 1) := by decide +kernel
theorem dX8_save_17 : decode cX8_save 17 = .ok (.getfield 10, 3) := by decide +kernel
theorem dX8_save_20 : decode cX8_save 20 = .ok (.getfield 97, 3) := by decide +kernel
theorem dX8_save_23 : decode cX8_save 23 = .ok (.ireturn, 1) := by decide +kernel
set_option maxRecDepth 20000 in
theorem ggX8_restore_X3_prepare : GoodIn wsX8_restore wsX3_prepare := goodIn_r _ [9, 10, 11, 12, 13, 8, 14, 15, 16, 17, 18, 19, 20, 21, 22, 23, 24, 25, 26, 27, 28, 29, 30, 31, 32, 33, 34, 35, 36, 37, 38, 39, 40, 41, 42, 43, 44, 45, 46, 47, 48, 49, 50, 51, 52, 53, 54, 55, 56, 57, 58, 59, 60, 61, 62, 85, 86, 87, 79, 80, 81, 82, 83, 84, 88, 89, 90, 91] (by decide +kernel) (by decide +kernel)
set_option maxRecDepth 20000 in
theorem gX8_restore_X3_prepare : GoodIn wsX8_restore (wsV RX8 50 RX3 yX3_prepare wsX3_prepare) := goodIn_app (goodIn_of _ (by decide +kernel)) ggX8_restore_X3_prepare
set_option maxRecDepth 20000 in
theorem ggX8_restore_X6_copyFrom : GoodIn wsX8_restore wsX6_copyFrom := goodIn_r _ [21, 22, 23, 24, 25, 26, 27, 28, 29, 30, 31, 32, 33, 34, 35, 36, 37, 38, 39, 40, 41, 42, 43, 44, 45, 46, 47, 48, 49, 50, 51, 52, 53, 54, 55, 56, 57, 58, 59, 60, 61, 62, 79, 80, 81, 82, 83, 84, 88, 89, 90, 91] (by decide +kernel) (by decide +kernel)
set_option maxRecDepth 20000 in
theorem gX8_restore_X6_copyFrom : GoodIn wsX8_restore (wsV RX8 74 RX6 yX6_copyFrom wsX6_copyFrom) := goodIn_app (goodIn_of _ (by decide +kernel)) ggX8_restore_X6_copyFrom
set_option maxRecDepth 20000 in
theorem ggX8_restore_X3_keep : GoodIn wsX8_restore wsX3_keep := goodIn_r _ [67, 10, 15, 85, 86, 87] (by decide +kernel) (by decide +kernel)
set_option maxRecDepth 20000 in
theorem gX8_restore_X3_keep : GoodIn wsX8_restore (wsV RX8 58 RX3 yX3_keep wsX3_keep) := goodIn_app (goodIn_of _ (by decide +kernel)) ggX8_restore_X3_keep
theorem dX8_restore_0 : decode cX8_restore 0 = .ok (.aload_n 0, 1) := by decide +kernel
theorem dX8_restore_1 : decode cX8_restore 1 = .ok (.getfield 305, 3) := by decide +kernel
theorem dX8_restore_4 : decode cX8_restore 4 = .ok (.ifCond .ne 6, 3) := by decide +kernel
theorem dX8_restore_7 : decode cX8_restore 7 = .ok (.bipush (-2), 2) := by decide +kernel
theorem dX8_restore_9 : decode cX8_restore 9 = .ok (.ireturn, 1) := by decide +kernel
theorem dX8_restore_10 : decode cX8_restore 10 = .ok (.aload_n 0, 1) := by decide +kernel
theorem dX8_restore_11 : decode cX8_restore 11 = .ok (.getfield 25, 3) := by decide +kernel
theorem dX8_restore_14 : decode cX8_restore 14 = .ok (.aload_n 0, 1) := by decide +kernel
theorem dX8_restore_15 : decode cX8_restore 15 = .ok (.getfield 10, 3) := by decide +kernel
theorem dX8_restore_18 : decode cX8_restore 18 = .ok (.invokevirtual 50, 3) := by decide +kernel
theorem dX8_restore_21 : decode cX8_restore 21 = .ok (.aload_n 0, 1) := by decide +kernel
theorem dX8_restore_22 : decode cX8_restore 22 = .ok (.getfield 10, 3) := by decide +kernel
theorem dX8_restore_25 : decode cX8_restore 25 = .ok (.aload_n 0, 1) := by decide +kernel
theorem dX8_restore_26 : decode cX8_restore 26 = .ok (.getfield 19, 3) := by decide +kernel
theorem dX8_restore_29 : decode cX8_restore 29 = .ok (.invokevirtual 74, 3) := by decide +kernel
theorem dX8_restore_32 : decode cX8_restore 32 = .ok (.aload_n 0, 1) := by decide +kernel
theorem dX8_restore_33 : decode cX8_restore 33 = .ok (.getfield 25, 3) := by decide +kernel
theorem dX8_restore_36 : decode cX8_restore 36 = .ok (.aload_n 0, 1) := by decide +kernel
theorem dX8_restore_37 : decode cX8_restore 37 = .ok (.getfield 10, 3) := by decide +kernel
theorem dX8_restore_40 : decode cX8_restore 40 = .ok (.getfield 97, 3) := by decide +kernel
theorem dX8_restore_43 : decode cX8_restore 43 = .ok (.invokevirtual 58, 3) := by decide +kernel
theorem dX8_restore_46 : decode cX8_restore 46 = .ok (.ireturn, 1) := by decide +kernel
set_option maxRecDepth 20000 in
theorem ggX8_isSpan_X6_has : GoodIn wsX8_isSpan wsX6_has := goodIn_r _ [6, 7, 19, 20, 21, 22, 23, 24] (by decide +kernel) (by decide +kernel)
set_option maxRecDepth 20000 in
theorem gX8_isSpan_X6_has : GoodIn wsX8_isSpan (wsV RX8 138 RX6 yX6_has wsX6_has) := goodIn_app (goodIn_of _ (by decide +kernel)) ggX8_isSpan_X6_has
theorem dX8_isSpan_0 : decode cX8_isSpan 0 = .ok (.aload_n 0, 1) := by decide +kernel
theorem dX8_isSpan_1 : decode cX8_isSpan 1 = .ok (.getfield 10, 3) := by decide +kernel
theorem dX8_isSpan_4 : decode cX8_isSpan 4 = .ok (.iload_n 1, 1) := by decide +kernel
theorem dX8_isSpan_5 : decode cX8_isSpan 5 = .ok (.invokevirtual 138, 3) := by decide +kernel
theorem dX8_isSpan_8 : decode cX8_isSpan 8 = .ok (.ifCond .eq 23, 3) := by decide +kernel
theorem dX8_isSpan_11 : decode cX8_isSpan 11 = .ok (.aload_n 0, 1) := by decide +kernel
theorem dX8_isSpan_12 : decode cX8_isSpan 12 = .ok (.getfield 10, 3) := by decide +kernel
theorem dX8_isSpan_15 : decode cX8_isSpan 15 = .ok (.iload_n 2, 1) := by decide +kernel
theorem dX8_isSpan_16 : decode cX8_isSpan 16 = .ok (.invokevirtual 138, 3) := by decide +kernel
theorem dX8_isSpan_19 : decode cX8_isSpan 19 = .ok (.ifCond .eq 12, 3) := by decide +kernel
theorem dX8_isSpan_22 : decode cX8_isSpan 22 = .ok (.iload_n 1, 1) := by decide +kernel
theorem dX8_isSpan_23 : decode cX8_isSpan 23 = .ok (.iload_n 2, 1) := by decide +kernel
theorem dX8_isSpan_24 : decode cX8_isSpan 24 = .ok (.if_icmp .gt 7, 3) := by decide +kernel
theorem dX8_isSpan_27 : decode cX8_isSpan 27 = .ok (.iconst 1, 1) := by decide +kernel
theorem dX8_isSpan_28 : decode cX8_isSpan 28 = .ok (.goto 4, 3) := by decide +kernel
theorem dX8_isSpan_31 : decode cX8_isSpan 31 = .ok (.iconst 0, 1) := by decide +kernel
theorem dX8_isSpan_32 : decode cX8_isSpan 32 = .ok (.ireturn, 1) := by decide +kernel
set_option maxRecDepth 20000 in
theorem ggX8_pairsIfStruck_X6_copyFrom : GoodIn wsX8_pairsIfStruck wsX6_copyFrom := goodIn_r _ [7, 8, 9, 10, 11, 12, 13, 14, 15, 16, 17, 18, 19, 20, 21, 22, 23, 24, 25, 26, 27, 28, 29, 30, 31, 32, 33, 34, 35, 36, 37, 38, 39, 40, 41, 42, 43, 44, 45, 46, 47, 48, 123, 124, 125, 126, 127, 128, 129, 130, 131, 132] (by decide +kernel) (by decide +kernel)
set_option maxRecDepth 20000 in
theorem gX8_pairsIfStruck_X6_copyFrom : GoodIn wsX8_pairsIfStruck (wsV RX8 74 RX6 yX6_copyFrom wsX6_copyFrom) := goodIn_app (goodIn_of _ (by decide +kernel)) ggX8_pairsIfStruck_X6_copyFrom
set_option maxRecDepth 20000 in
theorem ggX8_pairsIfStruck_X6_strikeBy : GoodIn wsX8_pairsIfStruck wsX6_strikeBy := goodIn_r _ [52, 53, 54, 55, 6, 56, 8, 57, 58, 59, 60, 61, 62, 63, 64, 65, 66, 67, 68, 69, 70, 12, 71, 72, 73, 74, 75, 13, 11, 76, 77, 78, 79, 80, 81, 27, 82, 29, 31, 32, 33, 34, 35, 36, 30, 37, 38, 39, 40, 41, 42, 43, 44, 45, 16, 46, 47, 83, 84, 85, 86, 87, 88, 19, 20, 89, 90, 91, 92, 93, 22, 23, 94, 95, 96, 97, 98, 99, 100, 123, 124, 125, 126, 127, 128, 129, 130, 131, 132] (by decide +kernel) (by decide +kernel)
set_option maxRecDepth 20000 in
theorem gX8_pairsIfStruck_X6_strikeBy : GoodIn wsX8_pairsIfStruck (wsV RX8 71 RX6 yX6_strikeBy wsX6_strikeBy) := goodIn_app (goodIn_of _ (by decide +kernel)) ggX8_pairsIfStruck_X6_strikeBy
set_option maxRecDepth 20000 in
theorem ggX8_pairsIfStruck_X6_pairs : GoodIn wsX8_pairsIfStruck wsX6_pairs := goodIn_r _ [104, 8, 105, 106, 107, 6, 108, 9, 67, 68, 69, 70, 12, 109, 110, 59, 111, 71, 65, 66, 123, 124, 125, 126, 127, 128] (by decide +kernel) (by decide +kernel)
set_option maxRecDepth 20000 in
theorem gX8_pairsIfStruck_X6_pairs : GoodIn wsX8_pairsIfStruck (wsV RX8 242 RX6 yX6_pairs wsX6_pairs) := goodIn_app (goodIn_of _ (by decide +kernel)) ggX8_pairsIfStruck_X6_pairs
theorem dX8_pairsIfStruck_0 : decode cX8_pairsIfStruck 0 = .ok (.aload_n 0, 1) := by decide +kernel
theorem dX8_pairsIfStruck_1 : decode cX8_pairsIfStruck 1 = .ok (.getfield 16, 3) := by decide +kernel
theorem dX8_pairsIfStruck_4 : decode cX8_pairsIfStruck 4 = .ok (.aload_n 0, 1) := by decide +kernel
theorem dX8_pairsIfStruck_5 : decode cX8_pairsIfStruck 5 = .ok (.getfield 10, 3) := by decide +kernel
theorem dX8_pairsIfStruck_8 : decode cX8_pairsIfStruck 8 = .ok (.invokevirtual 74, 3) := by decide +kernel
theorem dX8_pairsIfStruck_11 : decode cX8_pairsIfStruck 11 = .ok (.aload_n 0, 1) := by decide +kernel
theorem dX8_pairsIfStruck_12 : decode cX8_pairsIfStruck 12 = .ok (.getfield 16, 3) := by decide +kernel
theorem dX8_pairsIfStruck_15 : decode cX8_pairsIfStruck 15 = .ok (.iload_n 1, 1) := by decide +kernel
theorem dX8_pairsIfStruck_16 : decode cX8_pairsIfStruck 16 = .ok (.iload_n 2, 1) := by decide +kernel
theorem dX8_pairsIfStruck_17 : decode cX8_pairsIfStruck 17 = .ok (.invokevirtual 71, 3) := by decide +kernel
theorem dX8_pairsIfStruck_20 : decode cX8_pairsIfStruck 20 = .ok (.pop, 1) := by decide +kernel
theorem dX8_pairsIfStruck_21 : decode cX8_pairsIfStruck 21 = .ok (.aload_n 0, 1) := by decide +kernel
theorem dX8_pairsIfStruck_22 : decode cX8_pairsIfStruck 22 = .ok (.getfield 16, 3) := by decide +kernel
theorem dX8_pairsIfStruck_25 : decode cX8_pairsIfStruck 25 = .ok (.invokevirtual 242, 3) := by decide +kernel
theorem dX8_pairsIfStruck_28 : decode cX8_pairsIfStruck 28 = .ok (.ireturn, 1) := by decide +kernel
theorem dX9_init_0 : decode cX9_init 0 = .ok (.aload_n 0, 1) := by decide +kernel
theorem dX9_init_1 : decode cX9_init 1 = .ok (.invokespecial 1, 3) := by decide +kernel
theorem dX9_init_4 : decode cX9_init 4 = .ok (.aload_n 0, 1) := by decide +kernel
theorem dX9_init_5 : decode cX9_init 5 = .ok (.sipush 1245, 3) := by decide +kernel
theorem dX9_init_8 : decode cX9_init 8 = .ok (.newarray .int, 2) := by decide +kernel
theorem dX9_init_10 : decode cX9_init 10 = .ok (.putfield 7, 3) := by decide +kernel
theorem dX9_init_13 : decode cX9_init 13 = .ok (.aload_n 0, 1) := by decide +kernel
theorem dX9_init_14 : decode cX9_init 14 = .ok (.sipush 4980, 3) := by decide +kernel
theorem dX9_init_17 : decode cX9_init 17 = .ok (.newarray .int, 2) := by decide +kernel
theorem dX9_init_19 : decode cX9_init 19 = .ok (.putfield 13, 3) := by decide +kernel
theorem dX9_init_22 : decode cX9_init 22 = .ok (.aload_n 0, 1) := by decide +kernel
theorem dX9_init_23 : decode cX9_init 23 = .ok (.sipush 1245, 3) := by decide +kernel
theorem dX9_init_26 : decode cX9_init 26 = .ok (.newarray .int, 2) := by decide +kernel
theorem dX9_init_28 : decode cX9_init 28 = .ok (.putfield 16, 3) := by decide +kernel
theorem dX9_init_31 : decode cX9_init 31 = .ok (.aload_n 0, 1) := by decide +kernel
theorem dX9_init_32 : decode cX9_init 32 = .ok (.sipush 1245, 3) := by decide +kernel
theorem dX9_init_35 : decode cX9_init 35 = .ok (.newarray .int, 2) := by decide +kernel
theorem dX9_init_37 : decode cX9_init 37 = .ok (.putfield 19, 3) := by decide +kernel
theorem dX9_init_40 : decode cX9_init 40 = .ok (.aload_n 0, 1) := by decide +kernel
theorem dX9_init_41 : decode cX9_init 41 = .ok (.sipush 1229, 3) := by decide +kernel
theorem dX9_init_44 : decode cX9_init 44 = .ok (.newarray .int, 2) := by decide +kernel
theorem dX9_init_46 : decode cX9_init 46 = .ok (.putfield 22, 3) := by decide +kernel
theorem dX9_init_49 : decode cX9_init 49 = .ok (.aload_n 0, 1) := by decide +kernel
theorem dX9_init_50 : decode cX9_init 50 = .ok (.bipush 60, 2) := by decide +kernel
theorem dX9_init_52 : decode cX9_init 52 = .ok (.newarray .int, 2) := by decide +kernel
theorem dX9_init_54 : decode cX9_init 54 = .ok (.putfield 25, 3) := by decide +kernel
theorem dX9_init_57 : decode cX9_init 57 = .ok (.aload_n 0, 1) := by decide +kernel
theorem dX9_init_58 : decode cX9_init 58 = .ok (.iconst 3, 1) := by decide +kernel
theorem dX9_init_59 : decode cX9_init 59 = .ok (.newarray .int, 2) := by decide +kernel
theorem dX9_init_61 : decode cX9_init 61 = .ok (.putfield 28, 3) := by decide +kernel
theorem dX9_init_64 : decode cX9_init 64 = .ok (.aload_n 0, 1) := by decide +kernel
theorem dX9_init_65 : decode cX9_init 65 = .ok (.bipush 12, 2) := by decide +kernel
theorem dX9_init_67 : decode cX9_init 67 = .ok (.newarray .int, 2) := by decide +kernel
theorem dX9_init_69 : decode cX9_init 69 = .ok (.putfield 31, 3) := by decide +kernel
theorem dX9_init_72 : decode cX9_init 72 = .ok (.aload_n 0, 1) := by decide +kernel
theorem dX9_init_73 : decode cX9_init 73 = .ok (.bipush 124, 2) := by decide +kernel
theorem dX9_init_75 : decode cX9_init 75 = .ok (.newarray .int, 2) := by decide +kernel
theorem dX9_init_77 : decode cX9_init 77 = .ok (.putfield 34, 3) := by decide +kernel
theorem dX9_init_80 : decode cX9_init 80 = .ok (.aload_n 0, 1) := by decide +kernel
theorem dX9_init_81 : decode cX9_init 81 = .ok (.bipush 12, 2) := by decide +kernel
theorem dX9_init_83 : decode cX9_init 83 = .ok (.newarray .int, 2) := by decide +kernel
theorem dX9_init_85 : decode cX9_init 85 = .ok (.putfield 37, 3) := by decide +kernel
theorem dX9_init_88 : decode cX9_init 88 = .ok (.aload_n 0, 1) := by decide +kernel
theorem dX9_init_89 : decode cX9_init 89 = .ok (.bipush 12, 2) := by decide +kernel
theorem dX9_init_91 : decode cX9_init 91 = .ok (.newarray .int, 2) := by decide +kernel
theorem dX9_init_93 : decode cX9_init 93 = .ok (.putfield 40, 3) := by decide +kernel
theorem dX9_init_96 : decode cX9_init 96 = .ok (.aload_n 0, 1) := by decide +kernel
theorem dX9_init_97 : decode cX9_init 97 = .ok (.getfield 7, 3) := by decide +kernel
theorem dX9_init_100 : decode cX9_init 100 = .ok (.iconst 1, 1) := by decide +kernel
theorem dX9_init_101 : decode cX9_init 101 = .ok (.iconst 2, 1) := by decide +kernel
theorem dX9_init_102 : decode cX9_init 102 = .ok (.iastore, 1) := by decide +kernel
theorem dX9_init_103 : decode cX9_init 103 = .ok (.iconst 0, 1) := by decide +kernel
theorem dX9_init_104 : decode cX9_init 104 = .ok (.istore_n 1, 1) := by decide +kernel
theorem dX9_init_105 : decode cX9_init 105 = .ok (.iconst 2, 1) := by decide +kernel
theorem dX9_init_106 : decode cX9_init 106 = .ok (.istore_n 2, 1) := by decide +kernel
theorem dX9_init_107 : decode cX9_init 107 = .ok (.iload_n 2, 1) := by decide +kernel
theorem dX9_init_108 : decode cX9_init 108 = .ok (.sipush 9999, 3) := by decide +kernel
theorem dX9_init_111 : decode cX9_init 111 = .ok (.if_icmp .gt 81, 3) := by decide +kernel
theorem dX9_init_114 : decode cX9_init 114 = .ok (.iconst 1, 1) := by decide +kernel
theorem dX9_init_115 : decode cX9_init 115 = .ok (.istore_n 3, 1) := by decide +kernel
theorem dX9_init_116 : decode cX9_init 116 = .ok (.iconst 0, 1) := by decide +kernel
theorem dX9_init_117 : decode cX9_init 117 = .ok (.istore 4, 2) := by decide +kernel
theorem dX9_init_119 : decode cX9_init 119 = .ok (.iload 4, 2) := by decide +kernel
theorem dX9_init_121 : decode cX9_init 121 = .ok (.iload_n 1, 1) := by decide +kernel
theorem dX9_init_122 : decode cX9_init 122 = .ok (.if_icmp .ge 50, 3) := by decide +kernel
theorem dX9_init_125 : decode cX9_init 125 = .ok (.iload_n 3, 1) := by decide +kernel
theorem dX9_init_126 : decode cX9_init 126 = .ok (.ifCond .eq 46, 3) := by decide +kernel
theorem dX9_init_129 : decode cX9_init 129 = .ok (.aload_n 0, 1) := by decide +kernel
theorem dX9_init_130 : decode cX9_init 130 = .ok (.getfield 22, 3) := by decide +kernel
theorem dX9_init_133 : decode cX9_init 133 = .ok (.iload 4, 2) := by decide +kernel
theorem dX9_init_135 : decode cX9_init 135 = .ok (.iaload, 1) := by decide +kernel
theorem dX9_init_136 : decode cX9_init 136 = .ok (.aload_n 0, 1) := by decide +kernel
theorem dX9_init_137 : decode cX9_init 137 = .ok (.getfield 22, 3) := by decide +kernel
theorem dX9_init_140 : decode cX9_init 140 = .ok (.iload 4, 2) := by decide +kernel
theorem dX9_init_142 : decode cX9_init 142 = .ok (.iaload, 1) := by decide +kernel
theorem dX9_init_143 : decode cX9_init 143 = .ok (.imul, 1) := by decide +kernel
theorem dX9_init_144 : decode cX9_init 144 = .ok (.iload_n 2, 1) := by decide +kernel
theorem dX9_init_145 : decode cX9_init 145 = .ok (.if_icmp .gt 27, 3) := by decide +kernel
theorem dX9_init_148 : decode cX9_init 148 = .ok (.iload_n 2, 1) := by decide +kernel
theorem dX9_init_149 : decode cX9_init 149 = .ok (.aload_n 0, 1) := by decide +kernel
theorem dX9_init_150 : decode cX9_init 150 = .ok (.getfield 22, 3) := by decide +kernel
theorem dX9_init_153 : decode cX9_init 153 = .ok (.iload 4, 2) := by decide +kernel
theorem dX9_init_155 : decode cX9_init 155 = .ok (.iaload, 1) := by decide +kernel
theorem dX9_init_156 : decode cX9_init 156 = .ok (.irem, 1) := by decide +kernel
theorem dX9_init_157 : decode cX9_init 157 = .ok (.ifCond .eq 7, 3) := by decide +kernel
theorem dX9_init_160 : decode cX9_init 160 = .ok (.iconst 1, 1) := by decide +kernel
theorem dX9_init_161 : decode cX9_init 161 = .ok (.goto 4, 3) := by decide +kernel
theorem dX9_init_164 : decode cX9_init 164 = .ok (.iconst 0, 1) := by decide +kernel
theorem dX9_init_165 : decode cX9_init 165 = .ok (.istore_n 3, 1) := by decide +kernel
theorem dX9_init_166 : decode cX9_init 166 = .ok (.iinc 4 1, 3) := by decide +kernel
theorem dX9_init_169 : decode cX9_init 169 = .ok (.goto (-50), 3) := by decide +kernel
theorem dX9_init_172 : decode cX9_init 172 = .ok (.iload_n 3, 1) := by decide +kernel
theorem dX9_init_173 : decode cX9_init 173 = .ok (.ifCond .eq 13, 3) := by decide +kernel
theorem dX9_init_176 : decode cX9_init 176 = .ok (.aload_n 0, 1) := by decide +kernel
theorem dX9_init_177 : decode cX9_init 177 = .ok (.getfield 22, 3) := by decide +kernel
theorem dX9_init_180 : decode cX9_init 180 = .ok (.iload_n 1, 1) := by decide +kernel
theorem dX9_init_181 : decode cX9_init 181 = .ok (.iload_n 2, 1) := by decide +kernel
theorem dX9_init_182 : decode cX9_init 182 = .ok (.iastore, 1) := by decide +kernel
theorem dX9_init_183 : decode cX9_init 183 = .ok (.iinc 1 1, 3) := by decide +kernel
theorem dX9_init_186 : decode cX9_init 186 = .ok (.iinc 2 1, 3) := by decide +kernel
theorem dX9_init_189 : decode cX9_init 189 = .ok (.goto (-82), 3) := by decide +kernel
theorem dX9_init_192 : decode cX9_init 192 = .ok (.return_, 1) := by decide +kernel
theorem dX9_in_0 : decode cX9_in 0 = .ok (.iload_n 0, 1) := by decide +kernel
theorem dX9_in_1 : decode cX9_in 1 = .ok (.iload_n 1, 1) := by decide +kernel
theorem dX9_in_2 : decode cX9_in 2 = .ok (.if_icmp .lt 12, 3) := by decide +kernel
theorem dX9_in_5 : decode cX9_in 5 = .ok (.iload_n 0, 1) := by decide +kernel
theorem dX9_in_6 : decode cX9_in 6 = .ok (.iload_n 2, 1) := by decide +kernel
theorem dX9_in_7 : decode cX9_in 7 = .ok (.if_icmp .gt 7, 3) := by decide +kernel
theorem dX9_in_10 : decode cX9_in 10 = .ok (.iconst 1, 1) := by decide +kernel
theorem dX9_in_11 : decode cX9_in 11 = .ok (.goto 4, 3) := by decide +kernel
theorem dX9_in_14 : decode cX9_in 14 = .ok (.iconst 0, 1) := by decide +kernel
theorem dX9_in_15 : decode cX9_in 15 = .ok (.ireturn, 1) := by decide +kernel
theorem dX9_changes_0 : decode cX9_changes 0 = .ok (.aload_n 0, 1) := by decide +kernel
theorem dX9_changes_1 : decode cX9_changes 1 = .ok (.getfield 43, 3) := by decide +kernel
theorem dX9_changes_4 : decode cX9_changes 4 = .ok (.ifCond .eq 4, 3) := by decide +kernel
theorem dX9_changes_7 : decode cX9_changes 7 = .ok (.return_, 1) := by decide +kernel
theorem dX9_changes_8 : decode cX9_changes 8 = .ok (.aload_n 0, 1) := by decide +kernel
theorem dX9_changes_9 : decode cX9_changes 9 = .ok (.getfield 47, 3) := by decide +kernel
theorem dX9_changes_12 : decode cX9_changes 12 = .ok (.iconst 4, 1) := by decide +kernel
theorem dX9_changes_13 : decode cX9_changes 13 = .ok (.if_icmp .ne 44, 3) := by decide +kernel
theorem dX9_changes_16 : decode cX9_changes 16 = .ok (.iconst 0, 1) := by decide +kernel
