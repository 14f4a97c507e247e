theorem dX8_settle_15 : decode cX8_settle 15 = .ok (.invokevirtual 77, 3) := by decide +kernel
theorem dX8_settle_18 : decode cX8_settle 18 = .ok (.istore_n 1, 1) := by decide +kernel
theorem dX8_settle_19 : decode cX8_settle 19 = .ok (.iload_n 1, 1) := by decide +kernel
theorem dX8_settle_20 : decode cX8_settle 20 = .ok (.ifCond .ge 5, 3) := by decide +kernel
theorem dX8_settle_23 : decode cX8_settle 23 = .ok (.iload_n 1, 1) := by decide +kernel
theorem dX8_settle_24 : decode cX8_settle 24 = .ok (.ireturn, 1) := by decide +kernel
theorem dX8_settle_25 : decode cX8_settle 25 = .ok (.aload_n 0, 1) := by decide +kernel
theorem dX8_settle_26 : decode cX8_settle 26 = .ok (.getfield 25, 3) := by decide +kernel
theorem dX8_settle_29 : decode cX8_settle 29 = .ok (.aload_n 0, 1) := by decide +kernel
theorem dX8_settle_30 : decode cX8_settle 30 = .ok (.getfield 10, 3) := by decide +kernel
theorem dX8_settle_33 : decode cX8_settle 33 = .ok (.invokevirtual 50, 3) := by decide +kernel
theorem dX8_settle_36 : decode cX8_settle 36 = .ok (.aload_n 0, 1) := by decide +kernel
theorem dX8_settle_37 : decode cX8_settle 37 = .ok (.getfield 10, 3) := by decide +kernel
theorem dX8_settle_40 : decode cX8_settle 40 = .ok (.aload_n 0, 1) := by decide +kernel
theorem dX8_settle_41 : decode cX8_settle 41 = .ok (.getfield 16, 3) := by decide +kernel
theorem dX8_settle_44 : decode cX8_settle 44 = .ok (.invokevirtual 74, 3) := by decide +kernel
theorem dX8_settle_47 : decode cX8_settle 47 = .ok (.aload_n 0, 1) := by decide +kernel
theorem dX8_settle_48 : decode cX8_settle 48 = .ok (.getfield 25, 3) := by decide +kernel
theorem dX8_settle_51 : decode cX8_settle 51 = .ok (.iload_n 1, 1) := by decide +kernel
theorem dX8_settle_52 : decode cX8_settle 52 = .ok (.invokevirtual 58, 3) := by decide +kernel
theorem dX8_settle_55 : decode cX8_settle 55 = .ok (.ireturn, 1) := by decide +kernel
set_option maxRecDepth 20000 in
theorem ggX8_set_X3_prepare : GoodIn wsX8_set wsX3_prepare := goodIn_r _ [7, 8, 9, 10, 11, 6, 12, 13, 14, 15, 16, 17, 18, 19, 20, 21, 22, 23, 24, 25, 26, 27, 28, 29, 30, 31, 32, 33, 34, 35, 36, 37, 38, 39, 40, 41, 42, 43, 44, 45, 46, 47, 48, 49, 50, 51, 52, 53, 54, 55, 56, 57, 58, 59, 60, 80, 81, 82, 83, 84, 85, 86, 87, 88, 89, 90, 91, 92] (by decide +kernel) (by decide +kernel)
set_option maxRecDepth 20000 in
theorem gX8_set_X3_prepare : GoodIn wsX8_set (wsV RX8 50 RX3 yX3_prepare wsX3_prepare) := goodIn_app (goodIn_of _ (by decide +kernel)) ggX8_set_X3_prepare
set_option maxRecDepth 20000 in
theorem ggX8_set_X6_changeSetting : GoodIn wsX8_set wsX6_changeSetting := goodIn_r _ [64, 21, 22, 83, 84, 85, 86, 87, 88] (by decide +kernel) (by decide +kernel)
set_option maxRecDepth 20000 in
theorem gX8_set_X6_changeSetting : GoodIn wsX8_set (wsV RX8 81 RX6 yX6_changeSetting wsX6_changeSetting) := goodIn_app (goodIn_of _ (by decide +kernel)) ggX8_set_X6_changeSetting
set_option maxRecDepth 20000 in
theorem ggX8_set_X3_keep : GoodIn wsX8_set wsX3_keep := goodIn_r _ [68, 8, 13, 80, 81, 82] (by decide +kernel) (by decide +kernel)
set_option maxRecDepth 20000 in
theorem gX8_set_X3_keep : GoodIn wsX8_set (wsV RX8 58 RX3 yX3_keep wsX3_keep) := goodIn_app (goodIn_of _ (by decide +kernel)) ggX8_set_X3_keep
theorem dX8_set_0 : decode cX8_set 0 = .ok (.aload_n 0, 1) := by decide +kernel
theorem dX8_set_1 : decode cX8_set 1 = .ok (.getfield 25, 3) := by decide +kernel
theorem dX8_set_4 : decode cX8_set 4 = .ok (.aload_n 0, 1) := by decide +kernel
theorem dX8_set_5 : decode cX8_set 5 = .ok (.getfield 10, 3) := by decide +kernel
theorem dX8_set_8 : decode cX8_set 8 = .ok (.invokevirtual 50, 3) := by decide +kernel
theorem dX8_set_11 : decode cX8_set 11 = .ok (.aload_n 0, 1) := by decide +kernel
theorem dX8_set_12 : decode cX8_set 12 = .ok (.getfield 25, 3) := by decide +kernel
theorem dX8_set_15 : decode cX8_set 15 = .ok (.aload_n 0, 1) := by decide +kernel
theorem dX8_set_16 : decode cX8_set 16 = .ok (.getfield 10, 3) := by decide +kernel
theorem dX8_set_19 : decode cX8_set 19 = .ok (.iload_n 1, 1) := by decide +kernel
theorem dX8_set_20 : decode cX8_set 20 = .ok (.iload_n 2, 1) := by decide +kernel
theorem dX8_set_21 : decode cX8_set 21 = .ok (.invokevirtual 81, 3) := by decide +kernel
theorem dX8_set_24 : decode cX8_set 24 = .ok (.invokevirtual 58, 3) := by decide +kernel
theorem dX8_set_27 : decode cX8_set 27 = .ok (.ireturn, 1) := by decide +kernel
set_option maxRecDepth 20000 in
theorem ggX8_step_X6_has : GoodIn wsX8_step wsX6_has := goodIn_r _ [7, 8, 109, 110, 111, 112, 113, 114] (by decide +kernel) (by decide +kernel)
set_option maxRecDepth 20000 in
theorem gX8_step_X6_has : GoodIn wsX8_step (wsV RX8 138 RX6 yX6_has wsX6_has) := goodIn_app (goodIn_of _ (by decide +kernel)) ggX8_step_X6_has
set_option maxRecDepth 20000 in
theorem ggX8_step_X6_numberOf : GoodIn wsX8_step wsX6_numberOf := goodIn_r _ [12, 8, 13, 109, 110, 111, 112, 113, 114] (by decide +kernel) (by decide +kernel)
set_option maxRecDepth 20000 in
theorem gX8_step_X6_numberOf : GoodIn wsX8_step (wsV RX8 141 RX6 yX6_numberOf wsX6_numberOf) := goodIn_app (goodIn_of _ (by decide +kernel)) ggX8_step_X6_numberOf
set_option maxRecDepth 20000 in
theorem ggX8_step_X6_kinOf : GoodIn wsX8_step wsX6_kinOf := goodIn_r _ [17, 8, 18, 19, 20, 6, 21, 22, 23, 10, 11, 12, 13, 24, 25, 26, 27, 28, 29, 30, 109, 110, 111, 112, 113, 114] (by decide +kernel) (by decide +kernel)
set_option maxRecDepth 20000 in
theorem gX8_step_X6_kinOf : GoodIn wsX8_step (wsV RX8 144 RX6 yX6_kinOf wsX6_kinOf) := goodIn_app (goodIn_of _ (by decide +kernel)) ggX8_step_X6_kinOf
set_option maxRecDepth 20000 in
theorem ggX8_step_X2_find : GoodIn wsX8_step wsX2_find := goodIn_r _ [35, 36, 37, 38, 39, 40, 41, 42, 19, 20, 6, 21, 22, 23, 10, 11, 12, 8, 13, 24, 25, 26, 27, 28, 29, 30, 43, 44, 45, 34, 46, 47, 48, 49, 50, 51, 52, 53, 54, 55, 56, 57, 109, 110, 111, 112, 113, 114, 115, 116] (by decide +kernel) (by decide +kernel)
set_option maxRecDepth 20000 in
theorem gX8_step_X2_find : GoodIn wsX8_step (wsV RX8 147 RX2 yX2_find wsX2_find) := goodIn_app (goodIn_of _ (by decide +kernel)) ggX8_step_X2_find
set_option maxRecDepth 20000 in
theorem ggX8_step_X2_lowestOf : GoodIn wsX8_step wsX2_lowestOf := goodIn_r _ [46, 37, 47, 48, 40, 49, 115, 116] (by decide +kernel) (by decide +kernel)
set_option maxRecDepth 20000 in
theorem gX8_step_X2_lowestOf : GoodIn wsX8_step (wsV RX8 150 RX2 yX2_lowestOf wsX2_lowestOf) := goodIn_app (goodIn_of _ (by decide +kernel)) ggX8_step_X2_lowestOf
set_option maxRecDepth 20000 in
theorem ggX8_step_X2_sizeOf : GoodIn wsX8_step wsX2_sizeOf := goodIn_r _ [62, 36, 43, 44, 45, 34, 46, 37, 47, 48, 40, 49, 115, 116] (by decide +kernel) (by decide +kernel)
set_option maxRecDepth 20000 in
theorem gX8_step_X2_sizeOf : GoodIn wsX8_step (wsV RX8 153 RX2 yX2_sizeOf wsX2_sizeOf) := goodIn_app (goodIn_of _ (by decide +kernel)) ggX8_step_X2_sizeOf
set_option maxRecDepth 20000 in
theorem ggX8_step_X7_factors : GoodIn wsX8_step wsX7_factors := goodIn_r _ [65, 66, 67, 26, 68, 69, 29, 30, 70, 71, 72] (by decide +kernel) (by decide +kernel)
set_option maxRecDepth 20000 in
theorem gX8_step_X7_factors : GoodIn wsX8_step (va_wsS RX8 156 yX7_factors wsX7_factors) := goodIn_app (goodIn_of _ (by decide +kernel)) ggX8_step_X7_factors
set_option maxRecDepth 20000 in
theorem ggX8_step_X7_differentFactors : GoodIn wsX8_step wsX7_differentFactors := goodIn_r _ [75, 66, 67, 26, 68, 69, 29, 30, 76, 77, 78, 79, 80, 81, 70, 71, 72] (by decide +kernel) (by decide +kernel)
set_option maxRecDepth 20000 in
theorem gX8_step_X7_differentFactors : GoodIn wsX8_step (va_wsS RX8 161 yX7_differentFactors wsX7_differentFactors) := goodIn_app (goodIn_of _ (by decide +kernel)) ggX8_step_X7_differentFactors
set_option maxRecDepth 20000 in
theorem ggX8_step_X7_greatestPrime : GoodIn wsX8_step wsX7_greatestPrime := goodIn_r _ [84, 66, 67, 26, 68, 69, 29, 30, 76, 77, 78, 79, 80, 81, 70, 71, 72] (by decide +kernel) (by decide +kernel)
set_option maxRecDepth 20000 in
theorem gX8_step_X7_greatestPrime : GoodIn wsX8_step (va_wsS RX8 164 yX7_greatestPrime wsX7_greatestPrime) := goodIn_app (goodIn_of _ (by decide +kernel)) ggX8_step_X7_greatestPrime
set_option maxRecDepth 20000 in
theorem ggX8_step_X6_leadsFrom : GoodIn wsX8_step wsX6_leadsFrom := goodIn_r _ [88, 8, 89, 90, 91, 6, 92, 93, 94, 95, 96, 97, 18, 19, 20, 21, 22, 23, 10, 11, 12, 13, 24, 25, 26, 27, 28, 29, 30, 109, 110, 111, 112, 113, 114] (by decide +kernel) (by decide +kernel)
set_option maxRecDepth 20000 in
theorem gX8_step_X6_leadsFrom : GoodIn wsX8_step (wsV RX8 167 RX6 yX6_leadsFrom wsX6_leadsFrom) := goodIn_app (goodIn_of _ (by decide +kernel)) ggX8_step_X6_leadsFrom
theorem dX8_step_0 : decode cX8_step 0 = .ok (.aload_n 0, 1) := by decide +kernel
theorem dX8_step_1 : decode cX8_step 1 = .ok (.getfield 10, 3) := by decide +kernel
theorem dX8_step_4 : decode cX8_step 4 = .ok (.iload_n 1, 1) := by decide +kernel
theorem dX8_step_5 : decode cX8_step 5 = .ok (.invokevirtual 138, 3) := by decide +kernel
theorem dX8_step_8 : decode cX8_step 8 = .ok (.ifCond .eq 13, 3) := by decide +kernel
theorem dX8_step_11 : decode cX8_step 11 = .ok (.iload_n 2, 1) := by decide +kernel
theorem dX8_step_12 : decode cX8_step 12 = .ok (.ifCond .lt 9, 3) := by decide +kernel
theorem dX8_step_15 : decode cX8_step 15 = .ok (.iload_n 2, 1) := by decide +kernel
theorem dX8_step_16 : decode cX8_step 16 = .ok (.bipush 7, 2) := by decide +kernel
theorem dX8_step_18 : decode cX8_step 18 = .ok (.if_icmp .le 5, 3) := by decide +kernel
theorem dX8_step_21 : decode cX8_step 21 = .ok (.iconst (-1), 1) := by decide +kernel
theorem dX8_step_22 : decode cX8_step 22 = .ok (.ireturn, 1) := by decide +kernel
theorem dX8_step_23 : decode cX8_step 23 = .ok (.aload_n 0, 1) := by decide +kernel
theorem dX8_step_24 : decode cX8_step 24 = .ok (.getfield 10, 3) := by decide +kernel
theorem dX8_step_27 : decode cX8_step 27 = .ok (.iload_n 1, 1) := by decide +kernel
theorem dX8_step_28 : decode cX8_step 28 = .ok (.invokevirtual 141, 3) := by decide +kernel
theorem dX8_step_31 : decode cX8_step 31 = .ok (.istore_n 3, 1) := by decide +kernel
theorem dX8_step_32 : decode cX8_step 32 = .ok (.iload_n 2, 1) := by decide +kernel
theorem dX8_step_33 : decode cX8_step 33 = .ok (.tableswitch 126 0 6 #[43, 45, 54, 74, 101, 106, 111], 43) := by decide +kernel
theorem dX8_step_76 : decode cX8_step 76 = .ok (.iload_n 3, 1) := by decide +kernel
theorem dX8_step_77 : decode cX8_step 77 = .ok (.ireturn, 1) := by decide +kernel
theorem dX8_step_78 : decode cX8_step 78 = .ok (.aload_n 0, 1) := by decide +kernel
theorem dX8_step_79 : decode cX8_step 79 = .ok (.getfield 10, 3) := by decide +kernel
theorem dX8_step_82 : decode cX8_step 82 = .ok (.iload_n 1, 1) := by decide +kernel
theorem dX8_step_83 : decode cX8_step 83 = .ok (.invokevirtual 144, 3) := by decide +kernel
theorem dX8_step_86 : decode cX8_step 86 = .ok (.ireturn, 1) := by decide +kernel
theorem dX8_step_87 : decode cX8_step 87 = .ok (.aload_n 0, 1) := by decide +kernel
theorem dX8_step_88 : decode cX8_step 88 = .ok (.getfield 39, 3) := by decide +kernel
theorem dX8_step_91 : decode cX8_step 91 = .ok (.aload_n 0, 1) := by decide +kernel
theorem dX8_step_92 : decode cX8_step 92 = .ok (.getfield 10, 3) := by decide +kernel
theorem dX8_step_95 : decode cX8_step 95 = .ok (.invokevirtual 147, 3) := by decide +kernel
theorem dX8_step_98 : decode cX8_step 98 = .ok (.aload_n 0, 1) := by decide +kernel
theorem dX8_step_99 : decode cX8_step 99 = .ok (.getfield 39, 3) := by decide +kernel
theorem dX8_step_102 : decode cX8_step 102 = .ok (.iload_n 1, 1) := by decide +kernel
theorem dX8_step_103 : decode cX8_step 103 = .ok (.invokevirtual 150, 3) := by decide +kernel
theorem dX8_step_106 : decode cX8_step 106 = .ok (.ireturn, 1) := by decide +kernel
theorem dX8_step_107 : decode cX8_step 107 = .ok (.aload_n 0, 1) := by decide +kernel
theorem dX8_step_108 : decode cX8_step 108 = .ok (.getfield 39, 3) := by decide +kernel
theorem dX8_step_111 : decode cX8_step 111 = .ok (.aload_n 0, 1) := by decide +kernel
theorem dX8_step_112 : decode cX8_step 112 = .ok (.getfield 10, 3) := by decide +kernel
theorem dX8_step_115 : decode cX8_step 115 = .ok (.invokevirtual 147, 3) := by decide +kernel
theorem dX8_step_118 : decode cX8_step 118 = .ok (.aload_n 0, 1) := by decide +kernel
theorem dX8_step_119 : decode cX8_step 119 = .ok (.getfield 39, 3) := by decide +kernel
theorem dX8_step_122 : decode cX8_step 122 = .ok (.aload_n 0, 1) := by decide +kernel
theorem dX8_step_123 : decode cX8_step 123 = .ok (.getfield 39, 3) := by decide +kernel
theorem dX8_step_126 : decode cX8_step 126 = .ok (.iload_n 1, 1) := by decide +kernel
theorem dX8_step_127 : decode cX8_step 127 = .ok (.invokevirtual 150, 3) := by decide +kernel
theorem dX8_step_130 : decode cX8_step 130 = .ok (.invokevirtual 153, 3) := by decide +kernel
theorem dX8_step_133 : decode cX8_step 133 = .ok (.ireturn, 1) := by decide +kernel
theorem dX8_step_134 : decode cX8_step 134 = .ok (.iload_n 3, 1) := by decide +kernel
theorem dX8_step_135 : decode cX8_step 135 = .ok (.invokestatic 156, 3) := by decide +kernel
theorem dX8_step_138 : decode cX8_step 138 = .ok (.ireturn, 1) := by decide +kernel
theorem dX8_step_139 : decode cX8_step 139 = .ok (.iload_n 3, 1) := by decide +kernel
theorem dX8_step_140 : decode cX8_step 140 = .ok (.invokestatic 161, 3) := by decide +kernel
theorem dX8_step_143 : decode cX8_step 143 = .ok (.ireturn, 1) := by decide +kernel
theorem dX8_step_144 : decode cX8_step 144 = .ok (.iload_n 3, 1) := by decide +kernel
theorem dX8_step_145 : decode cX8_step 145 = .ok (.iconst 1, 1) := by decide +kernel
theorem dX8_step_146 : decode cX8_step 146 = .ok (.if_icmp .ne 8, 3) := by decide +kernel
theorem dX8_step_149 : decode cX8_step 149 = .ok (.bipush (-4), 2) := by decide +kernel
theorem dX8_step_151 : decode cX8_step 151 = .ok (.goto 7, 3) := by decide +kernel
theorem dX8_step_154 : decode cX8_step 154 = .ok (.iload_n 3, 1) := by decide +kernel
theorem dX8_step_155 : decode cX8_step 155 = .ok (.invokestatic 164, 3) := by decide +kernel
theorem dX8_step_158 : decode cX8_step 158 = .ok (.ireturn, 1) := by decide +kernel
theorem dX8_step_159 : decode cX8_step 159 = .ok (.aload_n 0, 1) := by decide +kernel
theorem dX8_step_160 : decode cX8_step 160 = .ok (.getfield 10, 3) := by decide +kernel
theorem dX8_step_163 : decode cX8_step 163 = .ok (.iload_n 1, 1) := by decide +kernel
theorem dX8_step_164 : decode cX8_step 164 = .ok (.invokevirtual 167, 3) := by decide +kernel
theorem dX8_step_167 : decode cX8_step 167 = .ok (.ireturn, 1) := by decide +kernel
set_option maxRecDepth 20000 in
theorem ggX8_factor_X6_has : GoodIn wsX8_factor wsX6_has := goodIn_r _ [6, 7, 37, 38, 39, 40, 41, 42] (by decide +kernel) (by decide +kernel)
set_option maxRecDepth 20000 in
theorem gX8_factor_X6_has : GoodIn wsX8_factor (wsV RX8 138 RX6 yX6_has wsX6_has) := goodIn_app (goodIn_of _ (by decide +kernel)) ggX8_factor_X6_has
set_option maxRecDepth 20000 in
theorem ggX8_factor_X6_numberOf : GoodIn wsX8_factor wsX6_numberOf := goodIn_r _ [11, 7, 12, 37, 38, 39, 40, 41, 42] (by decide +kernel) (by decide +kernel)
set_option maxRecDepth 20000 in
theorem gX8_factor_X6_numberOf : GoodIn wsX8_factor (wsV RX8 141 RX6 yX6_numberOf wsX6_numberOf) := goodIn_app (goodIn_of _ (by decide +kernel)) ggX8_factor_X6_numberOf
set_option maxRecDepth 20000 in
theorem ggX8_factor_X7_factorAt : GoodIn wsX8_factor wsX7_factorAt := goodIn_r _ [16, 17, 18, 15, 19, 20, 21, 22, 23, 24, 25] (by decide +kernel) (by decide +kernel)
set_option maxRecDepth 20000 in
theorem gX8_factor_X7_factorAt : GoodIn wsX8_factor (va_wsS RX8 170 yX7_factorAt wsX7_factorAt) := goodIn_app (goodIn_of _ (by decide +kernel)) ggX8_factor_X7_factorAt
theorem dX8_factor_0 : decode cX8_factor 0 = .ok (.aload_n 0, 1) := by decide +kernel
theorem dX8_factor_1 : decode cX8_factor 1 = .ok (.getfield 10, 3) := by decide +kernel
theorem dX8_factor_4 : decode cX8_factor 4 = .ok (.iload_n 1, 1) := by decide +kernel
theorem dX8_factor_5 : decode cX8_factor 5 = .ok (.invokevirtual 138, 3) := by decide +kernel
theorem dX8_factor_8 : decode cX8_factor 8 = .ok (.ifCond .eq 7, 3) := by decide +kernel
theorem dX8_factor_11 : decode cX8_factor 11 = .ok (.iload_n 2, 1) := by decide +kernel
theorem dX8_factor_12 : decode cX8_factor 12 = .ok (.ifCond .ge 5, 3) := by decide +kernel
theorem dX8_factor_15 : decode cX8_factor 15 = .ok (.iconst (-1), 1) := by decide +kernel
theorem dX8_factor_16 : decode cX8_factor 16 = .ok (.ireturn, 1) := by decide +kernel
theorem dX8_factor_17 : decode cX8_factor 17 = .ok (.aload_n 0, 1) := by decide +kernel
theorem dX8_factor_18 : decode cX8_factor 18 = .ok (.getfield 10, 3) := by decide +kernel
theorem dX8_factor_21 : decode cX8_factor 21 = .ok (.iload_n 1, 1) := by decide +kernel
theorem dX8_factor_22 : decode cX8_factor 22 = .ok (.invokevirtual 141, 3) := by decide +kernel
theorem dX8_factor_25 : decode cX8_factor 25 = .ok (.iload_n 2, 1) := by decide +kernel
theorem dX8_factor_26 : decode cX8_factor 26 = .ok (.invokestatic 170, 3) := by decide +kernel
theorem dX8_factor_29 : decode cX8_factor 29 = .ok (.istore_n 3, 1) := by decide +kernel
theorem dX8_factor_30 : decode cX8_factor 30 = .ok (.iload_n 3, 1) := by decide +kernel
theorem dX8_factor_31 : decode cX8_factor 31 = .ok (.iconst (-1), 1) := by decide +kernel
theorem dX8_factor_32 : decode cX8_factor 32 = .ok (.if_icmp .ne 8, 3) := by decide +kernel
theorem dX8_factor_35 : decode cX8_factor 35 = .ok (.bipush (-4), 2) := by decide +kernel
theorem dX8_factor_37 : decode cX8_factor 37 = .ok (.goto 4, 3) := by decide +kernel
theorem dX8_factor_40 : decode cX8_factor 40 = .ok (.iload_n 3, 1) := by decide +kernel
theorem dX8_factor_41 : decode cX8_factor 41 = .ok (.ireturn, 1) := by decide +kernel
set_option maxRecDepth 20000 in
theorem ggX8_common_X6_has : GoodIn wsX8_common wsX6_has := goodIn_r _ [6, 7, 40, 41, 42, 43, 44, 45] (by decide +kernel) (by decide +kernel)
set_option maxRecDepth 20000 in
theorem gX8_common_X6_has : GoodIn wsX8_common (wsV RX8 138 RX6 yX6_has wsX6_has) := goodIn_app (goodIn_of _ (by decide +kernel)) ggX8_common_X6_has
set_option maxRecDepth 20000 in
theorem ggX8_common_X6_numberOf : GoodIn wsX8_common wsX6_numberOf := goodIn_r _ [11, 7, 12, 40, 41, 42, 43, 44, 45] (by decide +kernel) (by decide +kernel)
set_option maxRecDepth 20000 in
theorem gX8_common_X6_numberOf : GoodIn wsX8_common (wsV RX8 141 RX6 yX6_numberOf wsX6_numberOf) := goodIn_app (goodIn_of _ (by decide +kernel)) ggX8_common_X6_numberOf
set_option maxRecDepth 20000 in
theorem ggX8_common_X7_divisorByRemainders : GoodIn wsX8_common wsX7_divisorByRemainders := goodIn_r _ [16] (by decide +kernel) (by decide +kernel)
set_option maxRecDepth 20000 in
theorem gX8_common_X7_divisorByRemainders : GoodIn wsX8_common (va_wsS RX8 173 yX7_divisorByRemainders wsX7_divisorByRemainders) := goodIn_app (goodIn_of _ (by decide +kernel)) ggX8_common_X7_divisorByRemainders
set_option maxRecDepth 20000 in
theorem ggX8_common_X7_divisorByFactors : GoodIn wsX8_common wsX7_divisorByFactors := goodIn_r _ [19, 20, 21, 15, 22, 23, 24, 25, 26, 27, 28] (by decide +kernel) (by decide +kernel)
set_option maxRecDepth 20000 in
theorem gX8_common_X7_divisorByFactors : GoodIn wsX8_common (va_wsS RX8 176 yX7_divisorByFactors wsX7_divisorByFactors) := goodIn_app (goodIn_of _ (by decide +kernel)) ggX8_common_X7_divisorByFactors
theorem dX8_common_0 : decode cX8_common 0 = .ok (.aload_n 0, 1) := by decide +kernel
theorem dX8_common_1 : decode cX8_common 1 = .ok (.getfield 10, 3) := by decide +kernel
theorem dX8_common_4 : decode cX8_common 4 = .ok (.iload_n 1, 1) := by decide +kernel
theorem dX8_common_5 : decode cX8_common 5 = .ok (.invokevirtual 138, 3) := by decide +kernel
theorem dX8_common_8 : decode cX8_common 8 = .ok (.ifCond .eq 23, 3) := by decide +kernel
theorem dX8_common_11 : decode cX8_common 11 = .ok (.aload_n 0, 1) := by decide +kernel
theorem dX8_common_12 : decode cX8_common 12 = .ok (.getfield 10, 3) := by decide +kernel
theorem dX8_common_15 : decode cX8_common 15 = .ok (.iload_n 2, 1) := by decide +kernel
theorem dX8_common_16 : decode cX8_common 16 = .ok (.invokevirtual 138, 3) := by decide +kernel
theorem dX8_common_19 : decode cX8_common 19 = .ok (.ifCond .eq 12, 3) := by decide +kernel
theorem dX8_common_22 : decode cX8_common 22 = .ok (.iload_n 3, 1) := by decide +kernel
theorem dX8_common_23 : decode cX8_common 23 = .ok (.ifCond .lt 8, 3) := by decide +kernel
theorem dX8_common_26 : decode cX8_common 26 = .ok (.iload_n 3, 1) := by decide +kernel
theorem dX8_common_27 : decode cX8_common 27 = .ok (.iconst 1, 1) := by decide +kernel
theorem dX8_common_28 : decode cX8_common 28 = .ok (.if_icmp .le 5, 3) := by decide +kernel
theorem dX8_common_31 : decode cX8_common 31 = .ok (.iconst (-1), 1) := by decide +kernel
theorem dX8_common_32 : decode cX8_common 32 = .ok (.ireturn, 1) := by decide +kernel
theorem dX8_common_33 : decode cX8_common 33 = .ok (.aload_n 0, 1) := by decide +kernel
theorem dX8_common_34 : decode cX8_common 34 = .ok (.getfield 10, 3) := by decide +kernel
theorem dX8_common_37 : decode cX8_common 37 = .ok (.iload_n 1, 1) := by decide +kernel
theorem dX8_common_38 : decode cX8_common 38 = .ok (.invokevirtual 141, 3) := by decide +kernel
theorem dX8_common_41 : decode cX8_common 41 = .ok (.istore 4, 2) := by decide +kernel
theorem dX8_common_43 : decode cX8_common 43 = .ok (.aload_n 0, 1) := by decide +kernel
theorem dX8_common_44 : decode cX8_common 44 = .ok (.getfield 10, 3) := by decide +kernel
theorem dX8_common_47 : decode cX8_common 47 = .ok (.iload_n 2, 1) := by decide +kernel
theorem dX8_common_48 : decode cX8_common 48 = .ok (.invokevirtual 141, 3) := by decide +kernel
theorem dX8_common_51 : decode cX8_common 51 = .ok (.istore 5, 2) := by decide +kernel
theorem dX8_common_53 : decode cX8_common 53 = .ok (.iload_n 3, 1) := by decide +kernel
theorem dX8_common_54 : decode cX8_common 54 = .ok (.ifCond .ne 13, 3) := by decide +kernel
theorem dX8_common_57 : decode cX8_common 57 = .ok (.iload 4, 2) := by decide +kernel
theorem dX8_common_59 : decode cX8_common 59 = .ok (.iload 5, 2) := by decide +kernel
theorem dX8_common_61 : decode cX8_common 61 = .ok (.invokestatic 173, 3) := by decide +kernel
theorem dX8_common_64 : decode cX8_common 64 = .ok (.goto 10, 3) := by decide +kernel
theorem dX8_common_67 : decode cX8_common 67 = .ok (.iload 4, 2) := by decide +kernel
theorem dX8_common_69 : decode cX8_common 69 = .ok (.iload 5, 2) := by decide +kernel
theorem dX8_common_71 : decode cX8_common 71 = .ok (.invokestatic 176, 3) := by decide +kernel
theorem dX8_common_74 : decode cX8_common 74 = .ok (.ireturn, 1) := by decide +kernel
set_option maxRecDepth 20000 in
theorem ggX8_crown_X6_kinOf : GoodIn wsX8_crown wsX6_kinOf := goodIn_r _ [6, 7, 8, 9, 10, 5, 11, 12, 13, 14, 15, 16, 17, 18, 19, 20, 21, 22, 23, 24, 37, 38, 39, 40, 41, 42] (by decide +kernel) (by decide +kernel)
set_option maxRecDepth 20000 in
theorem gX8_crown_X6_kinOf : GoodIn wsX8_crown (wsV RX8 144 RX6 yX6_kinOf wsX6_kinOf) := goodIn_app (goodIn_of _ (by decide +kernel)) ggX8_crown_X6_kinOf
set_option maxRecDepth 20000 in
theorem ggX8_crown_X6_numberOf : GoodIn wsX8_crown wsX6_numberOf := goodIn_r _ [16, 7, 17, 37, 38, 39, 40, 41, 42] (by decide +kernel) (by decide +kernel)
set_option maxRecDepth 20000 in
theorem gX8_crown_X6_numberOf : GoodIn wsX8_crown (wsV RX8 141 RX6 yX6_numberOf wsX6_numberOf) := goodIn_app (goodIn_of _ (by decide +kernel)) ggX8_crown_X6_numberOf
theorem dX8_crown_0 : decode cX8_crown 0 = .ok (.iconst (-1), 1) := by decide +kernel
theorem dX8_crown_1 : decode cX8_crown 1 = .ok (.istore_n 1, 1) := by decide +kernel
theorem dX8_crown_2 : decode cX8_crown 2 = .ok (.iconst (-1), 1) := by decide +kernel
theorem dX8_crown_3 : decode cX8_crown 3 = .ok (.istore_n 2, 1) := by decide +kernel
theorem dX8_crown_4 : decode cX8_crown 4 = .ok (.iconst 0, 1) := by decide +kernel
theorem dX8_crown_5 : decode cX8_crown 5 = .ok (.istore_n 3, 1) := by decide +kernel
theorem dX8_crown_6 : decode cX8_crown 6 = .ok (.iload_n 3, 1) := by decide +kernel
theorem dX8_crown_7 : decode cX8_crown 7 = .ok (.aload_n 0, 1) := by decide +kernel
theorem dX8_crown_8 : decode cX8_crown 8 = .ok (.getfield 10, 3) := by decide +kernel
theorem dX8_crown_11 : decode cX8_crown 11 = .ok (.getfield 97, 3) := by decide +kernel
theorem dX8_crown_14 : decode cX8_crown 14 = .ok (.if_icmp .ge 55, 3) := by decide +kernel
theorem dX8_crown_17 : decode cX8_crown 17 = .ok (.aload_n 0, 1) := by decide +kernel
theorem dX8_crown_18 : decode cX8_crown 18 = .ok (.getfield 10, 3) := by decide +kernel
theorem dX8_crown_21 : decode cX8_crown 21 = .ok (.iload_n 3, 1) := by decide +kernel
theorem dX8_crown_22 : decode cX8_crown 22 = .ok (.invokevirtual 144, 3) := by decide +kernel
theorem dX8_crown_25 : decode cX8_crown 25 = .ok (.istore 4, 2) := by decide +kernel
theorem dX8_crown_27 : decode cX8_crown 27 = .ok (.iload 4, 2) := by decide +kernel
theorem dX8_crown_29 : decode cX8_crown 29 = .ok (.iload_n 2, 1) := by decide +kernel
theorem dX8_crown_30 : decode cX8_crown 30 = .ok (.if_icmp .gt 28, 3) := by decide +kernel
theorem dX8_crown_33 : decode cX8_crown 33 = .ok (.iload 4, 2) := by decide +kernel
theorem dX8_crown_35 : decode cX8_crown 35 = .ok (.iload_n 2, 1) := by decide +kernel
theorem dX8_crown_36 : decode cX8_crown 36 = .ok (.if_icmp .ne 27, 3) := by decide +kernel
theorem dX8_crown_39 : decode cX8_crown 39 = .ok (.aload_n 0, 1) := by decide +kernel
theorem dX8_crown_40 : decode cX8_crown 40 = .ok (.getfield 10, 3) := by decide +kernel
theorem dX8_crown_43 : decode cX8_crown 43 = .ok (.iload_n 3, 1) := by decide +kernel
theorem dX8_crown_44 : decode cX8_crown 44 = .ok (.invokevirtual 141, 3) := by decide +kernel
theorem dX8_crown_47 : decode cX8_crown 47 = .ok (.aload_n 0, 1) := by decide +kernel
theorem dX8_crown_48 : decode cX8_crown 48 = .ok (.getfield 10, 3) := by decide +kernel
theorem dX8_crown_51 : decode cX8_crown 51 = .ok (.iload_n 1, 1) := by decide +kernel
theorem dX8_crown_52 : decode cX8_crown 52 = .ok (.invokevirtual 141, 3) := by decide +kernel
theorem dX8_crown_55 : decode cX8_crown 55 = .ok (.if_icmp .le 8, 3) := by decide +kernel
theorem dX8_crown_58 : decode cX8_crown 58 = .ok (.iload_n 3, 1) := by decide +kernel
theorem dX8_crown_59 : decode cX8_crown 59 = .ok (.istore_n 1, 1) := by decide +kernel
theorem dX8_crown_60 : decode cX8_crown 60 = .ok (.iload 4, 2) := by decide +kernel
theorem dX8_crown_62 : decode cX8_crown 62 = .ok (.istore_n 2, 1) := by decide +kernel
theorem dX8_crown_63 : decode cX8_crown 63 = .ok (.iinc 3 1, 3) := by decide +kernel
theorem dX8_crown_66 : decode cX8_crown 66 = .ok (.goto (-60), 3) := by decide +kernel
theorem dX8_crown_69 : decode cX8_crown 69 = .ok (.iload_n 1, 1) := by decide +kernel
theorem dX8_crown_70 : decode cX8_crown 70 = .ok (.iconst (-1), 1) := by decide +kernel
theorem dX8_crown_71 : decode cX8_crown 71 = .ok (.if_icmp .ne 8, 3) := by decide +kernel
theorem dX8_crown_74 : decode cX8_crown 74 = .ok (.bipush (-4), 2) := by decide +kernel
theorem dX8_crown_76 : decode cX8_crown 76 = .ok (.goto 4, 3) := by decide +kernel
theorem dX8_crown_79 : decode cX8_crown 79 = .ok (.iload_n 1, 1) := by decide +kernel
theorem dX8_crown_80 : decode cX8_crown 80 = .ok (.ireturn, 1) := by decide +kernel
set_option maxRecDepth 20000 in
theorem ggX8_prime_X7_isPrime : GoodIn wsX8_prime wsX7_isPrime := goodIn_r _ [5, 6, 7, 4, 8, 9, 10, 11] (by decide +kernel) (by decide +kernel)
set_option maxRecDepth 20000 in
theorem gX8_prime_X7_isPrime : GoodIn wsX8_prime (va_wsS RX8 218 yX7_isPrime wsX7_isPrime) := goodIn_app (goodIn_of _ (by decide +kernel)) ggX8_prime_X7_isPrime
set_option maxRecDepth 20000 in
theorem ggX8_prime_X0_chipsOf : GoodIn wsX8_prime wsX0_chipsOf := goodIn_r _ [16, 17, 18, 19, 20, 15, 21, 22, 23, 24, 25, 26, 27, 80, 81, 82, 83] (by decide +kernel) (by decide +kernel)
set_option maxRecDepth 20000 in
theorem gX8_prime_X0_chipsOf : GoodIn wsX8_prime (wsV RX8 225 RX0 yX0_chipsOf wsX0_chipsOf) := goodIn_app (goodIn_of _ (by decide +kernel)) ggX8_prime_X0_chipsOf
set_option maxRecDepth 20000 in
theorem ggX8_prime_X0_cameOf : GoodIn wsX8_prime wsX0_cameOf := goodIn_r _ [31, 32, 18, 19, 20, 15, 21, 22, 23, 24, 25, 26, 27, 80, 81, 82, 83] (by decide +kernel) (by decide +kernel)
set_option maxRecDepth 20000 in
theorem gX8_prime_X0_cameOf : GoodIn wsX8_prime (wsV RX8 230 RX0 yX0_cameOf wsX0_cameOf) := goodIn_app (goodIn_of _ (by decide +kernel)) ggX8_prime_X0_cameOf
set_option maxRecDepth 20000 in
theorem ggX8_prime_X6_sumOfExponents : GoodIn wsX8_prime wsX6_sumOfExponents := goodIn_r _ [37, 38, 39, 40, 41, 36, 42, 43, 44, 45, 4, 46, 9, 10, 11, 47, 48, 49, 74, 75, 76, 77, 78, 79] (by decide +kernel) (by decide +kernel)
set_option maxRecDepth 20000 in
theorem gX8_prime_X6_sumOfExponents : GoodIn wsX8_prime (wsV RX8 233 RX6 yX6_sumOfExponents wsX6_sumOfExponents) := goodIn_app (goodIn_of _ (by decide +kernel)) ggX8_prime_X6_sumOfExponents
set_option maxRecDepth 20000 in
theorem ggX8_prime_X6_greatestExponent : GoodIn wsX8_prime wsX6_greatestExponent := goodIn_r _ [53, 38, 54, 55, 56, 57, 39, 40, 41, 36, 42, 43, 44, 45, 4, 46, 9, 10, 11, 47, 48, 49, 74, 75, 76, 77, 78, 79] (by decide +kernel) (by decide +kernel)
set_option maxRecDepth 20000 in
theorem gX8_prime_X6_greatestExponent : GoodIn wsX8_prime (wsV RX8 236 RX6 yX6_greatestExponent wsX6_greatestExponent) := goodIn_app (goodIn_of _ (by decide +kernel)) ggX8_prime_X6_greatestExponent
set_option maxRecDepth 20000 in
theorem ggX8_prime_X6_multiplesOf : GoodIn wsX8_prime wsX6_multiplesOf := goodIn_r _ [61, 38, 39, 40, 41, 36, 42, 43, 62, 10, 4, 11, 74, 75, 76, 77, 78, 79] (by decide +kernel) (by decide +kernel)
set_option maxRecDepth 20000 in
theorem gX8_prime_X6_multiplesOf : GoodIn wsX8_prime (wsV RX8 239 RX6 yX6_multiplesOf wsX6_multiplesOf) := goodIn_app (goodIn_of _ (by decide +kernel)) ggX8_prime_X6_multiplesOf
theorem dX8_prime_0 : decode cX8_prime 0 = .ok (.iload_n 1, 1) := by decide +kernel
theorem dX8_prime_1 : decode cX8_prime 1 = .ok (.invokestatic 218, 3) := by decide +kernel
theorem dX8_prime_4 : decode cX8_prime 4 = .ok (.ifCond .eq 12, 3) := by decide +kernel
theorem dX8_prime_7 : decode cX8_prime 7 = .ok (.iload_n 2, 1) := by decide +kernel
theorem dX8_prime_8 : decode cX8_prime 8 = .ok (.ifCond .lt 8, 3) := by decide +kernel
theorem dX8_prime_11 : decode cX8_prime 11 = .ok (.iload_n 2, 1) := by decide +kernel
theorem dX8_prime_12 : decode cX8_prime 12 = .ok (.iconst 4, 1) := by decide +kernel
theorem dX8_prime_13 : decode cX8_prime 13 = .ok (.if_icmp .le 5, 3) := by decide +kernel
theorem dX8_prime_16 : decode cX8_prime 16 = .ok (.iconst (-1), 1) := by decide +kernel
theorem dX8_prime_17 : decode cX8_prime 17 = .ok (.ireturn, 1) := by decide +kernel
theorem dX8_prime_18 : decode cX8_prime 18 = .ok (.iload_n 2, 1) := by decide +kernel
theorem dX8_prime_19 : decode cX8_prime 19 = .ok (.tableswitch 71 0 3 #[29, 41, 53, 62], 29) := by decide +kernel
theorem dX8_prime_48 : decode cX8_prime 48 = .ok (.aload_n 0, 1) := by decide +kernel
theorem dX8_prime_49 : decode cX8_prime 49 = .ok (.getfield 10, 3) := by decide +kernel
theorem dX8_prime_52 : decode cX8_prime 52 = .ok (.getfield 221, 3) := by decide +kernel
theorem dX8_prime_55 : decode cX8_prime 55 = .ok (.iload_n 1, 1) := by decide +kernel
theorem dX8_prime_56 : decode cX8_prime 56 = .ok (.invokevirtual 225, 3) := by decide +kernel
theorem dX8_prime_59 : decode cX8_prime 59 = .ok (.ireturn, 1) := by decide +kernel
theorem dX8_prime_60 : decode cX8_prime 60 = .ok (.aload_n 0, 1) := by decide +kernel
theorem dX8_prime_61 : decode cX8_prime 61 = .ok (.getfield 10, 3) := by decide +kernel
theorem dX8_prime_64 : decode cX8_prime 64 = .ok (.getfield 221, 3) := by decide +kernel
theorem dX8_prime_67 : decode cX8_prime 67 = .ok (.iload_n 1, 1) := by decide +kernel
theorem dX8_prime_68 : decode cX8_prime 68 = .ok (.invokevirtual 230, 3) := by decide +kernel
theorem dX8_prime_71 : decode cX8_prime 71 = .ok (.ireturn, 1) := by decide +kernel
theorem dX8_prime_72 : decode cX8_prime 72 = .ok (.aload_n 0, 1) := by decide +kernel
theorem dX8_prime_73 : decode cX8_prime 73 = .ok (.getfield 10, 3) := by decide +kernel
theorem dX8_prime_76 : decode cX8_prime 76 = .ok (.iload_n 1, 1) := by decide +kernel
theorem dX8_prime_77 : decode cX8_prime 77 = .ok (.invokevirtual 233, 3) := by decide +kernel
theorem dX8_prime_80 : decode cX8_prime 80 = .ok (.ireturn, 1) := by decide +kernel
theorem dX8_prime_81 : decode cX8_prime 81 = .ok (.aload_n 0, 1) := by decide +kernel
theorem dX8_prime_82 : decode cX8_prime 82 = .ok (.getfield 10, 3) := by decide +kernel
theorem dX8_prime_85 : decode cX8_prime 85 = .ok (.iload_n 1, 1) := by decide +kernel
theorem dX8_prime_86 : decode cX8_prime 86 = .ok (.invokevirtual 236, 3) := by decide +kernel
theorem dX8_prime_89 : decode cX8_prime 89 = .ok (.ireturn, 1) := by decide +kernel
theorem dX8_prime_90 : decode cX8_prime 90 = .ok (.aload_n 0, 1) := by decide +kernel
theorem dX8_prime_91 : decode cX8_prime 91 = .ok (.getfield 10, 3) := by decide +kernel
theorem dX8_prime_94 : decode cX8_prime 94 = .ok (.iload_n 1, 1) := by decide +kernel
theorem dX8_prime_95 : decode cX8_prime 95 = .ok (.invokevirtual 239, 3) := by decide +kernel
theorem dX8_prime_98 : decode cX8_prime 98 = .ok (.ireturn, 1) := by decide +kernel
set_option maxRecDepth 20000 in
theorem ggX8_count_X6_pairs : GoodIn wsX8_count wsX6_pairs := goodIn_r _ [9, 10, 11, 12, 13, 8, 14, 15, 16, 17, 18, 19, 20, 21, 22, 23, 24, 25, 26, 27, 122, 123, 124, 125, 126, 127] (by decide +kernel) (by decide +kernel)
set_option maxRecDepth 20000 in
theorem gX8_count_X6_pairs : GoodIn wsX8_count (wsV RX8 242 RX6 yX6_pairs wsX6_pairs) := goodIn_app (goodIn_of _ (by decide +kernel)) ggX8_count_X6_pairs
set_option maxRecDepth 20000 in
theorem ggX8_count_X2_find : GoodIn wsX8_count wsX2_find := goodIn_r _ [32, 33, 34, 35, 36, 37, 38, 39, 12, 13, 8, 14, 15, 16, 17, 18, 19, 10, 20, 21, 22, 23, 24, 25, 26, 27, 40, 41, 42, 31, 43, 44, 45, 46, 47, 48, 49, 50, 51, 52, 53, 54, 122, 123, 124, 125, 126, 127, 140, 141] (by decide +kernel) (by decide +kernel)
set_option maxRecDepth 20000 in
theorem gX8_count_X2_find : GoodIn wsX8_count (wsV RX8 147 RX2 yX2_find wsX2_find) := goodIn_app (goodIn_of _ (by decide +kernel)) ggX8_count_X2_find
set_option maxRecDepth 20000 in
theorem ggX8_count_X2_many : GoodIn wsX8_count wsX2_many := goodIn_r _ [58, 33, 40, 41, 42, 31, 43, 34, 44, 45, 37, 46, 140, 141] (by decide +kernel) (by decide +kernel)
set_option maxRecDepth 20000 in
theorem gX8_count_X2_many : GoodIn wsX8_count (wsV RX8 245 RX2 yX2_many wsX2_many) := goodIn_app (goodIn_of _ (by decide +kernel)) ggX8_count_X2_many
set_option maxRecDepth 20000 in
theorem ggX8_count_X2_greatest : GoodIn wsX8_count wsX2_greatest := goodIn_r _ [62, 33, 63, 64, 53, 65, 66, 67, 68, 31, 69, 40, 41, 42, 43, 34, 44, 45, 37, 46, 140, 141] (by decide +kernel) (by decide +kernel)
set_option maxRecDepth 20000 in
theorem gX8_count_X2_greatest : GoodIn wsX8_count (wsV RX8 248 RX2 yX2_greatest wsX2_greatest) := goodIn_app (goodIn_of _ (by decide +kernel)) ggX8_count_X2_greatest
set_option maxRecDepth 20000 in
theorem ggX8_count_X6_isSettled : GoodIn wsX8_count wsX6_isSettled := goodIn_r _ [73, 10, 16, 17, 18, 8, 19, 20, 25, 26, 23, 27, 122, 123, 124, 125, 126, 127] (by decide +kernel) (by decide +kernel)
set_option maxRecDepth 20000 in
theorem gX8_count_X6_isSettled : GoodIn wsX8_count (wsV RX8 251 RX6 yX6_isSettled wsX6_isSettled) := goodIn_app (goodIn_of _ (by decide +kernel)) ggX8_count_X6_isSettled
set_option maxRecDepth 20000 in
theorem ggX8_count_X0_allChips : GoodIn wsX8_count wsX0_allChips := goodIn_r _ [78, 79, 80, 81, 45, 37, 46, 142, 143, 144, 145] (by decide +kernel) (by decide +kernel)
set_option maxRecDepth 20000 in
theorem gX8_count_X0_allChips : GoodIn wsX8_count (wsV RX8 255 RX0 yX0_allChips wsX0_allChips) := goodIn_app (goodIn_of _ (by decide +kernel)) ggX8_count_X0_allChips
set_option maxRecDepth 20000 in
theorem ggX8_count_X0_kindsOfChips : GoodIn wsX8_count wsX0_kindsOfChips := goodIn_r _ [85, 79, 80, 81, 45, 37, 46, 142, 143, 144, 145] (by decide +kernel) (by decide +kernel)
set_option maxRecDepth 20000 in
theorem gX8_count_X0_kindsOfChips : GoodIn wsX8_count (wsV RX8 258 RX0 yX0_kindsOfChips wsX0_kindsOfChips) := goodIn_app (goodIn_of _ (by decide +kernel)) ggX8_count_X0_kindsOfChips
set_option maxRecDepth 20000 in
theorem ggX8_count_X6_differentPrimes : GoodIn wsX8_count wsX6_differentPrimes := goodIn_r _ [89, 10, 16, 17, 18, 8, 19, 20, 90, 91, 23, 92, 93, 26, 27, 94, 95, 96, 97, 25, 98, 99, 100, 101, 102, 103, 104, 105, 106, 122, 123, 124, 125, 126, 127] (by decide +kernel) (by decide +kernel)
set_option maxRecDepth 20000 in
theorem gX8_count_X6_differentPrimes : GoodIn wsX8_count (wsV RX8 264 RX6 yX6_differentPrimes wsX6_differentPrimes) := goodIn_app (goodIn_of _ (by decide +kernel)) ggX8_count_X6_differentPrimes
set_option maxRecDepth 20000 in
theorem ggX8_count_X6_ones : GoodIn wsX8_count wsX6_ones := goodIn_r _ [110, 10, 16, 17, 18, 8, 19, 20, 122, 123, 124, 125, 126, 127] (by decide +kernel) (by decide +kernel)
set_option maxRecDepth 20000 in
theorem gX8_count_X6_ones : GoodIn wsX8_count (wsV RX8 267 RX6 yX6_ones wsX6_ones) := goodIn_app (goodIn_of _ (by decide +kernel)) ggX8_count_X6_ones
theorem dX8_count_0 : decode cX8_count 0 = .ok (.iload_n 1, 1) := by decide +kernel
theorem dX8_count_1 : decode cX8_count 1 = .ok (.tableswitch 219 0 13 #[71, 79, 87, 106, 125, 141, 152, 163, 171, 179, 187, 195, 203, 211], 71) := by decide +kernel
theorem dX8_count_72 : decode cX8_count 72 = .ok (.aload_n 0, 1) := by decide +kernel
theorem dX8_count_73 : decode cX8_count 73 = .ok (.getfield 10, 3) := by decide +kernel
theorem dX8_count_76 : decode cX8_count 76 = .ok (.getfield 97, 3) := by decide +kernel
theorem dX8_count_79 : decode cX8_count 79 = .ok (.ireturn, 1) := by decide +kernel
theorem dX8_count_80 : decode cX8_count 80 = .ok (.aload_n 0, 1) := by decide +kernel
theorem dX8_count_81 : decode cX8_count 81 = .ok (.getfield 10, 3) := by decide +kernel
theorem dX8_count_84 : decode cX8_count 84 = .ok (.invokevirtual 242, 3) := by decide +kernel
theorem dX8_count_87 : decode cX8_count 87 = .ok (.ireturn, 1) := by decide +kernel
theorem dX8_count_88 : decode cX8_count 88 = .ok (.aload_n 0, 1) := by decide +kernel
theorem dX8_count_89 : decode cX8_count 89 = .ok (.getfield 39, 3) := by decide +kernel
theorem dX8_count_92 : decode cX8_count 92 = .ok (.aload_n 0, 1) := by decide +kernel
theorem dX8_count_93 : decode cX8_count 93 = .ok (.getfield 10, 3) := by decide +kernel
theorem dX8_count_96 : decode cX8_count 96 = .ok (.invokevirtual 147, 3) := by decide +kernel
theorem dX8_count_99 : decode cX8_count 99 = .ok (.aload_n 0, 1) := by decide +kernel
theorem dX8_count_100 : decode cX8_count 100 = .ok (.getfield 39, 3) := by decide +kernel
theorem dX8_count_103 : decode cX8_count 103 = .ok (.invokevirtual 245, 3) := by decide +kernel
theorem dX8_count_106 : decode cX8_count 106 = .ok (.ireturn, 1) := by decide +kernel
theorem dX8_count_107 : decode cX8_count 107 = .ok (.aload_n 0, 1) := by decide +kernel
theorem dX8_count_108 : decode cX8_count 108 = .ok (.getfield 39, 3) := by decide +kernel
theorem dX8_count_111 : decode cX8_count 111 = .ok (.aload_n 0, 1) := by decide +kernel
theorem dX8_count_112 : decode cX8_count 112 = .ok (.getfield 10, 3) := by decide +kernel
theorem dX8_count_115 : decode cX8_count 115 = .ok (.invokevirtual 147, 3) := by decide +kernel
theorem dX8_count_118 : decode cX8_count 118 = .ok (.aload_n 0, 1) := by decide +kernel
theorem dX8_count_119 : decode cX8_count 119 = .ok (.getfield 39, 3) := by decide +kernel
theorem dX8_count_122 : decode cX8_count 122 = .ok (.invokevirtual 248, 3) := by decide +kernel
theorem dX8_count_125 : decode cX8_count 125 = .ok (.ireturn, 1) := by decide +kernel
theorem dX8_count_126 : decode cX8_count 126 = .ok (.aload_n 0, 1) := by decide +kernel
theorem dX8_count_127 : decode cX8_count 127 = .ok (.getfield 10, 3) := by decide +kernel
theorem dX8_count_130 : decode cX8_count 130 = .ok (.invokevirtual 251, 3) := by decide +kernel
theorem dX8_count_133 : decode cX8_count 133 = .ok (.ifCond .eq 7, 3) := by decide +kernel
theorem dX8_count_136 : decode cX8_count 136 = .ok (.iconst 1, 1) := by decide +kernel
theorem dX8_count_137 : decode cX8_count 137 = .ok (.goto 4, 3) := by decide +kernel
theorem dX8_count_140 : decode cX8_count 140 = .ok (.iconst 0, 1) := by decide +kernel
theorem dX8_count_141 : decode cX8_count 141 = .ok (.ireturn, 1) := by decide +kernel
theorem dX8_count_142 : decode cX8_count 142 = .ok (.aload_n 0, 1) := by decide +kernel
theorem dX8_count_143 : decode cX8_count 143 = .ok (.getfield 10, 3) := by decide +kernel
theorem dX8_count_146 : decode cX8_count 146 = .ok (.getfield 221, 3) := by decide +kernel
theorem dX8_count_149 : decode cX8_count 149 = .ok (.invokevirtual 255, 3) := by decide +kernel
theorem dX8_count_152 : decode cX8_count 152 = .ok (.ireturn, 1) := by decide +kernel
theorem dX8_count_153 : decode cX8_count 153 = .ok (.aload_n 0, 1) := by decide +kernel
theorem dX8_count_154 : decode cX8_count 154 = .ok (.getfield 10, 3) := by decide +kernel
theorem dX8_count_157 : decode cX8_count 157 = .ok (.getfield 221, 3) := by decide +kernel
theorem dX8_count_160 : decode cX8_count 160 = .ok (.invokevirtual 258, 3) := by decide +kernel
theorem dX8_count_163 : decode cX8_count 163 = .ok (.ireturn, 1) := by decide +kernel
theorem dX8_count_164 : decode cX8_count 164 = .ok (.aload_n 0, 1) := by decide +kernel
theorem dX8_count_165 : decode cX8_count 165 = .ok (.getfield 10, 3) := by decide +kernel
theorem dX8_count_168 : decode cX8_count 168 = .ok (.getfield 261, 3) := by decide +kernel
theorem dX8_count_171 : decode cX8_count 171 = .ok (.ireturn, 1) := by decide +kernel
theorem dX8_count_172 : decode cX8_count 172 = .ok (.aload_n 0, 1) := by decide +kernel
theorem dX8_count_173 : decode cX8_count 173 = .ok (.getfield 10, 3) := by decide +kernel
theorem dX8_count_176 : decode cX8_count 176 = .ok (.invokevirtual 264, 3) := by decide +kernel
theorem dX8_count_179 : decode cX8_count 179 = .ok (.ireturn, 1) := by decide +kernel
theorem dX8_count_180 : decode cX8_count 180 = .ok (.aload_n 0, 1) := by decide +kernel
theorem dX8_count_181 : decode cX8_count 181 = .ok (.getfield 10, 3) := by decide +kernel
theorem dX8_count_184 : decode cX8_count 184 = .ok (.invokevirtual 267, 3) := by decide +kernel
theorem dX8_count_187 : decode cX8_count 187 = .ok (.ireturn, 1) := by decide +kernel
theorem dX8_count_188 : decode cX8_count 188 = .ok (.aload_n 0, 1) := by decide +kernel
theorem dX8_count_189 : decode cX8_count 189 = .ok (.getfield 10, 3) := by decide +kernel
theorem dX8_count_192 : decode cX8_count 192 = .ok (.getfield 270, 3) := by decide +kernel
theorem dX8_count_195 : decode cX8_count 195 = .ok (.ireturn, 1) := by decide +kernel
theorem dX8_count_196 : decode cX8_count 196 = .ok (.aload_n 0, 1) := by decide +kernel
theorem dX8_count_197 : decode cX8_count 197 = .ok (.getfield 10, 3) := by decide +kernel
theorem dX8_count_200 : decode cX8_count 200 = .ok (.getfield 273, 3) := by decide +kernel
theorem dX8_count_203 : decode cX8_count 203 = .ok (.ireturn, 1) := by decide +kernel
theorem dX8_count_204 : decode cX8_count 204 = .ok (.aload_n 0, 1) := by decide +kernel
theorem dX8_count_205 : decode cX8_count 205 = .ok (.getfield 32, 3) := by decide +kernel
theorem dX8_count_208 : decode cX8_count 208 = .ok (.getfield 276, 3) := by decide +kernel
theorem dX8_count_211 : decode cX8_count 211 = .ok (.ireturn, 1) := by decide +kernel
theorem dX8_count_212 : decode cX8_count 212 = .ok (.aload_n 0, 1) := by decide +kernel
theorem dX8_count_213 : decode cX8_count 213 = .ok (.getfield 25, 3) := by decide +kernel
theorem dX8_count_216 : decode cX8_count 216 = .ok (.getfield 277, 3) := by decide +kernel
theorem dX8_count_219 : decode cX8_count 219 = .ok (.ireturn, 1) := by decide +kernel
theorem dX8_count_220 : decode cX8_count 220 = .ok (.iconst (-1), 1) := by decide +kernel
theorem dX8_count_221 : decode cX8_count 221 = .ok (.ireturn, 1) := by decide +kernel
set_option maxRecDepth 20000 in
theorem ggX8_mean_X6_kinOf : GoodIn wsX8_mean wsX6_kinOf := goodIn_r _ [6, 7, 8, 9, 10, 5, 11, 12, 13, 14, 15, 16, 17, 18, 19, 20, 21, 22, 23, 24, 36, 37, 38, 39, 40, 41] (by decide +kernel) (by decide +kernel)
set_option maxRecDepth 20000 in
theorem gX8_mean_X6_kinOf : GoodIn wsX8_mean (wsV RX8 144 RX6 yX6_kinOf wsX6_kinOf) := goodIn_app (goodIn_of _ (by decide +kernel)) ggX8_mean_X6_kinOf
theorem dX8_mean_0 : decode cX8_mean 0 = .ok (.aload_n 0, 1) := by decide +kernel
theorem dX8_mean_1 : decode cX8_mean 1 = .ok (.getfield 10, 3) := by decide +kernel
theorem dX8_mean_4 : decode cX8_mean 4 = .ok (.getfield 97, 3) := by decide +kernel
theorem dX8_mean_7 : decode cX8_mean 7 = .ok (.ifCond .ne 5, 3) := by decide +kernel
theorem dX8_mean_10 : decode cX8_mean 10 = .ok (.dconst 0, 1) := by decide +kernel
theorem dX8_mean_11 : decode cX8_mean 11 = .ok (.dreturn, 1) := by decide +kernel
theorem dX8_mean_12 : decode cX8_mean 12 = .ok (.iconst 0, 1) := by decide +kernel
theorem dX8_mean_13 : decode cX8_mean 13 = .ok (.istore_n 1, 1) := by decide +kernel
theorem dX8_mean_14 : decode cX8_mean 14 = .ok (.iconst 0, 1) := by decide +kernel
theorem dX8_mean_15 : decode cX8_mean 15 = .ok (.istore_n 2, 1) := by decide +kernel
theorem dX8_mean_16 : decode cX8_mean 16 = .ok (.iload_n 2, 1) := by decide +kernel
theorem dX8_mean_17 : decode cX8_mean 17 = .ok (.aload_n 0, 1) := by decide +kernel
theorem dX8_mean_18 : decode cX8_mean 18 = .ok (.getfield 10, 3) := by decide +kernel
theorem dX8_mean_21 : decode cX8_mean 21 = .ok (.getfield 97, 3) := by decide +kernel
theorem dX8_mean_24 : decode cX8_mean 24 = .ok (.if_icmp .ge 20, 3) := by decide +kernel
theorem dX8_mean_27 : decode cX8_mean 27 = .ok (.iload_n 1, 1) := by decide +kernel
theorem dX8_mean_28 : decode cX8_mean 28 = .ok (.aload_n 0, 1) := by decide +kernel
theorem dX8_mean_29 : decode cX8_mean 29 = .ok (.getfield 10, 3) := by decide +kernel
theorem dX8_mean_32 : decode cX8_mean 32 = .ok (.iload_n 2, 1) := by decide +kernel
theorem dX8_mean_33 : decode cX8_mean 33 = .ok (.invokevirtual 144, 3) := by decide +kernel
theorem dX8_mean_36 : decode cX8_mean 36 = .ok (.iadd, 1) := by decide +kernel
theorem dX8_mean_37 : decode cX8_mean 37 = .ok (.istore_n 1, 1) := by decide +kernel
theorem dX8_mean_38 : decode cX8_mean 38 = .ok (.iinc 2 1, 3) := by decide +kernel
theorem dX8_mean_41 : decode cX8_mean 41 = .ok (.goto (-25), 3) := by decide +kernel
theorem dX8_mean_44 : decode cX8_mean 44 = .ok (.iload_n 1, 1) := by decide +kernel
theorem dX8_mean_45 : decode cX8_mean 45 = .ok (.i2d, 1) := by decide +kernel
theorem dX8_mean_46 : decode cX8_mean 46 = .ok (.aload_n 0, 1) := by decide +kernel
theorem dX8_mean_47 : decode cX8_mean 47 = .ok (.getfield 10, 3) := by decide +kernel
theorem dX8_mean_50 : decode cX8_mean 50 = .ok (.getfield 97, 3) := by decide +kernel
theorem dX8_mean_53 : decode cX8_mean 53 = .ok (.i2d, 1) := by decide +kernel
theorem dX8_mean_54 : decode cX8_mean 54 = .ok (.ddiv, 1) := by decide +kernel
theorem dX8_mean_55 : decode cX8_mean 55 = .ok (.dreturn, 1) := by decide +kernel
theorem dJ9_max_7cf53_0 : decode cJ9_max_7cf53 0 = .ok (.iload_n 0, 1) := by decide +kernel
theorem dJ9_max_7cf53_1 : decode cJ9_max_7cf53 1 = .ok (.iload_n 1, 1) := by decide +kernel
theorem dJ9_max_7cf53_2 : decode cJ9_max_7cf53 2 = .ok (.if_icmp .lt 7, 3) := by decide +kernel
theorem dJ9_max_7cf53_5 : decode cJ9_max_7cf53 5 = .ok (.iload_n 0, 1) := by decide +kernel
theorem dJ9_max_7cf53_6 : decode cJ9_max_7cf53 6 = .ok (.goto 4, 3) := by decide +kernel
theorem dJ9_max_7cf53_9 : decode cJ9_max_7cf53 9 = .ok (.iload_n 1, 1) := by decide +kernel
theorem dJ9_max_7cf53_10 : decode cJ9_max_7cf53 10 = .ok (.ireturn, 1) := by decide +kernel
theorem dJ9_min_7cf53_0 : decode cJ9_min_7cf53 0 = .ok (.iload_n 0, 1) := by decide +kernel
theorem dJ9_min_7cf53_1 : decode cJ9_min_7cf53 1 = .ok (.iload_n 1, 1) := by decide +kernel
theorem dJ9_min_7cf53_2 : decode cJ9_min_7cf53 2 = .ok (.if_icmp .gt 7, 3) := by decide +kernel
theorem dJ9_min_7cf53_5 : decode cJ9_min_7cf53 5 = .ok (.iload_n 0, 1) := by decide +kernel
theorem dJ9_min_7cf53_6 : decode cJ9_min_7cf53 6 = .ok (.goto 4, 3) := by decide +kernel
theorem dJ9_min_7cf53_9 : decode cJ9_min_7cf53 9 = .ok (.iload_n 1, 1) := by decide +kernel
theorem dJ9_min_7cf53_10 : decode cJ9_min_7cf53 10 = .ok (.ireturn, 1) := by decide +kernel
theorem dL_cell_0 : decode cL_cell 0 = .ok (.iload_n 1, 1) := by decide +kernel
theorem dL_cell_1 : decode cL_cell 1 = .ok (.aload_n 0, 1) := by decide +kernel
theorem dL_cell_2 : decode cL_cell 2 = .ok (.arraylength, 1) := by decide +kernel
theorem dL_cell_3 : decode cL_cell 3 = .ok (.if_icmp .ge 9, 3) := by decide +kernel
theorem dL_cell_6 : decode cL_cell 6 = .ok (.aload_n 0, 1) := by decide +kernel
theorem dL_cell_7 : decode cL_cell 7 = .ok (.iload_n 1, 1) := by decide +kernel
theorem dL_cell_8 : decode cL_cell 8 = .ok (.iaload, 1) := by decide +kernel
theorem dL_cell_9 : decode cL_cell 9 = .ok (.goto 9, 3) := by decide +kernel
theorem dL_cell_12 : decode cL_cell 12 = .ok (.ldc 7, 2) := by decide +kernel
theorem dL_cell_14 : decode cL_cell 14 = .ok (.iload_n 1, 1) := by decide +kernel
theorem dL_cell_15 : decode cL_cell 15 = .ok (.iconst 3, 1) := by decide +kernel
theorem dL_cell_16 : decode cL_cell 16 = .ok (.iadd, 1) := by decide +kernel
theorem dL_cell_17 : decode cL_cell 17 = .ok (.imul, 1) := by decide +kernel
theorem dL_cell_18 : decode cL_cell 18 = .ok (.ireturn, 1) := by decide +kernel
theorem dL_isPrime_0 : decode cL_isPrime 0 = .ok (.iconst 2, 1) := by decide +kernel
theorem dL_isPrime_1 : decode cL_isPrime 1 = .ok (.istore_n 1, 1) := by decide +kernel
