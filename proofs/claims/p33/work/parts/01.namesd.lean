theorem dX6_shareInRounds_31 : decode cX6_shareInRounds 31 = .ok (.invokevirtual 74, 3) := by decide +kernel
theorem dX6_shareInRounds_34 : decode cX6_shareInRounds 34 = .ok (.ifCond .ge 6, 3) := by decide +kernel
theorem dX6_shareInRounds_37 : decode cX6_shareInRounds 37 = .ok (.bipush (-3), 2) := by decide +kernel
theorem dX6_shareInRounds_39 : decode cX6_shareInRounds 39 = .ok (.ireturn, 1) := by decide +kernel
theorem dX6_shareInRounds_40 : decode cX6_shareInRounds 40 = .ok (.iinc 2 1, 3) := by decide +kernel
theorem dX6_shareInRounds_43 : decode cX6_shareInRounds 43 = .ok (.goto (-24), 3) := by decide +kernel
theorem dX6_shareInRounds_46 : decode cX6_shareInRounds 46 = .ok (.iinc 1 1, 3) := by decide +kernel
theorem dX6_shareInRounds_49 : decode cX6_shareInRounds 49 = .ok (.goto (-47), 3) := by decide +kernel
theorem dX6_shareInRounds_52 : decode cX6_shareInRounds 52 = .ok (.bipush (-3), 2) := by decide +kernel
theorem dX6_shareInRounds_54 : decode cX6_shareInRounds 54 = .ok (.ireturn, 1) := by decide +kernel
set_option maxRecDepth 20000 in
theorem ggX6_isSettled_X6_numberOf : GoodIn wsX6_isSettled wsX6_numberOf := goodIn_r _ [6, 1, 7, 12, 13, 14, 15, 16, 17] (by decide +kernel) (by decide +kernel)
set_option maxRecDepth 20000 in
theorem gX6_isSettled_X6_numberOf : GoodIn wsX6_isSettled (wsV RX6 66 RX6 yX6_numberOf wsX6_numberOf) := goodIn_app (goodIn_of _ (by decide +kernel)) ggX6_isSettled_X6_numberOf
set_option maxRecDepth 20000 in
theorem ggX6_isSettled_X7_divides : GoodIn wsX6_isSettled wsX7_divides := goodIn_r _ [11] (by decide +kernel) (by decide +kernel)
set_option maxRecDepth 20000 in
theorem gX6_isSettled_X7_divides : GoodIn wsX6_isSettled (va_wsS RX6 90 yX7_divides wsX7_divides) := goodIn_app (goodIn_of _ (by decide +kernel)) ggX6_isSettled_X7_divides
theorem dX6_isSettled_0 : decode cX6_isSettled 0 = .ok (.iconst 0, 1) := by decide +kernel
theorem dX6_isSettled_1 : decode cX6_isSettled 1 = .ok (.istore_n 1, 1) := by decide +kernel
theorem dX6_isSettled_2 : decode cX6_isSettled 2 = .ok (.iload_n 1, 1) := by decide +kernel
theorem dX6_isSettled_3 : decode cX6_isSettled 3 = .ok (.aload_n 0, 1) := by decide +kernel
theorem dX6_isSettled_4 : decode cX6_isSettled 4 = .ok (.getfield 26, 3) := by decide +kernel
theorem dX6_isSettled_7 : decode cX6_isSettled 7 = .ok (.iconst 1, 1) := by decide +kernel
theorem dX6_isSettled_8 : decode cX6_isSettled 8 = .ok (.isub, 1) := by decide +kernel
theorem dX6_isSettled_9 : decode cX6_isSettled 9 = .ok (.if_icmp .ge 29, 3) := by decide +kernel
theorem dX6_isSettled_12 : decode cX6_isSettled 12 = .ok (.aload_n 0, 1) := by decide +kernel
theorem dX6_isSettled_13 : decode cX6_isSettled 13 = .ok (.iload_n 1, 1) := by decide +kernel
theorem dX6_isSettled_14 : decode cX6_isSettled 14 = .ok (.invokevirtual 66, 3) := by decide +kernel
theorem dX6_isSettled_17 : decode cX6_isSettled 17 = .ok (.aload_n 0, 1) := by decide +kernel
theorem dX6_isSettled_18 : decode cX6_isSettled 18 = .ok (.iload_n 1, 1) := by decide +kernel
theorem dX6_isSettled_19 : decode cX6_isSettled 19 = .ok (.iconst 1, 1) := by decide +kernel
theorem dX6_isSettled_20 : decode cX6_isSettled 20 = .ok (.iadd, 1) := by decide +kernel
theorem dX6_isSettled_21 : decode cX6_isSettled 21 = .ok (.invokevirtual 66, 3) := by decide +kernel
theorem dX6_isSettled_24 : decode cX6_isSettled 24 = .ok (.invokestatic 90, 3) := by decide +kernel
theorem dX6_isSettled_27 : decode cX6_isSettled 27 = .ok (.ifCond .ne 5, 3) := by decide +kernel
theorem dX6_isSettled_30 : decode cX6_isSettled 30 = .ok (.iconst 0, 1) := by decide +kernel
theorem dX6_isSettled_31 : decode cX6_isSettled 31 = .ok (.ireturn, 1) := by decide +kernel
theorem dX6_isSettled_32 : decode cX6_isSettled 32 = .ok (.iinc 1 1, 3) := by decide +kernel
theorem dX6_isSettled_35 : decode cX6_isSettled 35 = .ok (.goto (-33), 3) := by decide +kernel
theorem dX6_isSettled_38 : decode cX6_isSettled 38 = .ok (.iconst 1, 1) := by decide +kernel
theorem dX6_isSettled_39 : decode cX6_isSettled 39 = .ok (.ireturn, 1) := by decide +kernel
theorem dX6_changeSetting_0 : decode cX6_changeSetting 0 = .ok (.iload_n 1, 1) := by decide +kernel
theorem dX6_changeSetting_1 : decode cX6_changeSetting 1 = .ok (.ifCond .ne 24, 3) := by decide +kernel
theorem dX6_changeSetting_4 : decode cX6_changeSetting 4 = .ok (.iload_n 2, 1) := by decide +kernel
theorem dX6_changeSetting_5 : decode cX6_changeSetting 5 = .ok (.ifCond .lt 20, 3) := by decide +kernel
theorem dX6_changeSetting_8 : decode cX6_changeSetting 8 = .ok (.iload_n 2, 1) := by decide +kernel
theorem dX6_changeSetting_9 : decode cX6_changeSetting 9 = .ok (.iconst 2, 1) := by decide +kernel
theorem dX6_changeSetting_10 : decode cX6_changeSetting 10 = .ok (.if_icmp .gt 15, 3) := by decide +kernel
theorem dX6_changeSetting_13 : decode cX6_changeSetting 13 = .ok (.aload_n 0, 1) := by decide +kernel
theorem dX6_changeSetting_14 : decode cX6_changeSetting 14 = .ok (.getfield 29, 3) := by decide +kernel
theorem dX6_changeSetting_17 : decode cX6_changeSetting 17 = .ok (.istore_n 3, 1) := by decide +kernel
theorem dX6_changeSetting_18 : decode cX6_changeSetting 18 = .ok (.aload_n 0, 1) := by decide +kernel
theorem dX6_changeSetting_19 : decode cX6_changeSetting 19 = .ok (.iload_n 2, 1) := by decide +kernel
theorem dX6_changeSetting_20 : decode cX6_changeSetting 20 = .ok (.putfield 29, 3) := by decide +kernel
theorem dX6_changeSetting_23 : decode cX6_changeSetting 23 = .ok (.iload_n 3, 1) := by decide +kernel
theorem dX6_changeSetting_24 : decode cX6_changeSetting 24 = .ok (.ireturn, 1) := by decide +kernel
theorem dX6_changeSetting_25 : decode cX6_changeSetting 25 = .ok (.iload_n 1, 1) := by decide +kernel
theorem dX6_changeSetting_26 : decode cX6_changeSetting 26 = .ok (.iconst 1, 1) := by decide +kernel
theorem dX6_changeSetting_27 : decode cX6_changeSetting 27 = .ok (.if_icmp .ne 25, 3) := by decide +kernel
theorem dX6_changeSetting_30 : decode cX6_changeSetting 30 = .ok (.iload_n 2, 1) := by decide +kernel
theorem dX6_changeSetting_31 : decode cX6_changeSetting 31 = .ok (.iconst 1, 1) := by decide +kernel
theorem dX6_changeSetting_32 : decode cX6_changeSetting 32 = .ok (.if_icmp .lt 20, 3) := by decide +kernel
theorem dX6_changeSetting_35 : decode cX6_changeSetting 35 = .ok (.iload_n 2, 1) := by decide +kernel
theorem dX6_changeSetting_36 : decode cX6_changeSetting 36 = .ok (.iconst 4, 1) := by decide +kernel
theorem dX6_changeSetting_37 : decode cX6_changeSetting 37 = .ok (.if_icmp .gt 15, 3) := by decide +kernel
theorem dX6_changeSetting_40 : decode cX6_changeSetting 40 = .ok (.aload_n 0, 1) := by decide +kernel
theorem dX6_changeSetting_41 : decode cX6_changeSetting 41 = .ok (.getfield 22, 3) := by decide +kernel
theorem dX6_changeSetting_44 : decode cX6_changeSetting 44 = .ok (.istore_n 3, 1) := by decide +kernel
theorem dX6_changeSetting_45 : decode cX6_changeSetting 45 = .ok (.aload_n 0, 1) := by decide +kernel
theorem dX6_changeSetting_46 : decode cX6_changeSetting 46 = .ok (.iload_n 2, 1) := by decide +kernel
theorem dX6_changeSetting_47 : decode cX6_changeSetting 47 = .ok (.putfield 22, 3) := by decide +kernel
theorem dX6_changeSetting_50 : decode cX6_changeSetting 50 = .ok (.iload_n 3, 1) := by decide +kernel
theorem dX6_changeSetting_51 : decode cX6_changeSetting 51 = .ok (.ireturn, 1) := by decide +kernel
theorem dX6_changeSetting_52 : decode cX6_changeSetting 52 = .ok (.iconst (-1), 1) := by decide +kernel
theorem dX6_changeSetting_53 : decode cX6_changeSetting 53 = .ok (.ireturn, 1) := by decide +kernel
set_option maxRecDepth 20000 in
theorem ggX6_isKin_X6_numberOf : GoodIn wsX6_isKin wsX6_numberOf := goodIn_r _ [6, 7, 8, 16, 17, 18, 19, 20, 21] (by decide +kernel) (by decide +kernel)
set_option maxRecDepth 20000 in
theorem gX6_isKin_X6_numberOf : GoodIn wsX6_isKin (wsV RX6 66 RX6 yX6_numberOf wsX6_numberOf) := goodIn_app (goodIn_of _ (by decide +kernel)) ggX6_isKin_X6_numberOf
set_option maxRecDepth 20000 in
theorem ggX6_isKin_X7_divisorByRemainders : GoodIn wsX6_isKin wsX7_divisorByRemainders := goodIn_r _ [12] (by decide +kernel) (by decide +kernel)
set_option maxRecDepth 20000 in
theorem gX6_isKin_X7_divisorByRemainders : GoodIn wsX6_isKin (va_wsS RX6 87 yX7_divisorByRemainders wsX7_divisorByRemainders) := goodIn_app (goodIn_of _ (by decide +kernel)) ggX6_isKin_X7_divisorByRemainders
set_option maxRecDepth 20000 in
theorem ggX6_isKin_X7_divides : GoodIn wsX6_isKin wsX7_divides := goodIn_r _ [15] (by decide +kernel) (by decide +kernel)
set_option maxRecDepth 20000 in
theorem gX6_isKin_X7_divides : GoodIn wsX6_isKin (va_wsS RX6 90 yX7_divides wsX7_divides) := goodIn_app (goodIn_of _ (by decide +kernel)) ggX6_isKin_X7_divides
theorem dX6_isKin_0 : decode cX6_isKin 0 = .ok (.iload_n 1, 1) := by decide +kernel
theorem dX6_isKin_1 : decode cX6_isKin 1 = .ok (.iload_n 2, 1) := by decide +kernel
theorem dX6_isKin_2 : decode cX6_isKin 2 = .ok (.if_icmp .ne 5, 3) := by decide +kernel
theorem dX6_isKin_5 : decode cX6_isKin 5 = .ok (.iconst 0, 1) := by decide +kernel
theorem dX6_isKin_6 : decode cX6_isKin 6 = .ok (.ireturn, 1) := by decide +kernel
theorem dX6_isKin_7 : decode cX6_isKin 7 = .ok (.aload_n 0, 1) := by decide +kernel
theorem dX6_isKin_8 : decode cX6_isKin 8 = .ok (.iload_n 1, 1) := by decide +kernel
theorem dX6_isKin_9 : decode cX6_isKin 9 = .ok (.iload_n 2, 1) := by decide +kernel
theorem dX6_isKin_10 : decode cX6_isKin 10 = .ok (.if_icmp .ge 7, 3) := by decide +kernel
theorem dX6_isKin_13 : decode cX6_isKin 13 = .ok (.iload_n 1, 1) := by decide +kernel
theorem dX6_isKin_14 : decode cX6_isKin 14 = .ok (.goto 4, 3) := by decide +kernel
theorem dX6_isKin_17 : decode cX6_isKin 17 = .ok (.iload_n 2, 1) := by decide +kernel
theorem dX6_isKin_18 : decode cX6_isKin 18 = .ok (.invokevirtual 66, 3) := by decide +kernel
theorem dX6_isKin_21 : decode cX6_isKin 21 = .ok (.istore_n 3, 1) := by decide +kernel
theorem dX6_isKin_22 : decode cX6_isKin 22 = .ok (.aload_n 0, 1) := by decide +kernel
theorem dX6_isKin_23 : decode cX6_isKin 23 = .ok (.iload_n 1, 1) := by decide +kernel
theorem dX6_isKin_24 : decode cX6_isKin 24 = .ok (.iload_n 2, 1) := by decide +kernel
theorem dX6_isKin_25 : decode cX6_isKin 25 = .ok (.if_icmp .ge 7, 3) := by decide +kernel
theorem dX6_isKin_28 : decode cX6_isKin 28 = .ok (.iload_n 2, 1) := by decide +kernel
theorem dX6_isKin_29 : decode cX6_isKin 29 = .ok (.goto 4, 3) := by decide +kernel
theorem dX6_isKin_32 : decode cX6_isKin 32 = .ok (.iload_n 1, 1) := by decide +kernel
theorem dX6_isKin_33 : decode cX6_isKin 33 = .ok (.invokevirtual 66, 3) := by decide +kernel
theorem dX6_isKin_36 : decode cX6_isKin 36 = .ok (.istore 4, 2) := by decide +kernel
theorem dX6_isKin_38 : decode cX6_isKin 38 = .ok (.aload_n 0, 1) := by decide +kernel
theorem dX6_isKin_39 : decode cX6_isKin 39 = .ok (.getfield 29, 3) := by decide +kernel
theorem dX6_isKin_42 : decode cX6_isKin 42 = .ok (.lookupswitch 66 #[(0, 26), (1, 42)], 26) := by decide +kernel
theorem dX6_isKin_68 : decode cX6_isKin 68 = .ok (.iload_n 3, 1) := by decide +kernel
theorem dX6_isKin_69 : decode cX6_isKin 69 = .ok (.iload 4, 2) := by decide +kernel
theorem dX6_isKin_71 : decode cX6_isKin 71 = .ok (.invokestatic 87, 3) := by decide +kernel
theorem dX6_isKin_74 : decode cX6_isKin 74 = .ok (.iconst 1, 1) := by decide +kernel
theorem dX6_isKin_75 : decode cX6_isKin 75 = .ok (.if_icmp .le 7, 3) := by decide +kernel
theorem dX6_isKin_78 : decode cX6_isKin 78 = .ok (.iconst 1, 1) := by decide +kernel
theorem dX6_isKin_79 : decode cX6_isKin 79 = .ok (.goto 4, 3) := by decide +kernel
theorem dX6_isKin_82 : decode cX6_isKin 82 = .ok (.iconst 0, 1) := by decide +kernel
theorem dX6_isKin_83 : decode cX6_isKin 83 = .ok (.ireturn, 1) := by decide +kernel
theorem dX6_isKin_84 : decode cX6_isKin 84 = .ok (.iload_n 3, 1) := by decide +kernel
theorem dX6_isKin_85 : decode cX6_isKin 85 = .ok (.iload 4, 2) := by decide +kernel
theorem dX6_isKin_87 : decode cX6_isKin 87 = .ok (.invokestatic 90, 3) := by decide +kernel
theorem dX6_isKin_90 : decode cX6_isKin 90 = .ok (.ifCond .ne 12, 3) := by decide +kernel
theorem dX6_isKin_93 : decode cX6_isKin 93 = .ok (.iload 4, 2) := by decide +kernel
theorem dX6_isKin_95 : decode cX6_isKin 95 = .ok (.iload_n 3, 1) := by decide +kernel
theorem dX6_isKin_96 : decode cX6_isKin 96 = .ok (.invokestatic 90, 3) := by decide +kernel
theorem dX6_isKin_99 : decode cX6_isKin 99 = .ok (.ifCond .eq 7, 3) := by decide +kernel
theorem dX6_isKin_102 : decode cX6_isKin 102 = .ok (.iconst 1, 1) := by decide +kernel
theorem dX6_isKin_103 : decode cX6_isKin 103 = .ok (.goto 4, 3) := by decide +kernel
theorem dX6_isKin_106 : decode cX6_isKin 106 = .ok (.iconst 0, 1) := by decide +kernel
theorem dX6_isKin_107 : decode cX6_isKin 107 = .ok (.ireturn, 1) := by decide +kernel
theorem dX6_isKin_108 : decode cX6_isKin 108 = .ok (.iload_n 3, 1) := by decide +kernel
theorem dX6_isKin_109 : decode cX6_isKin 109 = .ok (.iload 4, 2) := by decide +kernel
theorem dX6_isKin_111 : decode cX6_isKin 111 = .ok (.invokestatic 90, 3) := by decide +kernel
theorem dX6_isKin_114 : decode cX6_isKin 114 = .ok (.ireturn, 1) := by decide +kernel
set_option maxRecDepth 20000 in
theorem ggX6_kinOf_X6_isKin : GoodIn wsX6_kinOf wsX6_isKin := goodIn_r _ [6, 7, 8, 9, 10, 5, 11, 1, 12, 13, 14, 15, 16, 17, 18, 19, 20, 21, 22, 23, 24, 25] (by decide +kernel) (by decide +kernel)
set_option maxRecDepth 20000 in
theorem gX6_kinOf_X6_isKin : GoodIn wsX6_kinOf (wsV RX6 104 RX6 yX6_isKin wsX6_isKin) := goodIn_app (goodIn_of _ (by decide +kernel)) ggX6_kinOf_X6_isKin
theorem dX6_kinOf_0 : decode cX6_kinOf 0 = .ok (.iconst 0, 1) := by decide +kernel
theorem dX6_kinOf_1 : decode cX6_kinOf 1 = .ok (.istore_n 2, 1) := by decide +kernel
theorem dX6_kinOf_2 : decode cX6_kinOf 2 = .ok (.iconst 0, 1) := by decide +kernel
theorem dX6_kinOf_3 : decode cX6_kinOf 3 = .ok (.istore_n 3, 1) := by decide +kernel
theorem dX6_kinOf_4 : decode cX6_kinOf 4 = .ok (.iload_n 3, 1) := by decide +kernel
theorem dX6_kinOf_5 : decode cX6_kinOf 5 = .ok (.aload_n 0, 1) := by decide +kernel
theorem dX6_kinOf_6 : decode cX6_kinOf 6 = .ok (.getfield 26, 3) := by decide +kernel
theorem dX6_kinOf_9 : decode cX6_kinOf 9 = .ok (.if_icmp .ge 21, 3) := by decide +kernel
theorem dX6_kinOf_12 : decode cX6_kinOf 12 = .ok (.aload_n 0, 1) := by decide +kernel
theorem dX6_kinOf_13 : decode cX6_kinOf 13 = .ok (.iload_n 1, 1) := by decide +kernel
theorem dX6_kinOf_14 : decode cX6_kinOf 14 = .ok (.iload_n 3, 1) := by decide +kernel
theorem dX6_kinOf_15 : decode cX6_kinOf 15 = .ok (.invokevirtual 104, 3) := by decide +kernel
theorem dX6_kinOf_18 : decode cX6_kinOf 18 = .ok (.ifCond .eq 6, 3) := by decide +kernel
theorem dX6_kinOf_21 : decode cX6_kinOf 21 = .ok (.iinc 2 1, 3) := by decide +kernel
theorem dX6_kinOf_24 : decode cX6_kinOf 24 = .ok (.iinc 3 1, 3) := by decide +kernel
theorem dX6_kinOf_27 : decode cX6_kinOf 27 = .ok (.goto (-23), 3) := by decide +kernel
theorem dX6_kinOf_30 : decode cX6_kinOf 30 = .ok (.iload_n 2, 1) := by decide +kernel
theorem dX6_kinOf_31 : decode cX6_kinOf 31 = .ok (.ireturn, 1) := by decide +kernel
set_option maxRecDepth 20000 in
theorem ggX6_pairs_X6_isKin : GoodIn wsX6_pairs wsX6_isKin := goodIn_r _ [6, 7, 8, 9, 10, 5, 11, 1, 12, 13, 14, 15, 16, 17, 18, 19, 20, 21, 22, 23, 24, 25] (by decide +kernel) (by decide +kernel)
set_option maxRecDepth 20000 in
theorem gX6_pairs_X6_isKin : GoodIn wsX6_pairs (wsV RX6 104 RX6 yX6_isKin wsX6_isKin) := goodIn_app (goodIn_of _ (by decide +kernel)) ggX6_pairs_X6_isKin
theorem dX6_pairs_0 : decode cX6_pairs 0 = .ok (.iconst 0, 1) := by decide +kernel
theorem dX6_pairs_1 : decode cX6_pairs 1 = .ok (.istore_n 1, 1) := by decide +kernel
theorem dX6_pairs_2 : decode cX6_pairs 2 = .ok (.iconst 1, 1) := by decide +kernel
theorem dX6_pairs_3 : decode cX6_pairs 3 = .ok (.istore_n 2, 1) := by decide +kernel
theorem dX6_pairs_4 : decode cX6_pairs 4 = .ok (.iload_n 2, 1) := by decide +kernel
theorem dX6_pairs_5 : decode cX6_pairs 5 = .ok (.aload_n 0, 1) := by decide +kernel
theorem dX6_pairs_6 : decode cX6_pairs 6 = .ok (.getfield 26, 3) := by decide +kernel
theorem dX6_pairs_9 : decode cX6_pairs 9 = .ok (.if_icmp .ge 34, 3) := by decide +kernel
theorem dX6_pairs_12 : decode cX6_pairs 12 = .ok (.iconst 0, 1) := by decide +kernel
theorem dX6_pairs_13 : decode cX6_pairs 13 = .ok (.istore_n 3, 1) := by decide +kernel
theorem dX6_pairs_14 : decode cX6_pairs 14 = .ok (.iload_n 3, 1) := by decide +kernel
theorem dX6_pairs_15 : decode cX6_pairs 15 = .ok (.iload_n 2, 1) := by decide +kernel
theorem dX6_pairs_16 : decode cX6_pairs 16 = .ok (.if_icmp .ge 21, 3) := by decide +kernel
theorem dX6_pairs_19 : decode cX6_pairs 19 = .ok (.aload_n 0, 1) := by decide +kernel
theorem dX6_pairs_20 : decode cX6_pairs 20 = .ok (.iload_n 3, 1) := by decide +kernel
theorem dX6_pairs_21 : decode cX6_pairs 21 = .ok (.iload_n 2, 1) := by decide +kernel
theorem dX6_pairs_22 : decode cX6_pairs 22 = .ok (.invokevirtual 104, 3) := by decide +kernel
theorem dX6_pairs_25 : decode cX6_pairs 25 = .ok (.ifCond .eq 6, 3) := by decide +kernel
theorem dX6_pairs_28 : decode cX6_pairs 28 = .ok (.iinc 1 1, 3) := by decide +kernel
theorem dX6_pairs_31 : decode cX6_pairs 31 = .ok (.iinc 3 1, 3) := by decide +kernel
theorem dX6_pairs_34 : decode cX6_pairs 34 = .ok (.goto (-20), 3) := by decide +kernel
theorem dX6_pairs_37 : decode cX6_pairs 37 = .ok (.iinc 2 1, 3) := by decide +kernel
theorem dX6_pairs_40 : decode cX6_pairs 40 = .ok (.goto (-36), 3) := by decide +kernel
theorem dX6_pairs_43 : decode cX6_pairs 43 = .ok (.iload_n 1, 1) := by decide +kernel
theorem dX6_pairs_44 : decode cX6_pairs 44 = .ok (.ireturn, 1) := by decide +kernel
set_option maxRecDepth 20000 in
theorem ggX6_obstacle_X6_isKin : GoodIn wsX6_obstacle wsX6_isKin := goodIn_r _ [6, 7, 8, 9, 10, 5, 11, 12, 13, 14, 15, 16, 17, 18, 19, 20, 21, 22, 23, 24, 25, 26] (by decide +kernel) (by decide +kernel)
set_option maxRecDepth 20000 in
theorem gX6_obstacle_X6_isKin : GoodIn wsX6_obstacle (wsV RX6 104 RX6 yX6_isKin wsX6_isKin) := goodIn_app (goodIn_of _ (by decide +kernel)) ggX6_obstacle_X6_isKin
theorem dX6_obstacle_0 : decode cX6_obstacle 0 = .ok (.iload_n 2, 1) := by decide +kernel
theorem dX6_obstacle_1 : decode cX6_obstacle 1 = .ok (.iload_n 1, 1) := by decide +kernel
theorem dX6_obstacle_2 : decode cX6_obstacle 2 = .ok (.if_icmp .gt 5, 3) := by decide +kernel
theorem dX6_obstacle_5 : decode cX6_obstacle 5 = .ok (.iconst 1, 1) := by decide +kernel
theorem dX6_obstacle_6 : decode cX6_obstacle 6 = .ok (.ireturn, 1) := by decide +kernel
theorem dX6_obstacle_7 : decode cX6_obstacle 7 = .ok (.iload_n 2, 1) := by decide +kernel
theorem dX6_obstacle_8 : decode cX6_obstacle 8 = .ok (.iload_n 1, 1) := by decide +kernel
theorem dX6_obstacle_9 : decode cX6_obstacle 9 = .ok (.isub, 1) := by decide +kernel
theorem dX6_obstacle_10 : decode cX6_obstacle 10 = .ok (.aload_n 0, 1) := by decide +kernel
theorem dX6_obstacle_11 : decode cX6_obstacle 11 = .ok (.getfield 22, 3) := by decide +kernel
theorem dX6_obstacle_14 : decode cX6_obstacle 14 = .ok (.if_icmp .le 5, 3) := by decide +kernel
theorem dX6_obstacle_17 : decode cX6_obstacle 17 = .ok (.iconst 2, 1) := by decide +kernel
theorem dX6_obstacle_18 : decode cX6_obstacle 18 = .ok (.ireturn, 1) := by decide +kernel
theorem dX6_obstacle_19 : decode cX6_obstacle 19 = .ok (.aload_n 0, 1) := by decide +kernel
theorem dX6_obstacle_20 : decode cX6_obstacle 20 = .ok (.iload_n 1, 1) := by decide +kernel
theorem dX6_obstacle_21 : decode cX6_obstacle 21 = .ok (.iload_n 2, 1) := by decide +kernel
theorem dX6_obstacle_22 : decode cX6_obstacle 22 = .ok (.invokevirtual 104, 3) := by decide +kernel
theorem dX6_obstacle_25 : decode cX6_obstacle 25 = .ok (.ifCond .eq 7, 3) := by decide +kernel
theorem dX6_obstacle_28 : decode cX6_obstacle 28 = .ok (.iconst 0, 1) := by decide +kernel
theorem dX6_obstacle_29 : decode cX6_obstacle 29 = .ok (.goto 4, 3) := by decide +kernel
theorem dX6_obstacle_32 : decode cX6_obstacle 32 = .ok (.iconst 3, 1) := by decide +kernel
theorem dX6_obstacle_33 : decode cX6_obstacle 33 = .ok (.ireturn, 1) := by decide +kernel
set_option maxRecDepth 20000 in
theorem ggX6_leads_X6_obstacle : GoodIn wsX6_leads wsX6_obstacle := goodIn_r _ [5, 6, 7, 8, 9, 4, 10, 11, 12, 13, 14, 15, 16, 17, 18, 19, 20, 21, 22, 23, 24, 25, 26, 27, 28, 29, 30] (by decide +kernel) (by decide +kernel)
set_option maxRecDepth 20000 in
theorem gX6_leads_X6_obstacle : GoodIn wsX6_leads (wsV RX6 107 RX6 yX6_obstacle wsX6_obstacle) := goodIn_app (goodIn_of _ (by decide +kernel)) ggX6_leads_X6_obstacle
theorem dX6_leads_0 : decode cX6_leads 0 = .ok (.aload_n 0, 1) := by decide +kernel
theorem dX6_leads_1 : decode cX6_leads 1 = .ok (.iload_n 1, 1) := by decide +kernel
theorem dX6_leads_2 : decode cX6_leads 2 = .ok (.iload_n 2, 1) := by decide +kernel
theorem dX6_leads_3 : decode cX6_leads 3 = .ok (.invokevirtual 107, 3) := by decide +kernel
theorem dX6_leads_6 : decode cX6_leads 6 = .ok (.ifCond .ne 7, 3) := by decide +kernel
theorem dX6_leads_9 : decode cX6_leads 9 = .ok (.iconst 1, 1) := by decide +kernel
theorem dX6_leads_10 : decode cX6_leads 10 = .ok (.goto 4, 3) := by decide +kernel
theorem dX6_leads_13 : decode cX6_leads 13 = .ok (.iconst 0, 1) := by decide +kernel
theorem dX6_leads_14 : decode cX6_leads 14 = .ok (.ireturn, 1) := by decide +kernel
set_option maxRecDepth 20000 in
theorem ggX6_leadsFrom_X6_leads : GoodIn wsX6_leadsFrom wsX6_leads := goodIn_r _ [6, 7, 8, 9, 5, 10, 11, 12, 13, 14, 15, 16, 17, 18, 19, 20, 1, 21, 22, 23, 24, 25, 26, 27, 28, 29, 30, 31, 32, 33, 34] (by decide +kernel) (by decide +kernel)
set_option maxRecDepth 20000 in
theorem gX6_leadsFrom_X6_leads : GoodIn wsX6_leadsFrom (wsV RX6 110 RX6 yX6_leads wsX6_leads) := goodIn_app (goodIn_of _ (by decide +kernel)) ggX6_leadsFrom_X6_leads
theorem dX6_leadsFrom_0 : decode cX6_leadsFrom 0 = .ok (.iconst 0, 1) := by decide +kernel
theorem dX6_leadsFrom_1 : decode cX6_leadsFrom 1 = .ok (.istore_n 2, 1) := by decide +kernel
theorem dX6_leadsFrom_2 : decode cX6_leadsFrom 2 = .ok (.iload_n 1, 1) := by decide +kernel
theorem dX6_leadsFrom_3 : decode cX6_leadsFrom 3 = .ok (.iconst 1, 1) := by decide +kernel
theorem dX6_leadsFrom_4 : decode cX6_leadsFrom 4 = .ok (.iadd, 1) := by decide +kernel
theorem dX6_leadsFrom_5 : decode cX6_leadsFrom 5 = .ok (.istore_n 3, 1) := by decide +kernel
theorem dX6_leadsFrom_6 : decode cX6_leadsFrom 6 = .ok (.iload_n 3, 1) := by decide +kernel
theorem dX6_leadsFrom_7 : decode cX6_leadsFrom 7 = .ok (.aload_n 0, 1) := by decide +kernel
theorem dX6_leadsFrom_8 : decode cX6_leadsFrom 8 = .ok (.getfield 26, 3) := by decide +kernel
theorem dX6_leadsFrom_11 : decode cX6_leadsFrom 11 = .ok (.if_icmp .ge 21, 3) := by decide +kernel
theorem dX6_leadsFrom_14 : decode cX6_leadsFrom 14 = .ok (.aload_n 0, 1) := by decide +kernel
theorem dX6_leadsFrom_15 : decode cX6_leadsFrom 15 = .ok (.iload_n 1, 1) := by decide +kernel
theorem dX6_leadsFrom_16 : decode cX6_leadsFrom 16 = .ok (.iload_n 3, 1) := by decide +kernel
theorem dX6_leadsFrom_17 : decode cX6_leadsFrom 17 = .ok (.invokevirtual 110, 3) := by decide +kernel
theorem dX6_leadsFrom_20 : decode cX6_leadsFrom 20 = .ok (.ifCond .eq 6, 3) := by decide +kernel
theorem dX6_leadsFrom_23 : decode cX6_leadsFrom 23 = .ok (.iinc 2 1, 3) := by decide +kernel
theorem dX6_leadsFrom_26 : decode cX6_leadsFrom 26 = .ok (.iinc 3 1, 3) := by decide +kernel
theorem dX6_leadsFrom_29 : decode cX6_leadsFrom 29 = .ok (.goto (-23), 3) := by decide +kernel
theorem dX6_leadsFrom_32 : decode cX6_leadsFrom 32 = .ok (.iload_n 2, 1) := by decide +kernel
theorem dX6_leadsFrom_33 : decode cX6_leadsFrom 33 = .ok (.ireturn, 1) := by decide +kernel
set_option maxRecDepth 20000 in
theorem ggX6_sumOfExponents_X6_numberOf : GoodIn wsX6_sumOfExponents wsX6_numberOf := goodIn_r _ [6, 1, 7, 18, 19, 20, 21, 22, 23] (by decide +kernel) (by decide +kernel)
set_option maxRecDepth 20000 in
theorem gX6_sumOfExponents_X6_numberOf : GoodIn wsX6_sumOfExponents (wsV RX6 66 RX6 yX6_numberOf wsX6_numberOf) := goodIn_app (goodIn_of _ (by decide +kernel)) ggX6_sumOfExponents_X6_numberOf
set_option maxRecDepth 20000 in
theorem ggX6_sumOfExponents_X7_exponent : GoodIn wsX6_sumOfExponents wsX7_exponent := goodIn_r _ [11, 12, 13, 10, 14, 15, 16, 17] (by decide +kernel) (by decide +kernel)
set_option maxRecDepth 20000 in
theorem gX6_sumOfExponents_X7_exponent : GoodIn wsX6_sumOfExponents (va_wsS RX6 113 yX7_exponent wsX7_exponent) := goodIn_app (goodIn_of _ (by decide +kernel)) ggX6_sumOfExponents_X7_exponent
theorem dX6_sumOfExponents_0 : decode cX6_sumOfExponents 0 = .ok (.iconst 0, 1) := by decide +kernel
theorem dX6_sumOfExponents_1 : decode cX6_sumOfExponents 1 = .ok (.istore_n 2, 1) := by decide +kernel
theorem dX6_sumOfExponents_2 : decode cX6_sumOfExponents 2 = .ok (.iconst 0, 1) := by decide +kernel
theorem dX6_sumOfExponents_3 : decode cX6_sumOfExponents 3 = .ok (.istore_n 3, 1) := by decide +kernel
theorem dX6_sumOfExponents_4 : decode cX6_sumOfExponents 4 = .ok (.iload_n 3, 1) := by decide +kernel
theorem dX6_sumOfExponents_5 : decode cX6_sumOfExponents 5 = .ok (.aload_n 0, 1) := by decide +kernel
theorem dX6_sumOfExponents_6 : decode cX6_sumOfExponents 6 = .ok (.getfield 26, 3) := by decide +kernel
theorem dX6_sumOfExponents_9 : decode cX6_sumOfExponents 9 = .ok (.if_icmp .ge 21, 3) := by decide +kernel
theorem dX6_sumOfExponents_12 : decode cX6_sumOfExponents 12 = .ok (.iload_n 2, 1) := by decide +kernel
theorem dX6_sumOfExponents_13 : decode cX6_sumOfExponents 13 = .ok (.aload_n 0, 1) := by decide +kernel
theorem dX6_sumOfExponents_14 : decode cX6_sumOfExponents 14 = .ok (.iload_n 3, 1) := by decide +kernel
theorem dX6_sumOfExponents_15 : decode cX6_sumOfExponents 15 = .ok (.invokevirtual 66, 3) := by decide +kernel
theorem dX6_sumOfExponents_18 : decode cX6_sumOfExponents 18 = .ok (.iload_n 1, 1) := by decide +kernel
theorem dX6_sumOfExponents_19 : decode cX6_sumOfExponents 19 = .ok (.invokestatic 113, 3) := by decide +kernel
theorem dX6_sumOfExponents_22 : decode cX6_sumOfExponents 22 = .ok (.iadd, 1) := by decide +kernel
theorem dX6_sumOfExponents_23 : decode cX6_sumOfExponents 23 = .ok (.istore_n 2, 1) := by decide +kernel
theorem dX6_sumOfExponents_24 : decode cX6_sumOfExponents 24 = .ok (.iinc 3 1, 3) := by decide +kernel
theorem dX6_sumOfExponents_27 : decode cX6_sumOfExponents 27 = .ok (.goto (-23), 3) := by decide +kernel
theorem dX6_sumOfExponents_30 : decode cX6_sumOfExponents 30 = .ok (.iload_n 2, 1) := by decide +kernel
theorem dX6_sumOfExponents_31 : decode cX6_sumOfExponents 31 = .ok (.ireturn, 1) := by decide +kernel
set_option maxRecDepth 20000 in
theorem ggX6_greatestExponent_X6_numberOf : GoodIn wsX6_greatestExponent wsX6_numberOf := goodIn_r _ [10, 1, 11, 22, 23, 24, 25, 26, 27] (by decide +kernel) (by decide +kernel)
set_option maxRecDepth 20000 in
theorem gX6_greatestExponent_X6_numberOf : GoodIn wsX6_greatestExponent (wsV RX6 66 RX6 yX6_numberOf wsX6_numberOf) := goodIn_app (goodIn_of _ (by decide +kernel)) ggX6_greatestExponent_X6_numberOf
set_option maxRecDepth 20000 in
theorem ggX6_greatestExponent_X7_exponent : GoodIn wsX6_greatestExponent wsX7_exponent := goodIn_r _ [15, 16, 17, 14, 18, 19, 20, 21] (by decide +kernel) (by decide +kernel)
set_option maxRecDepth 20000 in
theorem gX6_greatestExponent_X7_exponent : GoodIn wsX6_greatestExponent (va_wsS RX6 113 yX7_exponent wsX7_exponent) := goodIn_app (goodIn_of _ (by decide +kernel)) ggX6_greatestExponent_X7_exponent
theorem dX6_greatestExponent_0 : decode cX6_greatestExponent 0 = .ok (.iconst 0, 1) := by decide +kernel
theorem dX6_greatestExponent_1 : decode cX6_greatestExponent 1 = .ok (.istore_n 2, 1) := by decide +kernel
theorem dX6_greatestExponent_2 : decode cX6_greatestExponent 2 = .ok (.iconst 0, 1) := by decide +kernel
theorem dX6_greatestExponent_3 : decode cX6_greatestExponent 3 = .ok (.istore_n 3, 1) := by decide +kernel
theorem dX6_greatestExponent_4 : decode cX6_greatestExponent 4 = .ok (.iload_n 3, 1) := by decide +kernel
theorem dX6_greatestExponent_5 : decode cX6_greatestExponent 5 = .ok (.aload_n 0, 1) := by decide +kernel
theorem dX6_greatestExponent_6 : decode cX6_greatestExponent 6 = .ok (.getfield 26, 3) := by decide +kernel
theorem dX6_greatestExponent_9 : decode cX6_greatestExponent 9 = .ok (.if_icmp .ge 23, 3) := by decide +kernel
theorem dX6_greatestExponent_12 : decode cX6_greatestExponent 12 = .ok (.iload_n 2, 1) := by decide +kernel
theorem dX6_greatestExponent_13 : decode cX6_greatestExponent 13 = .ok (.aload_n 0, 1) := by decide +kernel
theorem dX6_greatestExponent_14 : decode cX6_greatestExponent 14 = .ok (.iload_n 3, 1) := by decide +kernel
theorem dX6_greatestExponent_15 : decode cX6_greatestExponent 15 = .ok (.invokevirtual 66, 3) := by decide +kernel
theorem dX6_greatestExponent_18 : decode cX6_greatestExponent 18 = .ok (.iload_n 1, 1) := by decide +kernel
theorem dX6_greatestExponent_19 : decode cX6_greatestExponent 19 = .ok (.invokestatic 113, 3) := by decide +kernel
theorem dX6_greatestExponent_22 : decode cX6_greatestExponent 22 = .ok (.invokestatic 116, 3) := by decide +kernel
theorem dX6_greatestExponent_25 : decode cX6_greatestExponent 25 = .ok (.istore_n 2, 1) := by decide +kernel
theorem dX6_greatestExponent_26 : decode cX6_greatestExponent 26 = .ok (.iinc 3 1, 3) := by decide +kernel
theorem dX6_greatestExponent_29 : decode cX6_greatestExponent 29 = .ok (.goto (-25), 3) := by decide +kernel
theorem dX6_greatestExponent_32 : decode cX6_greatestExponent 32 = .ok (.iload_n 2, 1) := by decide +kernel
theorem dX6_greatestExponent_33 : decode cX6_greatestExponent 33 = .ok (.ireturn, 1) := by decide +kernel
set_option maxRecDepth 20000 in
theorem ggX6_multiplesOf_X6_numberOf : GoodIn wsX6_multiplesOf wsX6_numberOf := goodIn_r _ [6, 1, 7, 12, 13, 14, 15, 16, 17] (by decide +kernel) (by decide +kernel)
set_option maxRecDepth 20000 in
theorem gX6_multiplesOf_X6_numberOf : GoodIn wsX6_multiplesOf (wsV RX6 66 RX6 yX6_numberOf wsX6_numberOf) := goodIn_app (goodIn_of _ (by decide +kernel)) ggX6_multiplesOf_X6_numberOf
set_option maxRecDepth 20000 in
theorem ggX6_multiplesOf_X7_divides : GoodIn wsX6_multiplesOf wsX7_divides := goodIn_r _ [11] (by decide +kernel) (by decide +kernel)
set_option maxRecDepth 20000 in
theorem gX6_multiplesOf_X7_divides : GoodIn wsX6_multiplesOf (va_wsS RX6 90 yX7_divides wsX7_divides) := goodIn_app (goodIn_of _ (by decide +kernel)) ggX6_multiplesOf_X7_divides
theorem dX6_multiplesOf_0 : decode cX6_multiplesOf 0 = .ok (.iconst 0, 1) := by decide +kernel
theorem dX6_multiplesOf_1 : decode cX6_multiplesOf 1 = .ok (.istore_n 2, 1) := by decide +kernel
theorem dX6_multiplesOf_2 : decode cX6_multiplesOf 2 = .ok (.iconst 0, 1) := by decide +kernel
theorem dX6_multiplesOf_3 : decode cX6_multiplesOf 3 = .ok (.istore_n 3, 1) := by decide +kernel
theorem dX6_multiplesOf_4 : decode cX6_multiplesOf 4 = .ok (.iload_n 3, 1) := by decide +kernel
theorem dX6_multiplesOf_5 : decode cX6_multiplesOf 5 = .ok (.aload_n 0, 1) := by decide +kernel
theorem dX6_multiplesOf_6 : decode cX6_multiplesOf 6 = .ok (.getfield 26, 3) := by decide +kernel
theorem dX6_multiplesOf_9 : decode cX6_multiplesOf 9 = .ok (.if_icmp .ge 24, 3) := by decide +kernel
theorem dX6_multiplesOf_12 : decode cX6_multiplesOf 12 = .ok (.iload_n 1, 1) := by decide +kernel
theorem dX6_multiplesOf_13 : decode cX6_multiplesOf 13 = .ok (.aload_n 0, 1) := by decide +kernel
theorem dX6_multiplesOf_14 : decode cX6_multiplesOf 14 = .ok (.iload_n 3, 1) := by decide +kernel
theorem dX6_multiplesOf_15 : decode cX6_multiplesOf 15 = .ok (.invokevirtual 66, 3) := by decide +kernel
theorem dX6_multiplesOf_18 : decode cX6_multiplesOf 18 = .ok (.invokestatic 90, 3) := by decide +kernel
theorem dX6_multiplesOf_21 : decode cX6_multiplesOf 21 = .ok (.ifCond .eq 6, 3) := by decide +kernel
theorem dX6_multiplesOf_24 : decode cX6_multiplesOf 24 = .ok (.iinc 2 1, 3) := by decide +kernel
theorem dX6_multiplesOf_27 : decode cX6_multiplesOf 27 = .ok (.iinc 3 1, 3) := by decide +kernel
theorem dX6_multiplesOf_30 : decode cX6_multiplesOf 30 = .ok (.goto (-26), 3) := by decide +kernel
theorem dX6_multiplesOf_33 : decode cX6_multiplesOf 33 = .ok (.iload_n 2, 1) := by decide +kernel
theorem dX6_multiplesOf_34 : decode cX6_multiplesOf 34 = .ok (.ireturn, 1) := by decide +kernel
set_option maxRecDepth 20000 in
theorem ggX6_ones_X6_numberOf : GoodIn wsX6_ones wsX6_numberOf := goodIn_r _ [6, 1, 7, 8, 9, 10, 11, 12, 13] (by decide +kernel) (by decide +kernel)
set_option maxRecDepth 20000 in
theorem gX6_ones_X6_numberOf : GoodIn wsX6_ones (wsV RX6 66 RX6 yX6_numberOf wsX6_numberOf) := goodIn_app (goodIn_of _ (by decide +kernel)) ggX6_ones_X6_numberOf
theorem dX6_ones_0 : decode cX6_ones 0 = .ok (.iconst 0, 1) := by decide +kernel
theorem dX6_ones_1 : decode cX6_ones 1 = .ok (.istore_n 1, 1) := by decide +kernel
theorem dX6_ones_2 : decode cX6_ones 2 = .ok (.iconst 0, 1) := by decide +kernel
theorem dX6_ones_3 : decode cX6_ones 3 = .ok (.istore_n 2, 1) := by decide +kernel
theorem dX6_ones_4 : decode cX6_ones 4 = .ok (.iload_n 2, 1) := by decide +kernel
theorem dX6_ones_5 : decode cX6_ones 5 = .ok (.aload_n 0, 1) := by decide +kernel
theorem dX6_ones_6 : decode cX6_ones 6 = .ok (.getfield 26, 3) := by decide +kernel
theorem dX6_ones_9 : decode cX6_ones 9 = .ok (.if_icmp .ge 21, 3) := by decide +kernel
theorem dX6_ones_12 : decode cX6_ones 12 = .ok (.aload_n 0, 1) := by decide +kernel
theorem dX6_ones_13 : decode cX6_ones 13 = .ok (.iload_n 2, 1) := by decide +kernel
theorem dX6_ones_14 : decode cX6_ones 14 = .ok (.invokevirtual 66, 3) := by decide +kernel
theorem dX6_ones_17 : decode cX6_ones 17 = .ok (.iconst 1, 1) := by decide +kernel
theorem dX6_ones_18 : decode cX6_ones 18 = .ok (.if_icmp .ne 6, 3) := by decide +kernel
theorem dX6_ones_21 : decode cX6_ones 21 = .ok (.iinc 1 1, 3) := by decide +kernel
theorem dX6_ones_24 : decode cX6_ones 24 = .ok (.iinc 2 1, 3) := by decide +kernel
theorem dX6_ones_27 : decode cX6_ones 27 = .ok (.goto (-23), 3) := by decide +kernel
theorem dX6_ones_30 : decode cX6_ones 30 = .ok (.iload_n 1, 1) := by decide +kernel
theorem dX6_ones_31 : decode cX6_ones 31 = .ok (.ireturn, 1) := by decide +kernel
set_option maxRecDepth 20000 in
theorem ggX6_differentPrimes_X6_numberOf : GoodIn wsX6_differentPrimes wsX6_numberOf := goodIn_r _ [6, 1, 7, 29, 30, 31, 32, 33, 34] (by decide +kernel) (by decide +kernel)
set_option maxRecDepth 20000 in
theorem gX6_differentPrimes_X6_numberOf : GoodIn wsX6_differentPrimes (wsV RX6 66 RX6 yX6_numberOf wsX6_numberOf) := goodIn_app (goodIn_of _ (by decide +kernel)) ggX6_differentPrimes_X6_numberOf
set_option maxRecDepth 20000 in
theorem ggX6_differentPrimes_X7_leastPrime : GoodIn wsX6_differentPrimes wsX7_leastPrime := goodIn_r _ [11, 12, 13, 10, 14] (by decide +kernel) (by decide +kernel)
set_option maxRecDepth 20000 in
theorem gX6_differentPrimes_X7_leastPrime : GoodIn wsX6_differentPrimes (va_wsS RX6 121 yX7_leastPrime wsX7_leastPrime) := goodIn_app (goodIn_of _ (by decide +kernel)) ggX6_differentPrimes_X7_leastPrime
set_option maxRecDepth 20000 in
theorem ggX6_differentPrimes_X6_dividesBelow : GoodIn wsX6_differentPrimes wsX6_dividesBelow := goodIn_r _ [18, 2, 3, 4, 5, 6, 1, 7, 19, 13, 10, 14, 29, 30, 31, 32, 33, 34] (by decide +kernel) (by decide +kernel)
set_option maxRecDepth 20000 in
theorem gX6_differentPrimes_X6_dividesBelow : GoodIn wsX6_differentPrimes (wsV RX6 124 RX6 yX6_dividesBelow wsX6_dividesBelow) := goodIn_app (goodIn_of _ (by decide +kernel)) ggX6_differentPrimes_X6_dividesBelow
set_option maxRecDepth 20000 in
theorem ggX6_differentPrimes_X7_withoutPrime : GoodIn wsX6_differentPrimes wsX7_withoutPrime := goodIn_r _ [22, 23, 24, 10, 25, 12, 13, 14, 26, 27, 28] (by decide +kernel) (by decide +kernel)
set_option maxRecDepth 20000 in
theorem gX6_differentPrimes_X7_withoutPrime : GoodIn wsX6_differentPrimes (va_wsS RX6 127 yX7_withoutPrime wsX7_withoutPrime) := goodIn_app (goodIn_of _ (by decide +kernel)) ggX6_differentPrimes_X7_withoutPrime
theorem dX6_differentPrimes_0 : decode cX6_differentPrimes 0 = .ok (.iconst 0, 1) := by decide +kernel
theorem dX6_differentPrimes_1 : decode cX6_differentPrimes 1 = .ok (.istore_n 1, 1) := by decide +kernel
theorem dX6_differentPrimes_2 : decode cX6_differentPrimes 2 = .ok (.iconst 0, 1) := by decide +kernel
theorem dX6_differentPrimes_3 : decode cX6_differentPrimes 3 = .ok (.istore_n 2, 1) := by decide +kernel
theorem dX6_differentPrimes_4 : decode cX6_differentPrimes 4 = .ok (.iload_n 2, 1) := by decide +kernel
theorem dX6_differentPrimes_5 : decode cX6_differentPrimes 5 = .ok (.aload_n 0, 1) := by decide +kernel
theorem dX6_differentPrimes_6 : decode cX6_differentPrimes 6 = .ok (.getfield 26, 3) := by decide +kernel
theorem dX6_differentPrimes_9 : decode cX6_differentPrimes 9 = .ok (.if_icmp .ge 62, 3) := by decide +kernel
theorem dX6_differentPrimes_12 : decode cX6_differentPrimes 12 = .ok (.aload_n 0, 1) := by decide +kernel
theorem dX6_differentPrimes_13 : decode cX6_differentPrimes 13 = .ok (.iload_n 2, 1) := by decide +kernel
theorem dX6_differentPrimes_14 : decode cX6_differentPrimes 14 = .ok (.invokevirtual 66, 3) := by decide +kernel
theorem dX6_differentPrimes_17 : decode cX6_differentPrimes 17 = .ok (.istore_n 3, 1) := by decide +kernel
theorem dX6_differentPrimes_18 : decode cX6_differentPrimes 18 = .ok (.iconst 0, 1) := by decide +kernel
theorem dX6_differentPrimes_19 : decode cX6_differentPrimes 19 = .ok (.istore 4, 2) := by decide +kernel
theorem dX6_differentPrimes_21 : decode cX6_differentPrimes 21 = .ok (.iload 4, 2) := by decide +kernel
theorem dX6_differentPrimes_23 : decode cX6_differentPrimes 23 = .ok (.bipush 13, 2) := by decide +kernel
theorem dX6_differentPrimes_25 : decode cX6_differentPrimes 25 = .ok (.if_icmp .ge 40, 3) := by decide +kernel
theorem dX6_differentPrimes_28 : decode cX6_differentPrimes 28 = .ok (.iload_n 3, 1) := by decide +kernel
theorem dX6_differentPrimes_29 : decode cX6_differentPrimes 29 = .ok (.iconst 1, 1) := by decide +kernel
theorem dX6_differentPrimes_30 : decode cX6_differentPrimes 30 = .ok (.if_icmp .le 35, 3) := by decide +kernel
theorem dX6_differentPrimes_33 : decode cX6_differentPrimes 33 = .ok (.iload_n 3, 1) := by decide +kernel
theorem dX6_differentPrimes_34 : decode cX6_differentPrimes 34 = .ok (.invokestatic 121, 3) := by decide +kernel
theorem dX6_differentPrimes_37 : decode cX6_differentPrimes 37 = .ok (.istore 5, 2) := by decide +kernel
theorem dX6_differentPrimes_39 : decode cX6_differentPrimes 39 = .ok (.aload_n 0, 1) := by decide +kernel
theorem dX6_differentPrimes_40 : decode cX6_differentPrimes 40 = .ok (.iload_n 2, 1) := by decide +kernel
theorem dX6_differentPrimes_41 : decode cX6_differentPrimes 41 = .ok (.iload 5, 2) := by decide +kernel
theorem dX6_differentPrimes_43 : decode cX6_differentPrimes 43 = .ok (.invokevirtual 124, 3) := by decide +kernel
theorem dX6_differentPrimes_46 : decode cX6_differentPrimes 46 = .ok (.ifCond .ne 6, 3) := by decide +kernel
theorem dX6_differentPrimes_49 : decode cX6_differentPrimes 49 = .ok (.iinc 1 1, 3) := by decide +kernel
theorem dX6_differentPrimes_52 : decode cX6_differentPrimes 52 = .ok (.iload_n 3, 1) := by decide +kernel
theorem dX6_differentPrimes_53 : decode cX6_differentPrimes 53 = .ok (.iload 5, 2) := by decide +kernel
theorem dX6_differentPrimes_55 : decode cX6_differentPrimes 55 = .ok (.invokestatic 127, 3) := by decide +kernel
theorem dX6_differentPrimes_58 : decode cX6_differentPrimes 58 = .ok (.istore_n 3, 1) := by decide +kernel
theorem dX6_differentPrimes_59 : decode cX6_differentPrimes 59 = .ok (.iinc 4 1, 3) := by decide +kernel
theorem dX6_differentPrimes_62 : decode cX6_differentPrimes 62 = .ok (.goto (-41), 3) := by decide +kernel
theorem dX6_differentPrimes_65 : decode cX6_differentPrimes 65 = .ok (.iinc 2 1, 3) := by decide +kernel
theorem dX6_differentPrimes_68 : decode cX6_differentPrimes 68 = .ok (.goto (-64), 3) := by decide +kernel
theorem dX6_differentPrimes_71 : decode cX6_differentPrimes 71 = .ok (.iload_n 1, 1) := by decide +kernel
theorem dX6_differentPrimes_72 : decode cX6_differentPrimes 72 = .ok (.ireturn, 1) := by decide +kernel
set_option maxRecDepth 20000 in
theorem ggX6_dividesBelow_X6_numberOf : GoodIn wsX6_dividesBelow wsX6_numberOf := goodIn_r _ [5, 6, 7, 12, 13, 14, 15, 16, 17] (by decide +kernel) (by decide +kernel)
set_option maxRecDepth 20000 in
theorem gX6_dividesBelow_X6_numberOf : GoodIn wsX6_dividesBelow (wsV RX6 66 RX6 yX6_numberOf wsX6_numberOf) := goodIn_app (goodIn_of _ (by decide +kernel)) ggX6_dividesBelow_X6_numberOf
set_option maxRecDepth 20000 in
theorem ggX6_dividesBelow_X7_divides : GoodIn wsX6_dividesBelow wsX7_divides := goodIn_r _ [11] (by decide +kernel) (by decide +kernel)
set_option maxRecDepth 20000 in
theorem gX6_dividesBelow_X7_divides : GoodIn wsX6_dividesBelow (va_wsS RX6 90 yX7_divides wsX7_divides) := goodIn_app (goodIn_of _ (by decide +kernel)) ggX6_dividesBelow_X7_divides
theorem dX6_dividesBelow_0 : decode cX6_dividesBelow 0 = .ok (.iconst 0, 1) := by decide +kernel
theorem dX6_dividesBelow_1 : decode cX6_dividesBelow 1 = .ok (.istore_n 3, 1) := by decide +kernel
theorem dX6_dividesBelow_2 : decode cX6_dividesBelow 2 = .ok (.iload_n 3, 1) := by decide +kernel
theorem dX6_dividesBelow_3 : decode cX6_dividesBelow 3 = .ok (.iload_n 1, 1) := by decide +kernel
theorem dX6_dividesBelow_4 : decode cX6_dividesBelow 4 = .ok (.if_icmp .ge 23, 3) := by decide +kernel
theorem dX6_dividesBelow_7 : decode cX6_dividesBelow 7 = .ok (.iload_n 2, 1) := by decide +kernel
theorem dX6_dividesBelow_8 : decode cX6_dividesBelow 8 = .ok (.aload_n 0, 1) := by decide +kernel
theorem dX6_dividesBelow_9 : decode cX6_dividesBelow 9 = .ok (.iload_n 3, 1) := by decide +kernel
theorem dX6_dividesBelow_10 : decode cX6_dividesBelow 10 = .ok (.invokevirtual 66, 3) := by decide +kernel
theorem dX6_dividesBelow_13 : decode cX6_dividesBelow 13 = .ok (.invokestatic 90, 3) := by decide +kernel
theorem dX6_dividesBelow_16 : decode cX6_dividesBelow 16 = .ok (.ifCond .eq 5, 3) := by decide +kernel
theorem dX6_dividesBelow_19 : decode cX6_dividesBelow 19 = .ok (.iconst 1, 1) := by decide +kernel
theorem dX6_dividesBelow_20 : decode cX6_dividesBelow 20 = .ok (.ireturn, 1) := by decide +kernel
theorem dX6_dividesBelow_21 : decode cX6_dividesBelow 21 = .ok (.iinc 3 1, 3) := by decide +kernel
theorem dX6_dividesBelow_24 : decode cX6_dividesBelow 24 = .ok (.goto (-22), 3) := by decide +kernel
theorem dX6_dividesBelow_27 : decode cX6_dividesBelow 27 = .ok (.iconst 0, 1) := by decide +kernel
theorem dX6_dividesBelow_28 : decode cX6_dividesBelow 28 = .ok (.ireturn, 1) := by decide +kernel
set_option maxRecDepth 20000 in
theorem ggX6_split_X6_numberOf : GoodIn wsX6_split wsX6_numberOf := goodIn_r _ [8, 9, 3, 66, 67, 68, 69, 70, 71] (by decide +kernel) (by decide +kernel)
set_option maxRecDepth 20000 in
theorem gX6_split_X6_numberOf : GoodIn wsX6_split (wsV RX6 66 RX6 yX6_numberOf wsX6_numberOf) := goodIn_app (goodIn_of _ (by decide +kernel)) ggX6_split_X6_numberOf
set_option maxRecDepth 20000 in
theorem ggX6_split_X7_quotient : GoodIn wsX6_split wsX7_quotient := goodIn_r _ [13] (by decide +kernel) (by decide +kernel)
set_option maxRecDepth 20000 in
theorem gX6_split_X7_quotient : GoodIn wsX6_split (va_wsS RX6 130 yX7_quotient wsX7_quotient) := goodIn_app (goodIn_of _ (by decide +kernel)) ggX6_split_X7_quotient
set_option maxRecDepth 20000 in
theorem ggX6_split_X0_book : GoodIn wsX6_split wsX0_book := goodIn_r _ [18, 19, 20, 21, 22, 23, 24, 17, 25, 26, 27, 28, 29, 30, 31, 32, 33, 34, 35, 36, 37, 38, 39, 40, 12, 41, 42, 43, 44, 45, 46, 47, 48, 49, 50, 51, 52, 53, 54, 55, 56, 57, 58, 59, 11, 13, 72, 73, 74, 75] (by decide +kernel) (by decide +kernel)
set_option maxRecDepth 20000 in
theorem gX6_split_X0_book : GoodIn wsX6_split (wsV RX6 59 RX0 yX0_book wsX0_book) := goodIn_app (goodIn_of _ (by decide +kernel)) ggX6_split_X0_book
set_option maxRecDepth 20000 in
theorem ggX6_split_X6_closeUp : GoodIn wsX6_split wsX6_closeUp := goodIn_r _ [63, 9, 3, 64, 50, 36, 51, 65, 57, 58, 66, 67, 68, 69, 70, 71] (by decide +kernel) (by decide +kernel)
set_option maxRecDepth 20000 in
theorem gX6_split_X6_closeUp : GoodIn wsX6_split (wsV RX6 70 RX6 yX6_closeUp wsX6_closeUp) := goodIn_app (goodIn_of _ (by decide +kernel)) ggX6_split_X6_closeUp
set_option maxRecDepth 20000 in
theorem ggX6_split_X5_put : GoodIn wsX6_split wsX5_put := goodIn_r _ [58] (by decide +kernel) (by decide +kernel)
set_option maxRecDepth 20000 in
theorem gX6_split_X5_put : GoodIn wsX6_split (va_wsS RX6 55 yX5_put wsX5_put) := goodIn_app (goodIn_of _ (by decide +kernel)) ggX6_split_X5_put
theorem dX6_split_0 : decode cX6_split 0 = .ok (.aload_n 0, 1) := by decide +kernel
theorem dX6_split_1 : decode cX6_split 1 = .ok (.iload_n 1, 1) := by decide +kernel
theorem dX6_split_2 : decode cX6_split 2 = .ok (.invokevirtual 66, 3) := by decide +kernel
theorem dX6_split_5 : decode cX6_split 5 = .ok (.iload_n 2, 1) := by decide +kernel
theorem dX6_split_6 : decode cX6_split 6 = .ok (.invokestatic 130, 3) := by decide +kernel
theorem dX6_split_9 : decode cX6_split 9 = .ok (.istore_n 3, 1) := by decide +kernel
theorem dX6_split_10 : decode cX6_split 10 = .ok (.aload_n 0, 1) := by decide +kernel
theorem dX6_split_11 : decode cX6_split 11 = .ok (.getfield 18, 3) := by decide +kernel
theorem dX6_split_14 : decode cX6_split 14 = .ok (.iload_n 2, 1) := by decide +kernel
theorem dX6_split_15 : decode cX6_split 15 = .ok (.iconst 1, 1) := by decide +kernel
theorem dX6_split_16 : decode cX6_split 16 = .ok (.iconst 0, 1) := by decide +kernel
theorem dX6_split_17 : decode cX6_split 17 = .ok (.invokevirtual 59, 3) := by decide +kernel
theorem dX6_split_20 : decode cX6_split 20 = .ok (.iload_n 3, 1) := by decide +kernel
theorem dX6_split_21 : decode cX6_split 21 = .ok (.iconst 1, 1) := by decide +kernel
theorem dX6_split_22 : decode cX6_split 22 = .ok (.if_icmp .ne 21, 3) := by decide +kernel
theorem dX6_split_25 : decode cX6_split 25 = .ok (.aload_n 0, 1) := by decide +kernel
theorem dX6_split_26 : decode cX6_split 26 = .ok (.iload_n 1, 1) := by decide +kernel
theorem dX6_split_27 : decode cX6_split 27 = .ok (.invokevirtual 70, 3) := by decide +kernel
theorem dX6_split_30 : decode cX6_split 30 = .ok (.aload_n 0, 1) := by decide +kernel
theorem dX6_split_31 : decode cX6_split 31 = .ok (.dup, 1) := by decide +kernel
theorem dX6_split_32 : decode cX6_split 32 = .ok (.getfield 32, 3) := by decide +kernel
theorem dX6_split_35 : decode cX6_split 35 = .ok (.iconst 1, 1) := by decide +kernel
theorem dX6_split_36 : decode cX6_split 36 = .ok (.iadd, 1) := by decide +kernel
theorem dX6_split_37 : decode cX6_split 37 = .ok (.putfield 32, 3) := by decide +kernel
theorem dX6_split_40 : decode cX6_split 40 = .ok (.goto 12, 3) := by decide +kernel
theorem dX6_split_43 : decode cX6_split 43 = .ok (.aload_n 0, 1) := by decide +kernel
theorem dX6_split_44 : decode cX6_split 44 = .ok (.getfield 9, 3) := by decide +kernel
theorem dX6_split_47 : decode cX6_split 47 = .ok (.iload_n 1, 1) := by decide +kernel
theorem dX6_split_48 : decode cX6_split 48 = .ok (.iload_n 3, 1) := by decide +kernel
theorem dX6_split_49 : decode cX6_split 49 = .ok (.invokestatic 55, 3) := by decide +kernel
theorem dX6_split_52 : decode cX6_split 52 = .ok (.iload_n 3, 1) := by decide +kernel
theorem dX6_split_53 : decode cX6_split 53 = .ok (.ireturn, 1) := by decide +kernel
set_option maxRecDepth 20000 in
theorem ggX6_closeUp_X5_at : GoodIn wsX6_closeUp wsX5_at := goodIn_r _ [6] (by decide +kernel) (by decide +kernel)
set_option maxRecDepth 20000 in
theorem gX6_closeUp_X5_at : GoodIn wsX6_closeUp (va_wsS RX6 51 yX5_at wsX5_at) := goodIn_app (goodIn_of _ (by decide +kernel)) ggX6_closeUp_X5_at
set_option maxRecDepth 20000 in
theorem ggX6_closeUp_X5_put : GoodIn wsX6_closeUp wsX5_put := goodIn_r _ [9] (by decide +kernel) (by decide +kernel)
set_option maxRecDepth 20000 in
theorem gX6_closeUp_X5_put : GoodIn wsX6_closeUp (va_wsS RX6 55 yX5_put wsX5_put) := goodIn_app (goodIn_of _ (by decide +kernel)) ggX6_closeUp_X5_put
theorem dX6_closeUp_0 : decode cX6_closeUp 0 = .ok (.iload_n 1, 1) := by decide +kernel
theorem dX6_closeUp_1 : decode cX6_closeUp 1 = .ok (.iconst 1, 1) := by decide +kernel
theorem dX6_closeUp_2 : decode cX6_closeUp 2 = .ok (.iadd, 1) := by decide +kernel
theorem dX6_closeUp_3 : decode cX6_closeUp 3 = .ok (.istore_n 2, 1) := by decide +kernel
theorem dX6_closeUp_4 : decode cX6_closeUp 4 = .ok (.iload_n 2, 1) := by decide +kernel
theorem dX6_closeUp_5 : decode cX6_closeUp 5 = .ok (.aload_n 0, 1) := by decide +kernel
theorem dX6_closeUp_6 : decode cX6_closeUp 6 = .ok (.getfield 26, 3) := by decide +kernel
theorem dX6_closeUp_9 : decode cX6_closeUp 9 = .ok (.if_icmp .ge 27, 3) := by decide +kernel
theorem dX6_closeUp_12 : decode cX6_closeUp 12 = .ok (.aload_n 0, 1) := by decide +kernel
theorem dX6_closeUp_13 : decode cX6_closeUp 13 = .ok (.getfield 9, 3) := by decide +kernel
theorem dX6_closeUp_16 : decode cX6_closeUp 16 = .ok (.iload_n 2, 1) := by decide +kernel
theorem dX6_closeUp_17 : decode cX6_closeUp 17 = .ok (.iconst 1, 1) := by decide +kernel
theorem dX6_closeUp_18 : decode cX6_closeUp 18 = .ok (.isub, 1) := by decide +kernel
theorem dX6_closeUp_19 : decode cX6_closeUp 19 = .ok (.aload_n 0, 1) := by decide +kernel
theorem dX6_closeUp_20 : decode cX6_closeUp 20 = .ok (.getfield 9, 3) := by decide +kernel
theorem dX6_closeUp_23 : decode cX6_closeUp 23 = .ok (.iload_n 2, 1) := by decide +kernel
theorem dX6_closeUp_24 : decode cX6_closeUp 24 = .ok (.invokestatic 51, 3) := by decide +kernel
theorem dX6_closeUp_27 : decode cX6_closeUp 27 = .ok (.invokestatic 55, 3) := by decide +kernel
theorem dX6_closeUp_30 : decode cX6_closeUp 30 = .ok (.iinc 2 1, 3) := by decide +kernel
theorem dX6_closeUp_33 : decode cX6_closeUp 33 = .ok (.goto (-29), 3) := by decide +kernel
theorem dX6_closeUp_36 : decode cX6_closeUp 36 = .ok (.aload_n 0, 1) := by decide +kernel
theorem dX6_closeUp_37 : decode cX6_closeUp 37 = .ok (.dup, 1) := by decide +kernel
theorem dX6_closeUp_38 : decode cX6_closeUp 38 = .ok (.getfield 26, 3) := by decide +kernel
theorem dX6_closeUp_41 : decode cX6_closeUp 41 = .ok (.iconst 1, 1) := by decide +kernel
theorem dX6_closeUp_42 : decode cX6_closeUp 42 = .ok (.isub, 1) := by decide +kernel
theorem dX6_closeUp_43 : decode cX6_closeUp 43 = .ok (.putfield 26, 3) := by decide +kernel
theorem dX6_closeUp_46 : decode cX6_closeUp 46 = .ok (.return_, 1) := by decide +kernel
theorem dX7_isNumber_0 : decode cX7_isNumber 0 = .ok (.iload_n 0, 1) := by decide +kernel
theorem dX7_isNumber_1 : decode cX7_isNumber 1 = .ok (.iconst 1, 1) := by decide +kernel
theorem dX7_isNumber_2 : decode cX7_isNumber 2 = .ok (.if_icmp .lt 14, 3) := by decide +kernel
theorem dX7_isNumber_5 : decode cX7_isNumber 5 = .ok (.iload_n 0, 1) := by decide +kernel
theorem dX7_isNumber_6 : decode cX7_isNumber 6 = .ok (.sipush 9999, 3) := by decide +kernel
theorem dX7_isNumber_9 : decode cX7_isNumber 9 = .ok (.if_icmp .gt 7, 3) := by decide +kernel
theorem dX7_isNumber_12 : decode cX7_isNumber 12 = .ok (.iconst 1, 1) := by decide +kernel
theorem dX7_isNumber_13 : decode cX7_isNumber 13 = .ok (.goto 4, 3) := by decide +kernel
theorem dX7_isNumber_16 : decode cX7_isNumber 16 = .ok (.iconst 0, 1) := by decide +kernel
theorem dX7_isNumber_17 : decode cX7_isNumber 17 = .ok (.ireturn, 1) := by decide +kernel
set_option maxRecDepth 20000 in
theorem ggX7_isPrime_X7_leastPrime : GoodIn wsX7_isPrime wsX7_leastPrime := goodIn_r _ [4, 5, 6, 3, 7] (by decide +kernel) (by decide +kernel)
