theorem dX6_changeSetting_10 : decode cX6_changeSetting 10 = .ok (.if_icmp .gt 15, 3) := by decide +kernel
theorem dX6_changeSetting_13 : decode cX6_changeSetting 13 = .ok (.aload_n 0, 1) := by decide +kernel
theorem dX6_changeSetting_14 : decode cX6_changeSetting 14 = .ok (.getfield 29, 3) := by decide +kernel
theorem dX6_changeSetting_17 : decode cX6_changeSetting 17 = .ok (.istore_n 3, 1) := by decide +kernel
theorem dX6_changeSetting_18 : decode cX6_changeSetting 18 = .ok (.aload_n 0, 1) := by decide +kernel
theorem dX6_changeSetting_19 : decode cX6_changeSetting 19 = .ok (.iload_n 2, 1) := by decide +kernel
theorem dX6_changeSetting_20 : decode cX6_changeSetting 20 = .ok (.putfield 29, 3) := by decide +kernel
theorem dX6_changeSetting_23 : decode cX6_changeSetting 23 = .ok (.iload_n 3, 1) := by decide +kernel
theorem dX6_changeSetting_24 : decode cX6_changeSetting 24 = .ok (.ireturn, 1) := by decide +kernel
theorem dX6_changeSetting_25 : decode cX6_changeSetting 25 = .ok (.iload_n 1, 1) := by decide +kernel
theorem dX6_changeSetting_26 : decode cX6_changeSetting 26 = .ok (.iconst 1, 1) := by decide +kernel
theorem dX6_changeSetting_27 : decode cX6_changeSetting 27 = .ok (.if_icmp .ne 25, 3) := by decide +kernel
theorem dX6_changeSetting_30 : decode cX6_changeSetting 30 = .ok (.iload_n 2, 1) := by decide +kernel
theorem dX6_changeSetting_31 : decode cX6_changeSetting 31 = .ok (.iconst 1, 1) := by decide +kernel
theorem dX6_changeSetting_32 : decode cX6_changeSetting 32 = .ok (.if_icmp .lt 20, 3) := by decide +kernel
theorem dX6_changeSetting_35 : decode cX6_changeSetting 35 = .ok (.iload_n 2, 1) := by decide +kernel
theorem dX6_changeSetting_36 : decode cX6_changeSetting 36 = .ok (.iconst 4, 1) := by decide +kernel
theorem dX6_changeSetting_37 : decode cX6_changeSetting 37 = .ok (.if_icmp .gt 15, 3) := by decide +kernel
theorem dX6_changeSetting_40 : decode cX6_changeSetting 40 = .ok (.aload_n 0, 1) := by decide +kernel
theorem dX6_changeSetting_41 : decode cX6_changeSetting 41 = .ok (.getfield 22, 3) := by decide +kernel
theorem dX6_changeSetting_44 : decode cX6_changeSetting 44 = .ok (.istore_n 3, 1) := by decide +kernel
theorem dX6_changeSetting_45 : decode cX6_changeSetting 45 = .ok (.aload_n 0, 1) := by decide +kernel
theorem dX6_changeSetting_46 : decode cX6_changeSetting 46 = .ok (.iload_n 2, 1) := by decide +kernel
theorem dX6_changeSetting_47 : decode cX6_changeSetting 47 = .ok (.putfield 22, 3) := by decide +kernel
theorem dX6_changeSetting_50 : decode cX6_changeSetting 50 = .ok (.iload_n 3, 1) := by decide +kernel
theorem dX6_changeSetting_51 : decode cX6_changeSetting 51 = .ok (.ireturn, 1) := by decide +kernel
theorem dX6_changeSetting_52 : decode cX6_changeSetting 52 = .ok (.iconst (-1), 1) := by decide +kernel
theorem dX6_changeSetting_53 : decode cX6_changeSetting 53 = .ok (.ireturn, 1) := by decide +kernel
set_option maxRecDepth 20000 in
theorem ggX6_isKin_X6_numberOf : GoodIn wsX6_isKin wsX6_numberOf := goodIn_r _ [6, 7, 8, 16, 17, 18, 19, 20, 21] (by decide +kernel) (by decide +kernel)
set_option maxRecDepth 20000 in
theorem gX6_isKin_X6_numberOf : GoodIn wsX6_isKin (wsV RX6 66 RX6 yX6_numberOf wsX6_numberOf) := goodIn_app (goodIn_of _ (by decide +kernel)) ggX6_isKin_X6_numberOf
set_option maxRecDepth 20000 in
theorem ggX6_isKin_X7_divisorByRemainders : GoodIn wsX6_isKin wsX7_divisorByRemainders := goodIn_r _ [12] (by decide +kernel) (by decide +kernel)
set_option maxRecDepth 20000 in
theorem gX6_isKin_X7_divisorByRemainders : GoodIn wsX6_isKin (va_wsS RX6 87 yX7_divisorByRemainders wsX7_divisorByRemainders) := goodIn_app (goodIn_of _ (by decide +kernel)) ggX6_isKin_X7_divisorByRemainders
set_option maxRecDepth 20000 in
theorem ggX6_isKin_X7_divides : GoodIn wsX6_isKin wsX7_divides := goodIn_r _ [15] (by decide +kernel) (by decide +kernel)
set_option maxRecDepth 20000 in
theorem gX6_isKin_X7_divides : GoodIn wsX6_isKin (va_wsS RX6 90 yX7_divides wsX7_divides) := goodIn_app (goodIn_of _ (by decide +kernel)) ggX6_isKin_X7_divides
theorem dX6_isKin_0 : decode cX6_isKin 0 = .ok (.iload_n 1, 1) := by decide +kernel
theorem dX6_isKin_1 : decode cX6_isKin 1 = .ok (.iload_n 2, 1) := by decide +kernel
theorem dX6_isKin_2 : decode cX6_isKin 2 = .ok (.if_icmp .ne 5, 3) := by decide +kernel
theorem dX6_isKin_5 : decode cX6_isKin 5 = .ok (.iconst 0, 1) := by decide +kernel
theorem dX6_isKin_6 : decode cX6_isKin 6 = .ok (.ireturn, 1) := by decide +kernel
theorem dX6_isKin_7 : decode cX6_isKin 7 = .ok (.aload_n 0, 1) := by decide +kernel
theorem dX6_isKin_8 : decode cX6_isKin 8 = .ok (.iload_n 1, 1) := by decide +kernel
theorem dX6_isKin_9 : decode cX6_isKin 9 = .ok (.iload_n 2, 1) := by decide +kernel
theorem dX6_isKin_10 : decode cX6_isKin 10 = .ok (.if_icmp .ge 7, 3) := by decide +kernel
theorem dX6_isKin_13 : decode cX6_isKin 13 = .ok (.iload_n 1, 1) := by decide +kernel
theorem dX6_isKin_14 : decode cX6_isKin 14 = .ok (.goto 4, 3) := by decide +kernel
theorem dX6_isKin_17 : decode cX6_isKin 17 = .ok (.iload_n 2, 1) := by decide +kernel
theorem dX6_isKin_18 : decode cX6_isKin 18 = .ok (.invokevirtual 66, 3) := by decide +kernel
theorem dX6_isKin_21 : decode cX6_isKin 21 = .ok (.istore_n 3, 1) := by decide +kernel
theorem dX6_isKin_22 : decode cX6_isKin 22 = .ok (.aload_n 0, 1) := by decide +kernel
theorem dX6_isKin_23 : decode cX6_isKin 23 = .ok (.iload_n 1, 1) := by decide +kernel
theorem dX6_isKin_24 : decode cX6_isKin 24 = .ok (.iload_n 2, 1) := by decide +kernel
theorem dX6_isKin_25 : decode cX6_isKin 25 = .ok (.if_icmp .ge 7, 3) := by decide +kernel
theorem dX6_isKin_28 : decode cX6_isKin 28 = .ok (.iload_n 2, 1) := by decide +kernel
theorem dX6_isKin_29 : decode cX6_isKin 29 = .ok (.goto 4, 3) := by decide +kernel
theorem dX6_isKin_32 : decode cX6_isKin 32 = .ok (.iload_n 1, 1) := by decide +kernel
theorem dX6_isKin_33 : decode cX6_isKin 33 = .ok (.invokevirtual 66, 3) := by decide +kernel
theorem dX6_isKin_36 : decode cX6_isKin 36 = .ok (.istore 4, 2) := by decide +kernel
theorem dX6_isKin_38 : decode cX6_isKin 38 = .ok (.aload_n 0, 1) := by decide +kernel
theorem dX6_isKin_39 : decode cX6_isKin 39 = .ok (.getfield 29, 3) := by decide +kernel
theorem dX6_isKin_42 : decode cX6_isKin 42 = .ok (.lookupswitch 66 #[(0, 26), (1, 42)], 26) := by decide +kernel
theorem dX6_isKin_68 : decode cX6_isKin 68 = .ok (.iload_n 3, 1) := by decide +kernel
theorem dX6_isKin_69 : decode cX6_isKin 69 = .ok (.iload 4, 2) := by decide +kernel
theorem dX6_isKin_71 : decode cX6_isKin 71 = .ok (.invokestatic 87, 3) := by decide +kernel
theorem dX6_isKin_74 : decode cX6_isKin 74 = .ok (.iconst 1, 1) := by decide +kernel
theorem dX6_isKin_75 : decode cX6_isKin 75 = .ok (.if_icmp .le 7, 3) := by decide +kernel
theorem dX6_isKin_78 : decode cX6_isKin 78 = .ok (.iconst 1, 1) := by decide +kernel
theorem dX6_isKin_79 : decode cX6_isKin 79 = .ok (.goto 4, 3) := by decide +kernel
theorem dX6_isKin_82 : decode cX6_isKin 82 = .ok (.iconst 0, 1) := by decide +kernel
theorem dX6_isKin_83 : decode cX6_isKin 83 = .ok (.ireturn, 1) := by decide +kernel
theorem dX6_isKin_84 : decode cX6_isKin 84 = .ok (.iload_n 3, 1) := by decide +kernel
theorem dX6_isKin_85 : decode cX6_isKin 85 = .ok (.iload 4, 2) := by decide +kernel
theorem dX6_isKin_87 : decode cX6_isKin 87 = .ok (.invokestatic 90, 3) := by decide +kernel
theorem dX6_isKin_90 : decode cX6_isKin 90 = .ok (.ifCond .ne 12, 3) := by decide +kernel
theorem dX6_isKin_93 : decode cX6_isKin 93 = .ok (.iload 4, 2) := by decide +kernel
theorem dX6_isKin_95 : decode cX6_isKin 95 = .ok (.iload_n 3, 1) := by decide +kernel
theorem dX6_isKin_96 : decode cX6_isKin 96 = .ok (.invokestatic 90, 3) := by decide +kernel
theorem dX6_isKin_99 : decode cX6_isKin 99 = .ok (.ifCond .eq 7, 3) := by decide +kernel
theorem dX6_isKin_102 : decode cX6_isKin 102 = .ok (.iconst 1, 1) := by decide +kernel
theorem dX6_isKin_103 : decode cX6_isKin 103 = .ok (.goto 4, 3) := by decide +kernel
theorem dX6_isKin_106 : decode cX6_isKin 106 = .ok (.iconst 0, 1) := by decide +kernel
theorem dX6_isKin_107 : decode cX6_isKin 107 = .ok (.ireturn, 1) := by decide +kernel
theorem dX6_isKin_108 : decode cX6_isKin 108 = .ok (.iload_n 3, 1) := by decide +kernel
theorem dX6_isKin_109 : decode cX6_isKin 109 = .ok (.iload 4, 2) := by decide +kernel
theorem dX6_isKin_111 : decode cX6_isKin 111 = .ok (.invokestatic 90, 3) := by decide +kernel
theorem dX6_isKin_114 : decode cX6_isKin 114 = .ok (.ireturn, 1) := by decide +kernel
set_option maxRecDepth 20000 in
theorem ggX6_kinOf_X6_isKin : GoodIn wsX6_kinOf wsX6_isKin := goodIn_r _ [6, 7, 8, 9, 10, 5, 11, 1, 12, 13, 14, 15, 16, 17, 18, 19, 20, 21, 22, 23, 24, 25] (by decide +kernel) (by decide +kernel)
set_option maxRecDepth 20000 in
theorem gX6_kinOf_X6_isKin : GoodIn wsX6_kinOf (wsV RX6 104 RX6 yX6_isKin wsX6_isKin) := goodIn_app (goodIn_of _ (by decide +kernel)) ggX6_kinOf_X6_isKin
theorem dX6_kinOf_0 : decode cX6_kinOf 0 = .ok (.iconst 0, 1) := by decide +kernel
theorem dX6_kinOf_1 : decode cX6_kinOf 1 = .ok (.istore_n 2, 1) := by decide +kernel
theorem dX6_kinOf_2 : decode cX6_kinOf 2 = .ok (.iconst 0, 1) := by decide +kernel
theorem dX6_kinOf_3 : decode cX6_kinOf 3 = .ok (.istore_n 3, 1) := by decide +kernel
theorem dX6_kinOf_4 : decode cX6_kinOf 4 = .ok (.iload_n 3, 1) := by decide +kernel
theorem dX6_kinOf_5 : decode cX6_kinOf 5 = .ok (.aload_n 0, 1) := by decide +kernel
theorem dX6_kinOf_6 : decode cX6_kinOf 6 = .ok (.getfield 26, 3) := by decide +kernel
theorem dX6_kinOf_9 : decode cX6_kinOf 9 = .ok (.if_icmp .ge 21, 3) := by decide +kernel
theorem dX6_kinOf_12 : decode cX6_kinOf 12 = .ok (.aload_n 0, 1) := by decide +kernel
theorem dX6_kinOf_13 : decode cX6_kinOf 13 = .ok (.iload_n 1, 1) := by decide +kernel
theorem dX6_kinOf_14 : decode cX6_kinOf 14 = .ok (.iload_n 3, 1) := by decide +kernel
theorem dX6_kinOf_15 : decode cX6_kinOf 15 = .ok (.invokevirtual 104, 3) := by decide +kernel
theorem dX6_kinOf_18 : decode cX6_kinOf 18 = .ok (.ifCond .eq 6, 3) := by decide +kernel
theorem dX6_kinOf_21 : decode cX6_kinOf 21 = .ok (.iinc 2 1, 3) := by decide +kernel
theorem dX6_kinOf_24 : decode cX6_kinOf 24 = .ok (.iinc 3 1, 3) := by decide +kernel
theorem dX6_kinOf_27 : decode cX6_kinOf 27 = .ok (.goto (-23), 3) := by decide +kernel
theorem dX6_kinOf_30 : decode cX6_kinOf 30 = .ok (.iload_n 2, 1) := by decide +kernel
theorem dX6_kinOf_31 : decode cX6_kinOf 31 = .ok (.ireturn, 1) := by decide +kernel
set_option maxRecDepth 20000 in
theorem ggX6_pairs_X6_isKin : GoodIn wsX6_pairs wsX6_isKin := goodIn_r _ [6, 7, 8, 9, 10, 5, 11, 1, 12, 13, 14, 15, 16, 17, 18, 19, 20, 21, 22, 23, 24, 25] (by decide +kernel) (by decide +kernel)
set_option maxRecDepth 20000 in
theorem gX6_pairs_X6_isKin : GoodIn wsX6_pairs (wsV RX6 104 RX6 yX6_isKin wsX6_isKin) := goodIn_app (goodIn_of _ (by decide +kernel)) ggX6_pairs_X6_isKin
theorem dX6_pairs_0 : decode cX6_pairs 0 = .ok (.iconst 0, 1) := by decide +kernel
theorem dX6_pairs_1 : decode cX6_pairs 1 = .ok (.istore_n 1, 1) := by decide +kernel
theorem dX6_pairs_2 : decode cX6_pairs 2 = .ok (.iconst 1, 1) := by decide +kernel
theorem dX6_pairs_3 : decode cX6_pairs 3 = .ok (.istore_n 2, 1) := by decide +kernel
theorem dX6_pairs_4 : decode cX6_pairs 4 = .ok (.iload_n 2, 1) := by decide +kernel
theorem dX6_pairs_5 : decode cX6_pairs 5 = .ok (.aload_n 0, 1) := by decide +kernel
theorem dX6_pairs_6 : decode cX6_pairs 6 = .ok (.getfield 26, 3) := by decide +kernel
theorem dX6_pairs_9 : decode cX6_pairs 9 = .ok (.if_icmp .ge 34, 3) := by decide +kernel
theorem dX6_pairs_12 : decode cX6_pairs 12 = .ok (.iconst 0, 1) := by decide +kernel
theorem dX6_pairs_13 : decode cX6_pairs 13 = .ok (.istore_n 3, 1) := by decide +kernel
theorem dX6_pairs_14 : decode cX6_pairs 14 = .ok (.iload_n 3, 1) := by decide +kernel
theorem dX6_pairs_15 : decode cX6_pairs 15 = .ok (.iload_n 2, 1) := by decide +kernel
theorem dX6_pairs_16 : decode cX6_pairs 16 = .ok (.if_icmp .ge 21, 3) := by decide +kernel
theorem dX6_pairs_19 : decode cX6_pairs 19 = .ok (.aload_n 0, 1) := by decide +kernel
theorem dX6_pairs_20 : decode cX6_pairs 20 = .ok (.iload_n 3, 1) := by decide +kernel
theorem dX6_pairs_21 : decode cX6_pairs 21 = .ok (.iload_n 2, 1) := by decide +kernel
theorem dX6_pairs_22 : decode cX6_pairs 22 = .ok (.invokevirtual 104, 3) := by decide +kernel
theorem dX6_pairs_25 : decode cX6_pairs 25 = .ok (.ifCond .eq 6, 3) := by decide +kernel
theorem dX6_pairs_28 : decode cX6_pairs 28 = .ok (.iinc 1 1, 3) := by decide +kernel
theorem dX6_pairs_31 : decode cX6_pairs 31 = .ok (.iinc 3 1, 3) := by decide +kernel
theorem dX6_pairs_34 : decode cX6_pairs 34 = .ok (.goto (-20), 3) := by decide +kernel
theorem dX6_pairs_37 : decode cX6_pairs 37 = .ok (.iinc 2 1, 3) := by decide +kernel
theorem dX6_pairs_40 : decode cX6_pairs 40 = .ok (.goto (-36), 3) := by decide +kernel
theorem dX6_pairs_43 : decode cX6_pairs 43 = .ok (.iload_n 1, 1) := by decide +kernel
theorem dX6_pairs_44 : decode cX6_pairs 44 = .ok (.ireturn, 1) := by decide +kernel
set_option maxRecDepth 20000 in
theorem ggX6_obstacle_X6_isKin : GoodIn wsX6_obstacle wsX6_isKin := goodIn_r _ [6, 7, 8, 9, 10, 5, 11, 12, 13, 14, 15, 16, 17, 18, 19, 20, 21, 22, 23, 24, 25, 26] (by decide +kernel) (by decide +kernel)
set_option maxRecDepth 20000 in
theorem gX6_obstacle_X6_isKin : GoodIn wsX6_obstacle (wsV RX6 104 RX6 yX6_isKin wsX6_isKin) := goodIn_app (goodIn_of _ (by decide +kernel)) ggX6_obstacle_X6_isKin
theorem dX6_obstacle_0 : decode cX6_obstacle 0 = .ok (.iload_n 2, 1) := by decide +kernel
theorem dX6_obstacle_1 : decode cX6_obstacle 1 = .ok (.iload_n 1, 1) := by decide +kernel
theorem dX6_obstacle_2 : decode cX6_obstacle 2 = .ok (.if_icmp .gt 5, 3) := by decide +kernel
theorem dX6_obstacle_5 : decode cX6_obstacle 5 = .ok (.iconst 1, 1) := by decide +kernel
theorem dX6_obstacle_6 : decode cX6_obstacle 6 = .ok (.ireturn, 1) := by decide +kernel
theorem dX6_obstacle_7 : decode cX6_obstacle 7 = .ok (.iload_n 2, 1) := by decide +kernel
theorem dX6_obstacle_8 : decode cX6_obstacle 8 = .ok (.iload_n 1, 1) := by decide +kernel
theorem dX6_obstacle_9 : decode cX6_obstacle 9 = .ok (.isub, 1) := by decide +kernel
theorem dX6_obstacle_10 : decode cX6_obstacle 10 = .ok (.aload_n 0, 1) := by decide +kernel
theorem dX6_obstacle_11 : decode cX6_obstacle 11 = .ok (.getfield 22, 3) := by decide +kernel
theorem dX6_obstacle_14 : decode cX6_obstacle 14 = .ok (.if_icmp .le 5, 3) := by decide +kernel
theorem dX6_obstacle_17 : decode cX6_obstacle 17 = .ok (.iconst 2, 1) := by decide +kernel
theorem dX6_obstacle_18 : decode cX6_obstacle 18 = .ok (.ireturn, 1) := by decide +kernel
theorem dX6_obstacle_19 : decode cX6_obstacle 19 = .ok (.aload_n 0, 1) := by decide +kernel
theorem dX6_obstacle_20 : decode cX6_obstacle 20 = .ok (.iload_n 1, 1) := by decide +kernel
theorem dX6_obstacle_21 : decode cX6_obstacle 21 = .ok (.iload_n 2, 1) := by decide +kernel
theorem dX6_obstacle_22 : decode cX6_obstacle 22 = .ok (.invokevirtual 104, 3) := by decide +kernel
theorem dX6_obstacle_25 : decode cX6_obstacle 25 = .ok (.ifCond .eq 7, 3) := by decide +kernel
theorem dX6_obstacle_28 : decode cX6_obstacle 28 = .ok (.iconst 0, 1) := by decide +kernel
theorem dX6_obstacle_29 : decode cX6_obstacle 29 = .ok (.goto 4, 3) := by decide +kernel
theorem dX6_obstacle_32 : decode cX6_obstacle 32 = .ok (.iconst 3, 1) := by decide +kernel
theorem dX6_obstacle_33 : decode cX6_obstacle 33 = .ok (.ireturn, 1) := by decide +kernel
set_option maxRecDepth 20000 in
theorem ggX6_leads_X6_obstacle : GoodIn wsX6_leads wsX6_obstacle := goodIn_r _ [5, 6, 7, 8, 9, 4, 10, 11, 12, 13, 14, 15, 16, 17, 18, 19, 20, 21, 22, 23, 24, 25, 26, 27, 28, 29, 30] (by decide +kernel) (by decide +kernel)
set_option maxRecDepth 20000 in
theorem gX6_leads_X6_obstacle : GoodIn wsX6_leads (wsV RX6 107 RX6 yX6_obstacle wsX6_obstacle) := goodIn_app (goodIn_of _ (by decide +kernel)) ggX6_leads_X6_obstacle
theorem dX6_leads_0 : decode cX6_leads 0 = .ok (.aload_n 0, 1) := by decide +kernel
theorem dX6_leads_1 : decode cX6_leads 1 = .ok (.iload_n 1, 1) := by decide +kernel
theorem dX6_leads_2 : decode cX6_leads 2 = .ok (.iload_n 2, 1) := by decide +kernel
theorem dX6_leads_3 : decode cX6_leads 3 = .ok (.invokevirtual 107, 3) := by decide +kernel
theorem dX6_leads_6 : decode cX6_leads 6 = .ok (.ifCond .ne 7, 3) := by decide +kernel
theorem dX6_leads_9 : decode cX6_leads 9 = .ok (.iconst 1, 1) := by decide +kernel
theorem dX6_leads_10 : decode cX6_leads 10 = .ok (.goto 4, 3) := by decide +kernel
theorem dX6_leads_13 : decode cX6_leads 13 = .ok (.iconst 0, 1) := by decide +kernel
theorem dX6_leads_14 : decode cX6_leads 14 = .ok (.ireturn, 1) := by decide +kernel
set_option maxRecDepth 20000 in
theorem ggX6_leadsFrom_X6_leads : GoodIn wsX6_leadsFrom wsX6_leads := goodIn_r _ [6, 7, 8, 9, 5, 10, 11, 12, 13, 14, 15, 16, 17, 18, 19, 20, 1, 21, 22, 23, 24, 25, 26, 27, 28, 29, 30, 31, 32, 33, 34] (by decide +kernel) (by decide +kernel)
set_option maxRecDepth 20000 in
theorem gX6_leadsFrom_X6_leads : GoodIn wsX6_leadsFrom (wsV RX6 110 RX6 yX6_leads wsX6_leads) := goodIn_app (goodIn_of _ (by decide +kernel)) ggX6_leadsFrom_X6_leads
theorem dX6_leadsFrom_0 : decode cX6_leadsFrom 0 = .ok (.iconst 0, 1) := by decide +kernel
theorem dX6_leadsFrom_1 : decode cX6_leadsFrom 1 = .ok (.istore_n 2, 1) := by decide +kernel
theorem dX6_leadsFrom_2 : decode cX6_leadsFrom 2 = .ok (.iload_n 1, 1) := by decide +kernel
theorem dX6_leadsFrom_3 : decode cX6_leadsFrom 3 = .ok (.iconst 1, 1) := by decide +kernel
theorem dX6_leadsFrom_4 : decode cX6_leadsFrom 4 = .ok (.iadd, 1) := by decide +kernel
theorem dX6_leadsFrom_5 : decode cX6_leadsFrom 5 = .ok (.istore_n 3, 1) := by decide +kernel
theorem dX6_leadsFrom_6 : decode cX6_leadsFrom 6 = .ok (.iload_n 3, 1) := by decide +kernel
theorem dX6_leadsFrom_7 : decode cX6_leadsFrom 7 = .ok (.aload_n 0, 1) := by decide +kernel
theorem dX6_leadsFrom_8 : decode cX6_leadsFrom 8 = .ok (.getfield 26, 3) := by decide +kernel
theorem dX6_leadsFrom_11 : decode cX6_leadsFrom 11 = .ok (.if_icmp .ge 21, 3) := by decide +kernel
theorem dX6_leadsFrom_14 : decode cX6_leadsFrom 14 = .ok (.aload_n 0, 1) := by decide +kernel
theorem dX6_leadsFrom_15 : decode cX6_leadsFrom 15 = .ok (.iload_n 1, 1) := by decide +kernel
theorem dX6_leadsFrom_16 : decode cX6_leadsFrom 16 = .ok (.iload_n 3, 1) := by decide +kernel
theorem dX6_leadsFrom_17 : decode cX6_leadsFrom 17 = .ok (.invokevirtual 110, 3) := by decide +kernel
theorem dX6_leadsFrom_20 : decode cX6_leadsFrom 20 = .ok (.ifCond .eq 6, 3) := by decide +kernel
theorem dX6_leadsFrom_23 : decode cX6_leadsFrom 23 = .ok (.iinc 2 1, 3) := by decide +kernel
theorem dX6_leadsFrom_26 : decode cX6_leadsFrom 26 = .ok (.iinc 3 1, 3) := by decide +kernel
theorem dX6_leadsFrom_29 : decode cX6_leadsFrom 29 = .ok (.goto (-23), 3) := by decide +kernel
theorem dX6_leadsFrom_32 : decode cX6_leadsFrom 32 = .ok (.iload_n 2, 1) := by decide +kernel
theorem dX6_leadsFrom_33 : decode cX6_leadsFrom 33 = .ok (.ireturn, 1) := by decide +kernel
set_option maxRecDepth 20000 in
theorem ggX6_sumOfExponents_X6_numberOf : GoodIn wsX6_sumOfExponents wsX6_numberOf := goodIn_r _ [6, 1, 7, 18, 19, 20, 21, 22, 23] (by decide +kernel) (by decide +kernel)
set_option maxRecDepth 20000 in
theorem gX6_sumOfExponents_X6_numberOf : GoodIn wsX6_sumOfExponents (wsV RX6 66 RX6 yX6_numberOf wsX6_numberOf) := goodIn_app (goodIn_of _ (by decide +kernel)) ggX6_sumOfExponents_X6_numberOf
set_option maxRecDepth 20000 in
theorem ggX6_sumOfExponents_X7_exponent : GoodIn wsX6_sumOfExponents wsX7_exponent := goodIn_r _ [11, 12, 13, 10, 14, 15, 16, 17] (by decide +kernel) (by decide +kernel)
set_option maxRecDepth 20000 in
theorem gX6_sumOfExponents_X7_exponent : GoodIn wsX6_sumOfExponents (va_wsS RX6 113 yX7_exponent wsX7_exponent) := goodIn_app (goodIn_of _ (by decide +kernel)) ggX6_sumOfExponents_X7_exponent
theorem dX6_sumOfExponents_0 : decode cX6_sumOfExponents 0 = .ok (.iconst 0, 1) := by decide +kernel
theorem dX6_sumOfExponents_1 : decode cX6_sumOfExponents 1 = .ok (.istore_n 2, 1) := by decide +kernel
theorem dX6_sumOfExponents_2 : decode cX6_sumOfExponents 2 = .ok (.iconst 0, 1) := by decide +kernel
theorem dX6_sumOfExponents_3 : decode cX6_sumOfExponents 3 = .ok (.istore_n 3, 1) := by decide +kernel
theorem dX6_sumOfExponents_4 : decode cX6_sumOfExponents 4 = .ok (.iload_n 3, 1) := by decide +kernel
theorem dX6_sumOfExponents_5 : decode cX6_sumOfExponents 5 = .ok (.aload_n 0, 1) := by decide +kernel
theorem dX6_sumOfExponents_6 : decode cX6_sumOfExponents 6 = .ok (.getfield 26, 3) := by decide +kernel
theorem dX6_sumOfExponents_9 : decode cX6_sumOfExponents 9 = .ok (.if_icmp .ge 21, 3) := by decide +kernel
theorem dX6_sumOfExponents_12 : decode cX6_sumOfExponents 12 = .ok (.iload_n 2, 1) := by decide +kernel
theorem dX6_sumOfExponents_13 : decode cX6_sumOfExponents 13 = .ok (.aload_n 0, 1) := by decide +kernel
theorem dX6_sumOfExponents_14 : decode cX6_sumOfExponents 14 = .ok (.iload_n 3, 1) := by decide +kernel
theorem dX6_sumOfExponents_15 : decode cX6_sumOfExponents 15 = .ok (.invokevirtual 66, 3) := by decide +kernel
theorem dX6_sumOfExponents_18 : decode cX6_sumOfExponents 18 = .ok (.iload_n 1, 1) := by decide +kernel
theorem dX6_sumOfExponents_19 : decode cX6_sumOfExponents 19 = .ok (.invokestatic 113, 3) := by decide +kernel
theorem dX6_sumOfExponents_22 : decode cX6_sumOfExponents 22 = .ok (.iadd, 1) := by decide +kernel
theorem dX6_sumOfExponents_23 : decode cX6_sumOfExponents 23 = .ok (.istore_n 2, 1) := by decide +kernel
theorem dX6_sumOfExponents_24 : decode cX6_sumOfExponents 24 = .ok (.iinc 3 1, 3) := by decide +kernel
theorem dX6_sumOfExponents_27 : decode cX6_sumOfExponents 27 = .ok (.goto (-23), 3) := by decide +kernel
theorem dX6_sumOfExponents_30 : decode cX6_sumOfExponents 30 = .ok (.iload_n 2, 1) := by decide +kernel
theorem dX6_sumOfExponents_31 : decode cX6_sumOfExponents 31 = .ok (.ireturn, 1) := by decide +kernel
set_option maxRecDepth 20000 in
theorem ggX6_greatestExponent_X6_numberOf : GoodIn wsX6_greatestExponent wsX6_numberOf := goodIn_r _ [10, 1, 11, 22, 23, 24, 25, 26, 27] (by decide +kernel) (by decide +kernel)
set_option maxRecDepth 20000 in
theorem gX6_greatestExponent_X6_numberOf : GoodIn wsX6_greatestExponent (wsV RX6 66 RX6 yX6_numberOf wsX6_numberOf) := goodIn_app (goodIn_of _ (by decide +kernel)) ggX6_greatestExponent_X6_numberOf
set_option maxRecDepth 20000 in
theorem ggX6_greatestExponent_X7_exponent : GoodIn wsX6_greatestExponent wsX7_exponent := goodIn_r _ [15, 16, 17, 14, 18, 19, 20, 21] (by decide +kernel) (by decide +kernel)
set_option maxRecDepth 20000 in
theorem gX6_greatestExponent_X7_exponent : GoodIn wsX6_greatestExponent (va_wsS RX6 113 yX7_exponent wsX7_exponent) := goodIn_app (goodIn_of _ (by decide +kernel)) ggX6_greatestExponent_X7_exponent
theorem dX6_greatestExponent_0 : decode cX6_greatestExponent 0 = .ok (.iconst 0, 1) := by decide +kernel
theorem dX6_greatestExponent_1 : decode cX6_greatestExponent 1 = .ok (.istore_n 2, 1) := by decide +kernel
theorem dX6_greatestExponent_2 : decode cX6_greatestExponent 2 = .ok (.iconst 0, 1) := by decide +kernel
theorem dX6_greatestExponent_3 : decode cX6_greatestExponent 3 = .ok (.istore_n 3, 1) := by decide +kernel
theorem dX6_greatestExponent_4 : decode cX6_greatestExponent 4 = .ok (.iload_n 3, 1) := by decide +kernel
theorem dX6_greatestExponent_5 : decode cX6_greatestExponent 5 = .ok (.aload_n 0, 1) := by decide +kernel
theorem dX6_greatestExponent_6 : decode cX6_greatestExponent 6 = .ok (.getfield 26, 3) := by decide +kernel
theorem dX6_greatestExponent_9 : decode cX6_greatestExponent 9 = .ok (.if_icmp .ge 23, 3) := by decide +kernel
theorem dX6_greatestExponent_12 : decode cX6_greatestExponent 12 = .ok (.iload_n 2, 1) := by decide +kernel
theorem dX6_greatestExponent_13 : decode cX6_greatestExponent 13 = .ok (.aload_n 0, 1) := by decide +kernel
theorem dX6_greatestExponent_14 : decode cX6_greatestExponent 14 = .ok (.iload_n 3, 1) := by decide +kernel
theorem dX6_greatestExponent_15 : decode cX6_greatestExponent 15 = .ok (.invokevirtual 66, 3) := by decide +kernel
theorem dX6_greatestExponent_18 : decode cX6_greatestExponent 18 = .ok (.iload_n 1, 1) := by decide +kernel
theorem dX6_greatestExponent_19 : decode cX6_greatestExponent 19 = .ok (.invokestatic 113, 3) := by decide +kernel
theorem dX6_greatestExponent_22 : decode cX6_greatestExponent 22 = .ok (.invokestatic 116, 3) := by decide +kernel
theorem dX6_greatestExponent_25 : decode cX6_greatestExponent 25 = .ok (.istore_n 2, 1) := by decide +kernel
theorem dX6_greatestExponent_26 : decode cX6_greatestExponent 26 = .ok (.iinc 3 1, 3) := by decide +kernel
theorem dX6_greatestExponent_29 : decode cX6_greatestExponent 29 = .ok (.goto (-25), 3) := by decide +kernel
theorem dX6_greatestExponent_32 : decode cX6_greatestExponent 32 = .ok (.iload_n 2, 1) := by decide +kernel
theorem dX6_greatestExponent_33 : decode cX6_greatestExponent 33 = .ok (.ireturn, 1) := by decide +kernel
set_option maxRecDepth 20000 in
theorem ggX6_multiplesOf_X6_numberOf : GoodIn wsX6_multiplesOf wsX6_numberOf := goodIn_r _ [6, 1, 7, 12, 13, 14, 15, 16, 17] (by decide +kernel) (by decide +kernel)
set_option maxRecDepth 20000 in
theorem gX6_multiplesOf_X6_numberOf : GoodIn wsX6_multiplesOf (wsV RX6 66 RX6 yX6_numberOf wsX6_numberOf) := goodIn_app (goodIn_of _ (by decide +kernel)) ggX6_multiplesOf_X6_numberOf
set_option maxRecDepth 20000 in
theorem ggX6_multiplesOf_X7_divides : GoodIn wsX6_multiplesOf wsX7_divides := goodIn_r _ [11] (by decide +kernel) (by decide +kernel)
set_option maxRecDepth 20000 in
theorem gX6_multiplesOf_X7_divides : GoodIn wsX6_multiplesOf (va_wsS RX6 90 yX7_divides wsX7_divides) := goodIn_app (goodIn_of _ (by decide +kernel)) ggX6_multiplesOf_X7_divides
theorem dX6_multiplesOf_0 : decode cX6_multiplesOf 0 = .ok (.iconst 0, 1) := by decide +kernel
theorem dX6_multiplesOf_1 : decode cX6_multiplesOf 1 = .ok (.istore_n 2, 1) := by decide +kernel
theorem dX6_multiplesOf_2 : decode cX6_multiplesOf 2 = .ok (.iconst 0, 1) := by decide +kernel
theorem dX6_multiplesOf_3 : decode cX6_multiplesOf 3 = .ok (.istore_n 3, 1) := by decide +kernel
theorem dX6_multiplesOf_4 : decode cX6_multiplesOf 4 = .ok (.iload_n 3, 1) := by decide +kernel
theorem dX6_multiplesOf_5 : decode cX6_multiplesOf 5 = .ok (.aload_n 0, 1) := by decide +kernel
theorem dX6_multiplesOf_6 : decode cX6_multiplesOf 6 = .ok (.getfield 26, 3) := by decide +kernel
theorem dX6_multiplesOf_9 : decode cX6_multiplesOf 9 = .ok (.if_icmp .ge 24, 3) := by decide +kernel
theorem dX6_multiplesOf_12 : decode cX6_multiplesOf 12 = .ok (.iload_n 1, 1) := by decide +kernel
theorem dX6_multiplesOf_13 : decode cX6_multiplesOf 13 = .ok (.aload_n 0, 1) := by decide +kernel
theorem dX6_multiplesOf_14 : decode cX6_multiplesOf 14 = .ok (.iload_n 3, 1) := by decide +kernel
theorem dX6_multiplesOf_15 : decode cX6_multiplesOf 15 = .ok (.invokevirtual 66, 3) := by decide +kernel
theorem dX6_multiplesOf_18 : decode cX6_multiplesOf 18 = .ok (.invokestatic 90, 3) := by decide +kernel
theorem dX6_multiplesOf_21 : decode cX6_multiplesOf 21 = .ok (.ifCond .eq 6, 3) := by decide +kernel
theorem dX6_multiplesOf_24 : decode cX6_multiplesOf 24 = .ok (.iinc 2 1, 3) := by decide +kernel
theorem dX6_multiplesOf_27 : decode cX6_multiplesOf 27 = .ok (.iinc 3 1, 3) := by decide +kernel
theorem dX6_multiplesOf_30 : decode cX6_multiplesOf 30 = .ok (.goto (-26), 3) := by decide +kernel
theorem dX6_multiplesOf_33 : decode cX6_multiplesOf 33 = .ok (.iload_n 2, 1) := by decide +kernel
theorem dX6_multiplesOf_34 : decode cX6_multiplesOf 34 = .ok (.ireturn, 1) := by decide +kernel
set_option maxRecDepth 20000 in
theorem ggX6_ones_X6_numberOf : GoodIn wsX6_ones wsX6_numberOf := goodIn_r _ [6, 1, 7, 8, 9, 10, 11, 12, 13] (by decide +kernel) (by decide +kernel)
set_option maxRecDepth 20000 in
theorem gX6_ones_X6_numberOf : GoodIn wsX6_ones (wsV RX6 66 RX6 yX6_numberOf wsX6_numberOf) := goodIn_app (goodIn_of _ (by decide +kernel)) ggX6_ones_X6_numberOf
theorem dX6_ones_0 : decode cX6_ones 0 = .ok (.iconst 0, 1) := by decide +kernel
theorem dX6_ones_1 : decode cX6_ones 1 = .ok (.istore_n 1, 1) := by decide +kernel
theorem dX6_ones_2 : decode cX6_ones 2 = .ok (.iconst 0, 1) := by decide +kernel
theorem dX6_ones_3 : decode cX6_ones 3 = .ok (.istore_n 2, 1) := by decide +kernel
theorem dX6_ones_4 : decode cX6_ones 4 = .ok (.iload_n 2, 1) := by decide +kernel
theorem dX6_ones_5 : decode cX6_ones 5 = .ok (.aload_n 0, 1) := by decide +kernel
theorem dX6_ones_6 : decode cX6_ones 6 = .ok (.getfield 26, 3) := by decide +kernel
theorem dX6_ones_9 : decode cX6_ones 9 = .ok (.if_icmp .ge 21, 3) := by decide +kernel
theorem dX6_ones_12 : decode cX6_ones 12 = .ok (.aload_n 0, 1) := by decide +kernel
theorem dX6_ones_13 : decode cX6_ones 13 = .ok (.iload_n 2, 1) := by decide +kernel
theorem dX6_ones_14 : decode cX6_ones 14 = .ok (.invokevirtual 66, 3) := by decide +kernel
theorem dX6_ones_17 : decode cX6_ones 17 = .ok (.iconst 1, 1) := by decide +kernel
theorem dX6_ones_18 : decode cX6_ones 18 = .ok (.if_icmp .ne 6, 3) := by decide +kernel
theorem dX6_ones_21 : decode cX6_ones 21 = .ok (.iinc 1 1, 3) := by decide +kernel
theorem dX6_ones_24 : decode cX6_ones 24 = .ok (.iinc 2 1, 3) := by decide +kernel
theorem dX6_ones_27 : decode cX6_ones 27 = .ok (.goto (-23), 3) := by decide +kernel
theorem dX6_ones_30 : decode cX6_ones 30 = .ok (.iload_n 1, 1) := by decide +kernel
theorem dX6_ones_31 : decode cX6_ones 31 = .ok (.ireturn, 1) := by decide +kernel
set_option maxRecDepth 20000 in
theorem ggX6_differentPrimes_X6_numberOf : GoodIn wsX6_differentPrimes wsX6_numberOf := goodIn_r _ [6, 1, 7, 29, 30, 31, 32, 33, 34] (by decide +kernel) (by decide +kernel)
set_option maxRecDepth 20000 in
theorem gX6_differentPrimes_X6_numberOf : GoodIn wsX6_differentPrimes (wsV RX6 66 RX6 yX6_numberOf wsX6_numberOf) := goodIn_app (goodIn_of _ (by decide +kernel)) ggX6_differentPrimes_X6_numberOf
set_option maxRecDepth 20000 in
theorem ggX6_differentPrimes_X7_leastPrime : GoodIn wsX6_differentPrimes wsX7_leastPrime := goodIn_r _ [11, 12, 13, 10, 14] (by decide +kernel) (by decide +kernel)
set_option maxRecDepth 20000 in
theorem gX6_differentPrimes_X7_leastPrime : GoodIn wsX6_differentPrimes (va_wsS RX6 121 yX7_leastPrime wsX7_leastPrime) := goodIn_app (goodIn_of _ (by decide +kernel)) ggX6_differentPrimes_X7_leastPrime
set_option maxRecDepth 20000 in
theorem ggX6_differentPrimes_X6_dividesBelow : GoodIn wsX6_differentPrimes wsX6_dividesBelow := goodIn_r _ [18, 2, 3, 4, 5, 6, 1, 7, 19, 13, 10, 14, 29, 30, 31, 32, 33, 34] (by decide +kernel) (by decide +kernel)
set_option maxRecDepth 20000 in
theorem gX6_differentPrimes_X6_dividesBelow : GoodIn wsX6_differentPrimes (wsV RX6 124 RX6 yX6_dividesBelow wsX6_dividesBelow) := goodIn_app (goodIn_of _ (by decide +kernel)) ggX6_differentPrimes_X6_dividesBelow
set_option maxRecDepth 20000 in
theorem ggX6_differentPrimes_X7_withoutPrime : GoodIn wsX6_differentPrimes wsX7_withoutPrime := goodIn_r _ [22, 23, 24, 10, 25, 12, 13, 14, 26, 27, 28] (by decide +kernel) (by decide +kernel)
set_option maxRecDepth 20000 in
theorem gX6_differentPrimes_X7_withoutPrime : GoodIn wsX6_differentPrimes (va_wsS RX6 127 yX7_withoutPrime wsX7_withoutPrime) := goodIn_app (goodIn_of _ (by decide +kernel)) ggX6_differentPrimes_X7_withoutPrime
theorem dX6_differentPrimes_0 : decode cX6_differentPrimes 0 = .ok (.iconst 0, 1) := by decide +kernel
theorem dX6_differentPrimes_1 : decode cX6_differentPrimes 1 = .ok (.istore_n 1, 1) := by decide +kernel
theorem dX6_differentPrimes_2 : decode cX6_differentPrimes 2 = .ok (.iconst 0, 1) := by decide +kernel
theorem dX6_differentPrimes_3 : decode cX6_differentPrimes 3 = .ok (.istore_n 2, 1) := by decide +kernel
theorem dX6_differentPrimes_4 : decode cX6_differentPrimes 4 = .ok (.iload_n 2, 1) := by decide +kernel
theorem dX6_differentPrimes_5 : decode cX6_differentPrimes 5 = .ok (.aload_n 0, 1) := by decide +kernel
theorem dX6_differentPrimes_6 : decode cX6_differentPrimes 6 = .ok (.getfield 26, 3) := by decide +kernel
theorem dX6_differentPrimes_9 : decode cX6_differentPrimes 9 = .ok (.if_icmp .ge 62, 3) := by decide +kernel
theorem dX6_differentPrimes_12 : decode cX6_differentPrimes 12 = .ok (.aload_n 0, 1) := by decide +kernel
theorem dX6_differentPrimes_13 : decode cX6_differentPrimes 13 = .ok (.iload_n 2, 1) := by decide +kernel
theorem dX6_differentPrimes_14 : decode cX6_differentPrimes 14 = .ok (.invokevirtual 66, 3) := by decide +kernel
theorem dX6_differentPrimes_17 : decode cX6_differentPrimes 17 = .ok (.istore_n 3, 1) := by decide +kernel
theorem dX6_differentPrimes_18 : decode cX6_differentPrimes 18 = .ok (.iconst 0, 1) := by decide +kernel
theorem dX6_differentPrimes_19 : decode cX6_differentPrimes 19 = .ok (.istore 4, 2) := by decide +kernel
theorem dX6_differentPrimes_21 : decode cX6_differentPrimes 21 = .ok (.iload 4, 2) := by decide +kernel
theorem dX6_differentPrimes_23 : decode cX6_differentPrimes 23 = .ok (.bipush 13, 2) := by decide +kernel
theorem dX6_differentPrimes_25 : decode cX6_differentPrimes 25 = .ok (.if_icmp .ge 40, 3) := by decide +kernel
theorem dX6_differentPrimes_28 : decode cX6_differentPrimes 28 = .ok (.iload_n 3, 1) := by decide +kernel
theorem dX6_differentPrimes_29 : decode cX6_differentPrimes 29 = .ok (.iconst 1, 1) := by decide +kernel
theorem dX6_differentPrimes_30 : decode cX6_differentPrimes 30 = .ok (.if_icmp .le 35, 3) := by decide +kernel
theorem dX6_differentPrimes_33 : decode cX6_differentPrimes 33 = .ok (.iload_n 3, 1) := by decide +kernel
theorem dX6_differentPrimes_34 : decode cX6_differentPrimes 34 = .ok (.invokestatic 121, 3) := by decide +kernel
theorem dX6_differentPrimes_37 : decode cX6_differentPrimes 37 = .ok (.istore 5, 2) := by decide +kernel
theorem dX6_differentPrimes_39 : decode cX6_differentPrimes 39 = .ok (.aload_n 0, 1) := by decide +kernel
theorem dX6_differentPrimes_40 : decode cX6_differentPrimes 40 = .ok (.iload_n 2, 1) := by decide +kernel
theorem dX6_differentPrimes_41 : decode cX6_differentPrimes 41 = .ok (.iload 5, 2) := by decide +kernel
theorem dX6_differentPrimes_43 : decode cX6_differentPrimes 43 = .ok (.invokevirtual 124, 3) := by decide +kernel
theorem dX6_differentPrimes_46 : decode cX6_differentPrimes 46 = .ok (.ifCond .ne 6, 3) := by decide +kernel
theorem dX6_differentPrimes_49 : decode cX6_differentPrimes 49 = .ok (.iinc 1 1, 3) := by decide +kernel
theorem dX6_differentPrimes_52 : decode cX6_differentPrimes 52 = .ok (.iload_n 3, 1) := by decide +kernel
theorem dX6_differentPrimes_53 : decode cX6_differentPrimes 53 = .ok (.iload 5, 2) := by decide +kernel
theorem dX6_differentPrimes_55 : decode cX6_differentPrimes 55 = .ok (.invokestatic 127, 3) := by decide +kernel
theorem dX6_differentPrimes_58 : decode cX6_differentPrimes 58 = .ok (.istore_n 3, 1) := by decide +kernel
theorem dX6_differentPrimes_59 : decode cX6_differentPrimes 59 = .ok (.iinc 4 1, 3) := by decide +kernel
theorem dX6_differentPrimes_62 : decode cX6_differentPrimes 62 = .ok (.goto (-41), 3) := by decide +kernel
theorem dX6_differentPrimes_65 : decode cX6_differentPrimes 65 = .ok (.iinc 2 1, 3) := by decide +kernel
theorem dX6_differentPrimes_68 : decode cX6_differentPrimes 68 = .ok (.goto (-64), 3) := by decide +kernel
theorem dX6_differentPrimes_71 : decode cX6_differentPrimes 71 = .ok (.iload_n 1, 1) := by decide +kernel
theorem dX6_differentPrimes_72 : decode cX6_differentPrimes 72 = .ok (.ireturn, 1) := by decide +kernel
set_option maxRecDepth 20000 in
theorem ggX6_dividesBelow_X6_numberOf : GoodIn wsX6_dividesBelow wsX6_numberOf := goodIn_r _ [5, 6, 7, 12, 13, 14, 15, 16, 17] (by decide +kernel) (by decide +kernel)
set_option maxRecDepth 20000 in
theorem gX6_dividesBelow_X6_numberOf : GoodIn wsX6_dividesBelow (wsV RX6 66 RX6 yX6_numberOf wsX6_numberOf) := goodIn_app (goodIn_of _ (by decide +kernel)) ggX6_dividesBelow_X6_numberOf
set_option maxRecDepth 20000 in
theorem ggX6_dividesBelow_X7_divides : GoodIn wsX6_dividesBelow wsX7_divides := goodIn_r _ [11] (by decide +kernel) (by decide +kernel)
set_option maxRecDepth 20000 in
theorem gX6_dividesBelow_X7_divides : GoodIn wsX6_dividesBelow (va_wsS RX6 90 yX7_divides wsX7_divides) := goodIn_app (goodIn_of _ (by decide +kernel)) ggX6_dividesBelow_X7_divides
theorem dX6_dividesBelow_0 : decode cX6_dividesBelow 0 = .ok (.iconst 0, 1) := by decide +kernel
theorem dX6_dividesBelow_1 : decode cX6_dividesBelow 1 = .ok (.istore_n 3, 1) := by decide +kernel
theorem dX6_dividesBelow_2 : decode cX6_dividesBelow 2 = .ok (.iload_n 3, 1) := by decide +kernel
theorem dX6_dividesBelow_3 : decode cX6_dividesBelow 3 = .ok (.iload_n 1, 1) := by decide +kernel
theorem dX6_dividesBelow_4 : decode cX6_dividesBelow 4 = .ok (.if_icmp .ge 23, 3) := by decide +kernel
theorem dX6_dividesBelow_7 : decode cX6_dividesBelow 7 = .ok (.iload_n 2, 1) := by decide +kernel
theorem dX6_dividesBelow_8 : decode cX6_dividesBelow 8 = .ok (.aload_n 0, 1) := by decide +kernel
theorem dX6_dividesBelow_9 : decode cX6_dividesBelow 9 = .ok (.iload_n 3, 1) := by decide +kernel
theorem dX6_dividesBelow_10 : decode cX6_dividesBelow 10 = .ok (.invokevirtual 66, 3) := by decide +kernel
theorem dX6_dividesBelow_13 : decode cX6_dividesBelow 13 = .ok (.invokestatic 90, 3) := by decide +kernel
theorem dX6_dividesBelow_16 : decode cX6_dividesBelow 16 = .ok (.ifCond .eq 5, 3) := by decide +kernel
theorem dX6_dividesBelow_19 : decode cX6_dividesBelow 19 = .ok (.iconst 1, 1) := by decide +kernel
theorem dX6_dividesBelow_20 : decode cX6_dividesBelow 20 = .ok (.ireturn, 1) := by decide +kernel
theorem dX6_dividesBelow_21 : decode cX6_dividesBelow 21 = .ok (.iinc 3 1, 3) := by decide +kernel
theorem dX6_dividesBelow_24 : decode cX6_dividesBelow 24 = .ok (.goto (-22), 3) := by decide +kernel
theorem dX6_dividesBelow_27 : decode cX6_dividesBelow 27 = .ok (.iconst 0, 1) := by decide +kernel
theorem dX6_dividesBelow_28 : decode cX6_dividesBelow 28 = .ok (.ireturn, 1) := by decide +kernel
set_option maxRecDepth 20000 in
theorem ggX6_split_X6_numberOf : GoodIn wsX6_split wsX6_numberOf := goodIn_r _ [8, 9, 3, 66, 67, 68, 69, 70, 71] (by decide +kernel) (by decide +kernel)
set_option maxRecDepth 20000 in
theorem gX6_split_X6_numberOf : GoodIn wsX6_split (wsV RX6 66 RX6 yX6_numberOf wsX6_numberOf) := goodIn_app (goodIn_of _ (by decide +kernel)) ggX6_split_X6_numberOf
set_option maxRecDepth 20000 in
theorem ggX6_split_X7_quotient : GoodIn wsX6_split wsX7_quotient := goodIn_r _ [13] (by decide +kernel) (by decide +kernel)
set_option maxRecDepth 20000 in
theorem gX6_split_X7_quotient : GoodIn wsX6_split (va_wsS RX6 130 yX7_quotient wsX7_quotient) := goodIn_app (goodIn_of _ (by decide +kernel)) ggX6_split_X7_quotient
set_option maxRecDepth 20000 in
theorem ggX6_split_X0_book : GoodIn wsX6_split wsX0_book := goodIn_r _ [18, 19, 20, 21, 22, 23, 24, 17, 25, 26, 27, 28, 29, 30, 31, 32, 33, 34, 35, 36, 37, 38, 39, 40, 12, 41, 42, 43, 44, 45, 46, 47, 48, 49, 50, 51, 52, 53, 54, 55, 56, 57, 58, 59, 11, 13, 72, 73, 74, 75] (by decide +kernel) (by decide +kernel)
set_option maxRecDepth 20000 in
theorem gX6_split_X0_book : GoodIn wsX6_split (wsV RX6 59 RX0 yX0_book wsX0_book) := goodIn_app (goodIn_of _ (by decide +kernel)) ggX6_split_X0_book
set_option maxRecDepth 20000 in
theorem ggX6_split_X6_closeUp : GoodIn wsX6_split wsX6_closeUp := goodIn_r _ [63, 9, 3, 64, 50, 36, 51, 65, 57, 58, 66, 67, 68, 69, 70, 71] (by decide +kernel) (by decide +kernel)
set_option maxRecDepth 20000 in
theorem gX6_split_X6_closeUp : GoodIn wsX6_split (wsV RX6 70 RX6 yX6_closeUp wsX6_closeUp) := goodIn_app (goodIn_of _ (by decide +kernel)) ggX6_split_X6_closeUp
set_option maxRecDepth 20000 in
theorem ggX6_split_X5_put : GoodIn wsX6_split wsX5_put := goodIn_r _ [58] (by decide +kernel) (by decide +kernel)
set_option maxRecDepth 20000 in
theorem gX6_split_X5_put : GoodIn wsX6_split (va_wsS RX6 55 yX5_put wsX5_put) := goodIn_app (goodIn_of _ (by decide +kernel)) ggX6_split_X5_put
theorem dX6_split_0 : decode cX6_split 0 = .ok (.aload_n 0, 1) := by decide +kernel
theorem dX6_split_1 : decode cX6_split 1 = .ok (.iload_n 1, 1) := by decide +kernel
theorem dX6_split_2 : decode cX6_split 2 = .ok (.invokevirtual 66, 3) := by decide +kernel
theorem dX6_split_5 : decode cX6_split 5 = .ok (.iload_n 2, 1) := by decide +kernel
theorem dX6_split_6 : decode cX6_split 6 = .ok (.invokestatic 130, 3) := by decide +kernel
theorem dX6_split_9 : decode cX6_split 9 = .ok (.istore_n 3, 1) := by decide +kernel
theorem dX6_split_10 : decode cX6_split 10 = .ok (.aload_n 0, 1) := by decide +kernel
theorem dX6_split_11 : decode cX6_split 11 = .ok (.getfield 18, 3) := by decide +kernel
theorem dX6_split_14 : decode cX6_split 14 = .ok (.iload_n 2, 1) := by decide +kernel
theorem dX6_split_15 : decode cX6_split 15 = .ok (.iconst 1, 1) := by decide +kernel
theorem dX6_split_16 : decode cX6_split 16 = .ok (.iconst 0, 1) := by decide +kernel
theorem dX6_split_17 : decode cX6_split 17 = .ok (.invokevirtual 59, 3) := by decide +kernel
theorem dX6_split_20 : decode cX6_split 20 = .ok (.iload_n 3, 1) := by decide +kernel
theorem dX6_split_21 : decode cX6_split 21 = .ok (.iconst 1, 1) := by decide +kernel
theorem dX6_split_22 : decode cX6_split 22 = .ok (.if_icmp .ne 21, 3) := by decide +kernel
theorem dX6_split_25 : decode cX6_split 25 = .ok (.aload_n 0, 1) := by decide +kernel
theorem dX6_split_26 : decode cX6_split 26 = .ok (.iload_n 1, 1) := by decide +kernel
theorem dX6_split_27 : decode cX6_split 27 = .ok (.invokevirtual 70, 3) := by decide +kernel
theorem dX6_split_30 : decode cX6_split 30 = .ok (.aload_n 0, 1) := by decide +kernel
theorem dX6_split_31 : decode cX6_split 31 = .ok (.dup, 1) := by decide +kernel
theorem dX6_split_32 : decode cX6_split 32 = .ok (.getfield 32, 3) := by decide +kernel
theorem dX6_split_35 : decode cX6_split 35 = .ok (.iconst 1, 1) := by decide +kernel
theorem dX6_split_36 : decode cX6_split 36 = .ok (.iadd, 1) := by decide +kernel
theorem dX6_split_37 : decode cX6_split 37 = .ok (.putfield 32, 3) := by decide +kernel
theorem dX6_split_40 : decode cX6_split 40 = .ok (.goto 12, 3) := by decide +kernel
theorem dX6_split_43 : decode cX6_split 43 = .ok (.aload_n 0, 1) := by decide +kernel
theorem dX6_split_44 : decode cX6_split 44 = .ok (.getfield 9, 3) := by decide +kernel
theorem dX6_split_47 : decode cX6_split 47 = .ok (.iload_n 1, 1) := by decide +kernel
theorem dX6_split_48 : decode cX6_split 48 = .ok (.iload_n 3, 1) := by decide +kernel
theorem dX6_split_49 : decode cX6_split 49 = .ok (.invokestatic 55, 3) := by decide +kernel
theorem dX6_split_52 : decode cX6_split 52 = .ok (.iload_n 3, 1) := by decide +kernel
theorem dX6_split_53 : decode cX6_split 53 = .ok (.ireturn, 1) := by decide +kernel
set_option maxRecDepth 20000 in
theorem ggX6_closeUp_X5_at : GoodIn wsX6_closeUp wsX5_at := goodIn_r _ [6] (by decide +kernel) (by decide +kernel)
set_option maxRecDepth 20000 in
theorem gX6_closeUp_X5_at : GoodIn wsX6_closeUp (va_wsS RX6 51 yX5_at wsX5_at) := goodIn_app (goodIn_of _ (by decide +kernel)) ggX6_closeUp_X5_at
set_option maxRecDepth 20000 in
theorem ggX6_closeUp_X5_put : GoodIn wsX6_closeUp wsX5_put := goodIn_r _ [9] (by decide +kernel) (by decide +kernel)
set_option maxRecDepth 20000 in
theorem gX6_closeUp_X5_put : GoodIn wsX6_closeUp (va_wsS RX6 55 yX5_put wsX5_put) := goodIn_app (goodIn_of _ (by decide +kernel)) ggX6_closeUp_X5_put
theorem dX6_closeUp_0 : decode cX6_closeUp 0 = .ok (.iload_n 1, 1) := by decide +kernel
theorem dX6_closeUp_1 : decode cX6_closeUp 1 = .ok (.iconst 1, 1) := by decide +kernel
theorem dX6_closeUp_2 : decode cX6_closeUp 2 = .ok (.iadd, 1) := by decide +kernel
theorem dX6_closeUp_3 : decode cX6_closeUp 3 = .ok (.istore_n 2, 1) := by decide +kernel
theorem dX6_closeUp_4 : decode cX6_closeUp 4 = .ok (.iload_n 2, 1) := by decide +kernel
theorem dX6_closeUp_5 : decode cX6_closeUp 5 = .ok (.aload_n 0, 1) := by decide +kernel
theorem dX6_closeUp_6 : decode cX6_closeUp 6 = .ok (.getfield 26, 3) := by decide +kernel
theorem dX6_closeUp_9 : decode cX6_closeUp 9 = .ok (.if_icmp .ge 27, 3) := by decide +kernel
theorem dX6_closeUp_12 : decode cX6_closeUp 12 = .ok (.aload_n 0, 1) := by decide +kernel
theorem dX6_closeUp_13 : decode cX6_closeUp 13 = .ok (.getfield 9, 3) := by decide +kernel
theorem dX6_closeUp_16 : decode cX6_closeUp 16 = .ok (.iload_n 2, 1) := by decide +kernel
theorem dX6_closeUp_17 : decode cX6_closeUp 17 = .ok (.iconst 1, 1) := by decide +kernel
theorem dX6_closeUp_18 : decode cX6_closeUp 18 = .ok (.isub, 1) := by decide +kernel
theorem dX6_closeUp_19 : decode cX6_closeUp 19 = .ok (.aload_n 0, 1) := by decide +kernel
theorem dX6_closeUp_20 : decode cX6_closeUp 20 = .ok (.getfield 9, 3) := by decide +kernel
theorem dX6_closeUp_23 : decode cX6_closeUp 23 = .ok (.iload_n 2, 1) := by decide +kernel
theorem dX6_closeUp_24 : decode cX6_closeUp 24 = .ok (.invokestatic 51, 3) := by decide +kernel
theorem dX6_closeUp_27 : decode cX6_closeUp 27 = .ok (.invokestatic 55, 3) := by decide +kernel
theorem dX6_closeUp_30 : decode cX6_closeUp 30 = .ok (.iinc 2 1, 3) := by decide +kernel
theorem dX6_closeUp_33 : decode cX6_closeUp 33 = .ok (.goto (-29), 3) := by decide +kernel
theorem dX6_closeUp_36 : decode cX6_closeUp 36 = .ok (.aload_n 0, 1) := by decide +kernel
theorem dX6_closeUp_37 : decode cX6_closeUp 37 = .ok (.dup, 1) := by decide +kernel
theorem dX6_closeUp_38 : decode cX6_closeUp 38 = .ok (.getfield 26, 3) := by decide +kernel
theorem dX6_closeUp_41 : decode cX6_closeUp 41 = .ok (.iconst 1, 1) := by decide +kernel
theorem dX6_closeUp_42 : decode cX6_closeUp 42 = .ok (.isub, 1) := by decide +kernel
theorem dX6_closeUp_43 : decode cX6_closeUp 43 = .ok (.putfield 26, 3) := by decide +kernel
theorem dX6_closeUp_46 : decode cX6_closeUp 46 = .ok (.return_, 1) := by decide +kernel
theorem dX7_isNumber_0 : decode cX7_isNumber 0 = .ok (.iload_n 0, 1) := by decide +kernel
theorem dX7_isNumber_1 : decode cX7_isNumber 1 = .ok (.iconst 1, 1) := by decide +kernel
theorem dX7_isNumber_2 : decode cX7_isNumber 2 = .ok (.if_icmp .lt 14, 3) := by decide +kernel
theorem dX7_isNumber_5 : decode cX7_isNumber 5 = .ok (.iload_n 0, 1) := by decide +kernel
theorem dX7_isNumber_6 : decode cX7_isNumber 6 = .ok (.sipush 9999, 3) := by decide +kernel
theorem dX7_isNumber_9 : decode cX7_isNumber 9 = .ok (.if_icmp .gt 7, 3) := by decide +kernel
theorem dX7_isNumber_12 : decode cX7_isNumber 12 = .ok (.iconst 1, 1) := by decide +kernel
theorem dX7_isNumber_13 : decode cX7_isNumber 13 = .ok (.goto 4, 3) := by decide +kernel
theorem dX7_isNumber_16 : decode cX7_isNumber 16 = .ok (.iconst 0, 1) := by decide +kernel
theorem dX7_isNumber_17 : decode cX7_isNumber 17 = .ok (.ireturn, 1) := by decide +kernel
set_option maxRecDepth 20000 in
theorem ggX7_isPrime_X7_leastPrime : GoodIn wsX7_isPrime wsX7_leastPrime := goodIn_r _ [4, 5, 6, 3, 7] (by decide +kernel) (by decide +kernel)
set_option maxRecDepth 20000 in
theorem gX7_isPrime_X7_leastPrime : GoodIn wsX7_isPrime (va_wsS RX7 9 yX7_leastPrime wsX7_leastPrime) := goodIn_app (goodIn_of _ (by decide +kernel)) ggX7_isPrime_X7_leastPrime
theorem dX7_isPrime_0 : decode cX7_isPrime 0 = .ok (.iload_n 0, 1) := by decide +kernel
theorem dX7_isPrime_1 : decode cX7_isPrime 1 = .ok (.iconst 2, 1) := by decide +kernel
theorem dX7_isPrime_2 : decode cX7_isPrime 2 = .ok (.if_icmp .lt 22, 3) := by decide +kernel
theorem dX7_isPrime_5 : decode cX7_isPrime 5 = .ok (.iload_n 0, 1) := by decide +kernel
theorem dX7_isPrime_6 : decode cX7_isPrime 6 = .ok (.sipush 9999, 3) := by decide +kernel
theorem dX7_isPrime_9 : decode cX7_isPrime 9 = .ok (.if_icmp .gt 15, 3) := by decide +kernel
theorem dX7_isPrime_12 : decode cX7_isPrime 12 = .ok (.iload_n 0, 1) := by decide +kernel
theorem dX7_isPrime_13 : decode cX7_isPrime 13 = .ok (.invokestatic 9, 3) := by decide +kernel
theorem dX7_isPrime_16 : decode cX7_isPrime 16 = .ok (.iload_n 0, 1) := by decide +kernel
theorem dX7_isPrime_17 : decode cX7_isPrime 17 = .ok (.if_icmp .ne 7, 3) := by decide +kernel
theorem dX7_isPrime_20 : decode cX7_isPrime 20 = .ok (.iconst 1, 1) := by decide +kernel
theorem dX7_isPrime_21 : decode cX7_isPrime 21 = .ok (.goto 4, 3) := by decide +kernel
theorem dX7_isPrime_24 : decode cX7_isPrime 24 = .ok (.iconst 0, 1) := by decide +kernel
theorem dX7_isPrime_25 : decode cX7_isPrime 25 = .ok (.ireturn, 1) := by decide +kernel
theorem dX7_divides_0 : decode cX7_divides 0 = .ok (.iload_n 0, 1) := by decide +kernel
theorem dX7_divides_1 : decode cX7_divides 1 = .ok (.ifCond .le 13, 3) := by decide +kernel
theorem dX7_divides_4 : decode cX7_divides 4 = .ok (.iload_n 1, 1) := by decide +kernel
theorem dX7_divides_5 : decode cX7_divides 5 = .ok (.iload_n 0, 1) := by decide +kernel
theorem dX7_divides_6 : decode cX7_divides 6 = .ok (.irem, 1) := by decide +kernel
theorem dX7_divides_7 : decode cX7_divides 7 = .ok (.ifCond .ne 7, 3) := by decide +kernel
theorem dX7_divides_10 : decode cX7_divides 10 = .ok (.iconst 1, 1) := by decide +kernel
theorem dX7_divides_11 : decode cX7_divides 11 = .ok (.goto 4, 3) := by decide +kernel
theorem dX7_divides_14 : decode cX7_divides 14 = .ok (.iconst 0, 1) := by decide +kernel
theorem dX7_divides_15 : decode cX7_divides 15 = .ok (.ireturn, 1) := by decide +kernel
theorem dX7_quotient_0 : decode cX7_quotient 0 = .ok (.iload_n 1, 1) := by decide +kernel
theorem dX7_quotient_1 : decode cX7_quotient 1 = .ok (.ifCond .le 9, 3) := by decide +kernel
theorem dX7_quotient_4 : decode cX7_quotient 4 = .ok (.iload_n 0, 1) := by decide +kernel
theorem dX7_quotient_5 : decode cX7_quotient 5 = .ok (.iload_n 1, 1) := by decide +kernel
theorem dX7_quotient_6 : decode cX7_quotient 6 = .ok (.idiv, 1) := by decide +kernel
theorem dX7_quotient_7 : decode cX7_quotient 7 = .ok (.goto 4, 3) := by decide +kernel
theorem dX7_quotient_10 : decode cX7_quotient 10 = .ok (.iload_n 0, 1) := by decide +kernel
theorem dX7_quotient_11 : decode cX7_quotient 11 = .ok (.ireturn, 1) := by decide +kernel
set_option maxRecDepth 20000 in
theorem ggX7_leastPrime_X7_divides : GoodIn wsX7_leastPrime wsX7_divides := goodIn_r _ [4] (by decide +kernel) (by decide +kernel)
set_option maxRecDepth 20000 in
theorem gX7_leastPrime_X7_divides : GoodIn wsX7_leastPrime (va_wsS RX7 15 yX7_divides wsX7_divides) := goodIn_app (goodIn_of _ (by decide +kernel)) ggX7_leastPrime_X7_divides
theorem dX7_leastPrime_0 : decode cX7_leastPrime 0 = .ok (.iconst 2, 1) := by decide +kernel
theorem dX7_leastPrime_1 : decode cX7_leastPrime 1 = .ok (.istore_n 1, 1) := by decide +kernel
theorem dX7_leastPrime_2 : decode cX7_leastPrime 2 = .ok (.iload_n 1, 1) := by decide +kernel
theorem dX7_leastPrime_3 : decode cX7_leastPrime 3 = .ok (.bipush 100, 2) := by decide +kernel
theorem dX7_leastPrime_5 : decode cX7_leastPrime 5 = .ok (.if_icmp .ge 26, 3) := by decide +kernel
theorem dX7_leastPrime_8 : decode cX7_leastPrime 8 = .ok (.iload_n 1, 1) := by decide +kernel
theorem dX7_leastPrime_9 : decode cX7_leastPrime 9 = .ok (.iload_n 1, 1) := by decide +kernel
theorem dX7_leastPrime_10 : decode cX7_leastPrime 10 = .ok (.imul, 1) := by decide +kernel
theorem dX7_leastPrime_11 : decode cX7_leastPrime 11 = .ok (.iload_n 0, 1) := by decide +kernel
theorem dX7_leastPrime_12 : decode cX7_leastPrime 12 = .ok (.if_icmp .gt 19, 3) := by decide +kernel
theorem dX7_leastPrime_15 : decode cX7_leastPrime 15 = .ok (.iload_n 1, 1) := by decide +kernel
theorem dX7_leastPrime_16 : decode cX7_leastPrime 16 = .ok (.iload_n 0, 1) := by decide +kernel
theorem dX7_leastPrime_17 : decode cX7_leastPrime 17 = .ok (.invokestatic 15, 3) := by decide +kernel
theorem dX7_leastPrime_20 : decode cX7_leastPrime 20 = .ok (.ifCond .eq 5, 3) := by decide +kernel
theorem dX7_leastPrime_23 : decode cX7_leastPrime 23 = .ok (.iload_n 1, 1) := by decide +kernel
theorem dX7_leastPrime_24 : decode cX7_leastPrime 24 = .ok (.ireturn, 1) := by decide +kernel
theorem dX7_leastPrime_25 : decode cX7_leastPrime 25 = .ok (.iinc 1 1, 3) := by decide +kernel
theorem dX7_leastPrime_28 : decode cX7_leastPrime 28 = .ok (.goto (-26), 3) := by decide +kernel
theorem dX7_leastPrime_31 : decode cX7_leastPrime 31 = .ok (.iload_n 0, 1) := by decide +kernel
theorem dX7_leastPrime_32 : decode cX7_leastPrime 32 = .ok (.ireturn, 1) := by decide +kernel
set_option maxRecDepth 20000 in
theorem ggX7_greatestPrime_X7_leastPrime : GoodIn wsX7_greatestPrime wsX7_leastPrime := goodIn_r _ [4, 5, 6, 3, 7] (by decide +kernel) (by decide +kernel)
set_option maxRecDepth 20000 in
theorem gX7_greatestPrime_X7_leastPrime : GoodIn wsX7_greatestPrime (va_wsS RX7 9 yX7_leastPrime wsX7_leastPrime) := goodIn_app (goodIn_of _ (by decide +kernel)) ggX7_greatestPrime_X7_leastPrime
set_option maxRecDepth 20000 in
theorem ggX7_greatestPrime_X7_withoutPrime : GoodIn wsX7_greatestPrime wsX7_withoutPrime := goodIn_r _ [10, 11, 12, 3, 13, 5, 6, 7, 14, 15, 16] (by decide +kernel) (by decide +kernel)
set_option maxRecDepth 20000 in
theorem gX7_greatestPrime_X7_withoutPrime : GoodIn wsX7_greatestPrime (va_wsS RX7 19 yX7_withoutPrime wsX7_withoutPrime) := goodIn_app (goodIn_of _ (by decide +kernel)) ggX7_greatestPrime_X7_withoutPrime
theorem dX7_greatestPrime_0 : decode cX7_greatestPrime 0 = .ok (.iload_n 0, 1) := by decide +kernel
theorem dX7_greatestPrime_1 : decode cX7_greatestPrime 1 = .ok (.istore_n 1, 1) := by decide +kernel
theorem dX7_greatestPrime_2 : decode cX7_greatestPrime 2 = .ok (.iconst 1, 1) := by decide +kernel
theorem dX7_greatestPrime_3 : decode cX7_greatestPrime 3 = .ok (.istore_n 2, 1) := by decide +kernel
theorem dX7_greatestPrime_4 : decode cX7_greatestPrime 4 = .ok (.iconst 0, 1) := by decide +kernel
theorem dX7_greatestPrime_5 : decode cX7_greatestPrime 5 = .ok (.istore_n 3, 1) := by decide +kernel
theorem dX7_greatestPrime_6 : decode cX7_greatestPrime 6 = .ok (.iload_n 3, 1) := by decide +kernel
theorem dX7_greatestPrime_7 : decode cX7_greatestPrime 7 = .ok (.bipush 13, 2) := by decide +kernel
theorem dX7_greatestPrime_9 : decode cX7_greatestPrime 9 = .ok (.if_icmp .ge 25, 3) := by decide +kernel
theorem dX7_greatestPrime_12 : decode cX7_greatestPrime 12 = .ok (.iload_n 1, 1) := by decide +kernel
theorem dX7_greatestPrime_13 : decode cX7_greatestPrime 13 = .ok (.iconst 1, 1) := by decide +kernel
theorem dX7_greatestPrime_14 : decode cX7_greatestPrime 14 = .ok (.if_icmp .le 20, 3) := by decide +kernel
theorem dX7_greatestPrime_17 : decode cX7_greatestPrime 17 = .ok (.iload_n 1, 1) := by decide +kernel
theorem dX7_greatestPrime_18 : decode cX7_greatestPrime 18 = .ok (.invokestatic 9, 3) := by decide +kernel
theorem dX7_greatestPrime_21 : decode cX7_greatestPrime 21 = .ok (.istore_n 2, 1) := by decide +kernel
theorem dX7_greatestPrime_22 : decode cX7_greatestPrime 22 = .ok (.iload_n 1, 1) := by decide +kernel
theorem dX7_greatestPrime_23 : decode cX7_greatestPrime 23 = .ok (.iload_n 2, 1) := by decide +kernel
theorem dX7_greatestPrime_24 : decode cX7_greatestPrime 24 = .ok (.invokestatic 19, 3) := by decide +kernel
theorem dX7_greatestPrime_27 : decode cX7_greatestPrime 27 = .ok (.istore_n 1, 1) := by decide +kernel
theorem dX7_greatestPrime_28 : decode cX7_greatestPrime 28 = .ok (.iinc 3 1, 3) := by decide +kernel
theorem dX7_greatestPrime_31 : decode cX7_greatestPrime 31 = .ok (.goto (-25), 3) := by decide +kernel
theorem dX7_greatestPrime_34 : decode cX7_greatestPrime 34 = .ok (.iload_n 2, 1) := by decide +kernel
theorem dX7_greatestPrime_35 : decode cX7_greatestPrime 35 = .ok (.ireturn, 1) := by decide +kernel
set_option maxRecDepth 20000 in
theorem ggX7_exponent_X7_divides : GoodIn wsX7_exponent wsX7_divides := goodIn_r _ [4] (by decide +kernel) (by decide +kernel)
set_option maxRecDepth 20000 in
theorem gX7_exponent_X7_divides : GoodIn wsX7_exponent (va_wsS RX7 15 yX7_divides wsX7_divides) := goodIn_app (goodIn_of _ (by decide +kernel)) ggX7_exponent_X7_divides
set_option maxRecDepth 20000 in
theorem ggX7_exponent_X7_quotient : GoodIn wsX7_exponent wsX7_quotient := goodIn_r _ [7] (by decide +kernel) (by decide +kernel)
set_option maxRecDepth 20000 in
theorem gX7_exponent_X7_quotient : GoodIn wsX7_exponent (va_wsS RX7 23 yX7_quotient wsX7_quotient) := goodIn_app (goodIn_of _ (by decide +kernel)) ggX7_exponent_X7_quotient
theorem dX7_exponent_0 : decode cX7_exponent 0 = .ok (.iload_n 0, 1) := by decide +kernel
theorem dX7_exponent_1 : decode cX7_exponent 1 = .ok (.istore_n 2, 1) := by decide +kernel
theorem dX7_exponent_2 : decode cX7_exponent 2 = .ok (.iconst 0, 1) := by decide +kernel
theorem dX7_exponent_3 : decode cX7_exponent 3 = .ok (.istore_n 3, 1) := by decide +kernel
theorem dX7_exponent_4 : decode cX7_exponent 4 = .ok (.iconst 0, 1) := by decide +kernel
theorem dX7_exponent_5 : decode cX7_exponent 5 = .ok (.istore 4, 2) := by decide +kernel
theorem dX7_exponent_7 : decode cX7_exponent 7 = .ok (.iload 4, 2) := by decide +kernel
theorem dX7_exponent_9 : decode cX7_exponent 9 = .ok (.bipush 13, 2) := by decide +kernel
theorem dX7_exponent_11 : decode cX7_exponent 11 = .ok (.if_icmp .ge 31, 3) := by decide +kernel
theorem dX7_exponent_14 : decode cX7_exponent 14 = .ok (.iload_n 1, 1) := by decide +kernel
theorem dX7_exponent_15 : decode cX7_exponent 15 = .ok (.iconst 1, 1) := by decide +kernel
theorem dX7_exponent_16 : decode cX7_exponent 16 = .ok (.if_icmp .le 26, 3) := by decide +kernel
theorem dX7_exponent_19 : decode cX7_exponent 19 = .ok (.iload_n 1, 1) := by decide +kernel
theorem dX7_exponent_20 : decode cX7_exponent 20 = .ok (.iload_n 2, 1) := by decide +kernel
theorem dX7_exponent_21 : decode cX7_exponent 21 = .ok (.invokestatic 15, 3) := by decide +kernel
theorem dX7_exponent_24 : decode cX7_exponent 24 = .ok (.ifCond .eq 18, 3) := by decide +kernel
theorem dX7_exponent_27 : decode cX7_exponent 27 = .ok (.iload_n 2, 1) := by decide +kernel
theorem dX7_exponent_28 : decode cX7_exponent 28 = .ok (.iload_n 1, 1) := by decide +kernel
theorem dX7_exponent_29 : decode cX7_exponent 29 = .ok (.invokestatic 23, 3) := by decide +kernel
theorem dX7_exponent_32 : decode cX7_exponent 32 = .ok (.istore_n 2, 1) := by decide +kernel
theorem dX7_exponent_33 : decode cX7_exponent 33 = .ok (.iinc 3 1, 3) := by decide +kernel
theorem dX7_exponent_36 : decode cX7_exponent 36 = .ok (.iinc 4 1, 3) := by decide +kernel
theorem dX7_exponent_39 : decode cX7_exponent 39 = .ok (.goto (-32), 3) := by decide +kernel
theorem dX7_exponent_42 : decode cX7_exponent 42 = .ok (.iload_n 3, 1) := by decide +kernel
theorem dX7_exponent_43 : decode cX7_exponent 43 = .ok (.ireturn, 1) := by decide +kernel
set_option maxRecDepth 20000 in
theorem ggX7_withoutPrime_X7_exponent : GoodIn wsX7_withoutPrime wsX7_exponent := goodIn_r _ [4, 5, 6, 3, 7, 8, 9, 10] (by decide +kernel) (by decide +kernel)
set_option maxRecDepth 20000 in
theorem gX7_withoutPrime_X7_exponent : GoodIn wsX7_withoutPrime (va_wsS RX7 26 yX7_exponent wsX7_exponent) := goodIn_app (goodIn_of _ (by decide +kernel)) ggX7_withoutPrime_X7_exponent
set_option maxRecDepth 20000 in
theorem ggX7_withoutPrime_X7_quotient : GoodIn wsX7_withoutPrime wsX7_quotient := goodIn_r _ [10] (by decide +kernel) (by decide +kernel)
set_option maxRecDepth 20000 in
theorem gX7_withoutPrime_X7_quotient : GoodIn wsX7_withoutPrime (va_wsS RX7 23 yX7_quotient wsX7_quotient) := goodIn_app (goodIn_of _ (by decide +kernel)) ggX7_withoutPrime_X7_quotient
theorem dX7_withoutPrime_0 : decode cX7_withoutPrime 0 = .ok (.iload_n 0, 1) := by decide +kernel
theorem dX7_withoutPrime_1 : decode cX7_withoutPrime 1 = .ok (.istore_n 2, 1) := by decide +kernel
theorem dX7_withoutPrime_2 : decode cX7_withoutPrime 2 = .ok (.iload_n 0, 1) := by decide +kernel
theorem dX7_withoutPrime_3 : decode cX7_withoutPrime 3 = .ok (.iload_n 1, 1) := by decide +kernel
theorem dX7_withoutPrime_4 : decode cX7_withoutPrime 4 = .ok (.invokestatic 26, 3) := by decide +kernel
theorem dX7_withoutPrime_7 : decode cX7_withoutPrime 7 = .ok (.istore_n 3, 1) := by decide +kernel
theorem dX7_withoutPrime_8 : decode cX7_withoutPrime 8 = .ok (.iload_n 3, 1) := by decide +kernel
theorem dX7_withoutPrime_9 : decode cX7_withoutPrime 9 = .ok (.ifCond .le 15, 3) := by decide +kernel
theorem dX7_withoutPrime_12 : decode cX7_withoutPrime 12 = .ok (.iload_n 2, 1) := by decide +kernel
theorem dX7_withoutPrime_13 : decode cX7_withoutPrime 13 = .ok (.iload_n 1, 1) := by decide +kernel
theorem dX7_withoutPrime_14 : decode cX7_withoutPrime 14 = .ok (.invokestatic 23, 3) := by decide +kernel
theorem dX7_withoutPrime_17 : decode cX7_withoutPrime 17 = .ok (.istore_n 2, 1) := by decide +kernel
theorem dX7_withoutPrime_18 : decode cX7_withoutPrime 18 = .ok (.iinc 3 (-1), 3) := by decide +kernel
theorem dX7_withoutPrime_21 : decode cX7_withoutPrime 21 = .ok (.goto (-13), 3) := by decide +kernel
theorem dX7_withoutPrime_24 : decode cX7_withoutPrime 24 = .ok (.iload_n 2, 1) := by decide +kernel
theorem dX7_withoutPrime_25 : decode cX7_withoutPrime 25 = .ok (.ireturn, 1) := by decide +kernel
set_option maxRecDepth 20000 in
theorem ggX7_factors_X7_leastPrime : GoodIn wsX7_factors wsX7_leastPrime := goodIn_r _ [4, 5, 6, 3, 7] (by decide +kernel) (by decide +kernel)
set_option maxRecDepth 20000 in
theorem gX7_factors_X7_leastPrime : GoodIn wsX7_factors (va_wsS RX7 9 yX7_leastPrime wsX7_leastPrime) := goodIn_app (goodIn_of _ (by decide +kernel)) ggX7_factors_X7_leastPrime
set_option maxRecDepth 20000 in
theorem ggX7_factors_X7_quotient : GoodIn wsX7_factors wsX7_quotient := goodIn_r _ [10] (by decide +kernel) (by decide +kernel)
set_option maxRecDepth 20000 in
theorem gX7_factors_X7_quotient : GoodIn wsX7_factors (va_wsS RX7 23 yX7_quotient wsX7_quotient) := goodIn_app (goodIn_of _ (by decide +kernel)) ggX7_factors_X7_quotient
theorem dX7_factors_0 : decode cX7_factors 0 = .ok (.iload_n 0, 1) := by decide +kernel
theorem dX7_factors_1 : decode cX7_factors 1 = .ok (.istore_n 1, 1) := by decide +kernel
theorem dX7_factors_2 : decode cX7_factors 2 = .ok (.iconst 0, 1) := by decide +kernel
theorem dX7_factors_3 : decode cX7_factors 3 = .ok (.istore_n 2, 1) := by decide +kernel
theorem dX7_factors_4 : decode cX7_factors 4 = .ok (.iconst 0, 1) := by decide +kernel
theorem dX7_factors_5 : decode cX7_factors 5 = .ok (.istore_n 3, 1) := by decide +kernel
theorem dX7_factors_6 : decode cX7_factors 6 = .ok (.iload_n 3, 1) := by decide +kernel
theorem dX7_factors_7 : decode cX7_factors 7 = .ok (.bipush 13, 2) := by decide +kernel
theorem dX7_factors_9 : decode cX7_factors 9 = .ok (.if_icmp .ge 26, 3) := by decide +kernel
theorem dX7_factors_12 : decode cX7_factors 12 = .ok (.iload_n 1, 1) := by decide +kernel
theorem dX7_factors_13 : decode cX7_factors 13 = .ok (.iconst 1, 1) := by decide +kernel
theorem dX7_factors_14 : decode cX7_factors 14 = .ok (.if_icmp .le 21, 3) := by decide +kernel
theorem dX7_factors_17 : decode cX7_factors 17 = .ok (.iload_n 1, 1) := by decide +kernel
theorem dX7_factors_18 : decode cX7_factors 18 = .ok (.iload_n 1, 1) := by decide +kernel
theorem dX7_factors_19 : decode cX7_factors 19 = .ok (.invokestatic 9, 3) := by decide +kernel
theorem dX7_factors_22 : decode cX7_factors 22 = .ok (.invokestatic 23, 3) := by decide +kernel
theorem dX7_factors_25 : decode cX7_factors 25 = .ok (.istore_n 1, 1) := by decide +kernel
theorem dX7_factors_26 : decode cX7_factors 26 = .ok (.iinc 2 1, 3) := by decide +kernel
theorem dX7_factors_29 : decode cX7_factors 29 = .ok (.iinc 3 1, 3) := by decide +kernel
theorem dX7_factors_32 : decode cX7_factors 32 = .ok (.goto (-26), 3) := by decide +kernel
theorem dX7_factors_35 : decode cX7_factors 35 = .ok (.iload_n 2, 1) := by decide +kernel
theorem dX7_factors_36 : decode cX7_factors 36 = .ok (.ireturn, 1) := by decide +kernel
set_option maxRecDepth 20000 in
theorem ggX7_differentFactors_X7_leastPrime : GoodIn wsX7_differentFactors wsX7_leastPrime := goodIn_r _ [4, 5, 6, 3, 7] (by decide +kernel) (by decide +kernel)
set_option maxRecDepth 20000 in
theorem gX7_differentFactors_X7_leastPrime : GoodIn wsX7_differentFactors (va_wsS RX7 9 yX7_leastPrime wsX7_leastPrime) := goodIn_app (goodIn_of _ (by decide +kernel)) ggX7_differentFactors_X7_leastPrime
set_option maxRecDepth 20000 in
theorem ggX7_differentFactors_X7_withoutPrime : GoodIn wsX7_differentFactors wsX7_withoutPrime := goodIn_r _ [10, 11, 12, 3, 13, 5, 6, 7, 14, 15, 16] (by decide +kernel) (by decide +kernel)
set_option maxRecDepth 20000 in
theorem gX7_differentFactors_X7_withoutPrime : GoodIn wsX7_differentFactors (va_wsS RX7 19 yX7_withoutPrime wsX7_withoutPrime) := goodIn_app (goodIn_of _ (by decide +kernel)) ggX7_differentFactors_X7_withoutPrime
theorem dX7_differentFactors_0 : decode cX7_differentFactors 0 = .ok (.iload_n 0, 1) := by decide +kernel
theorem dX7_differentFactors_1 : decode cX7_differentFactors 1 = .ok (.istore_n 1, 1) := by decide +kernel
theorem dX7_differentFactors_2 : decode cX7_differentFactors 2 = .ok (.iconst 0, 1) := by decide +kernel
theorem dX7_differentFactors_3 : decode cX7_differentFactors 3 = .ok (.istore_n 2, 1) := by decide +kernel
theorem dX7_differentFactors_4 : decode cX7_differentFactors 4 = .ok (.iconst 0, 1) := by decide +kernel
theorem dX7_differentFactors_5 : decode cX7_differentFactors 5 = .ok (.istore_n 3, 1) := by decide +kernel
theorem dX7_differentFactors_6 : decode cX7_differentFactors 6 = .ok (.iload_n 3, 1) := by decide +kernel
theorem dX7_differentFactors_7 : decode cX7_differentFactors 7 = .ok (.bipush 13, 2) := by decide +kernel
theorem dX7_differentFactors_9 : decode cX7_differentFactors 9 = .ok (.if_icmp .ge 26, 3) := by decide +kernel
theorem dX7_differentFactors_12 : decode cX7_differentFactors 12 = .ok (.iload_n 1, 1) := by decide +kernel
theorem dX7_differentFactors_13 : decode cX7_differentFactors 13 = .ok (.iconst 1, 1) := by decide +kernel
theorem dX7_differentFactors_14 : decode cX7_differentFactors 14 = .ok (.if_icmp .le 21, 3) := by decide +kernel
theorem dX7_differentFactors_17 : decode cX7_differentFactors 17 = .ok (.iload_n 1, 1) := by decide +kernel
theorem dX7_differentFactors_18 : decode cX7_differentFactors 18 = .ok (.iload_n 1, 1) := by decide +kernel
theorem dX7_differentFactors_19 : decode cX7_differentFactors 19 = .ok (.invokestatic 9, 3) := by decide +kernel
theorem dX7_differentFactors_22 : decode cX7_differentFactors 22 = .ok (.invokestatic 19, 3) := by decide +kernel
theorem dX7_differentFactors_25 : decode cX7_differentFactors 25 = .ok (.istore_n 1, 1) := by decide +kernel
theorem dX7_differentFactors_26 : decode cX7_differentFactors 26 = .ok (.iinc 2 1, 3) := by decide +kernel
theorem dX7_differentFactors_29 : decode cX7_differentFactors 29 = .ok (.iinc 3 1, 3) := by decide +kernel
theorem dX7_differentFactors_32 : decode cX7_differentFactors 32 = .ok (.goto (-26), 3) := by decide +kernel
theorem dX7_differentFactors_35 : decode cX7_differentFactors 35 = .ok (.iload_n 2, 1) := by decide +kernel
theorem dX7_differentFactors_36 : decode cX7_differentFactors 36 = .ok (.ireturn, 1) := by decide +kernel
set_option maxRecDepth 20000 in
theorem ggX7_factorAt_X7_leastPrime : GoodIn wsX7_factorAt wsX7_leastPrime := goodIn_r _ [4, 5, 6, 3, 7] (by decide +kernel) (by decide +kernel)
set_option maxRecDepth 20000 in
theorem gX7_factorAt_X7_leastPrime : GoodIn wsX7_factorAt (va_wsS RX7 9 yX7_leastPrime wsX7_leastPrime) := goodIn_app (goodIn_of _ (by decide +kernel)) ggX7_factorAt_X7_leastPrime
set_option maxRecDepth 20000 in
theorem ggX7_factorAt_X7_quotient : GoodIn wsX7_factorAt wsX7_quotient := goodIn_r _ [10] (by decide +kernel) (by decide +kernel)
set_option maxRecDepth 20000 in
theorem gX7_factorAt_X7_quotient : GoodIn wsX7_factorAt (va_wsS RX7 23 yX7_quotient wsX7_quotient) := goodIn_app (goodIn_of _ (by decide +kernel)) ggX7_factorAt_X7_quotient
theorem dX7_factorAt_0 : decode cX7_factorAt 0 = .ok (.iload_n 0, 1) := by decide +kernel
theorem dX7_factorAt_1 : decode cX7_factorAt 1 = .ok (.istore_n 2, 1) := by decide +kernel
theorem dX7_factorAt_2 : decode cX7_factorAt 2 = .ok (.iconst 0, 1) := by decide +kernel
theorem dX7_factorAt_3 : decode cX7_factorAt 3 = .ok (.istore_n 3, 1) := by decide +kernel
theorem dX7_factorAt_4 : decode cX7_factorAt 4 = .ok (.iload_n 3, 1) := by decide +kernel
theorem dX7_factorAt_5 : decode cX7_factorAt 5 = .ok (.bipush 13, 2) := by decide +kernel
theorem dX7_factorAt_7 : decode cX7_factorAt 7 = .ok (.if_icmp .ge 35, 3) := by decide +kernel
theorem dX7_factorAt_10 : decode cX7_factorAt 10 = .ok (.iload_n 2, 1) := by decide +kernel
theorem dX7_factorAt_11 : decode cX7_factorAt 11 = .ok (.iconst 1, 1) := by decide +kernel
theorem dX7_factorAt_12 : decode cX7_factorAt 12 = .ok (.if_icmp .le 30, 3) := by decide +kernel
theorem dX7_factorAt_15 : decode cX7_factorAt 15 = .ok (.iload_n 2, 1) := by decide +kernel
theorem dX7_factorAt_16 : decode cX7_factorAt 16 = .ok (.invokestatic 9, 3) := by decide +kernel
theorem dX7_factorAt_19 : decode cX7_factorAt 19 = .ok (.istore 4, 2) := by decide +kernel
theorem dX7_factorAt_21 : decode cX7_factorAt 21 = .ok (.iload_n 3, 1) := by decide +kernel
theorem dX7_factorAt_22 : decode cX7_factorAt 22 = .ok (.iload_n 1, 1) := by decide +kernel
theorem dX7_factorAt_23 : decode cX7_factorAt 23 = .ok (.if_icmp .ne 6, 3) := by decide +kernel
theorem dX7_factorAt_26 : decode cX7_factorAt 26 = .ok (.iload 4, 2) := by decide +kernel
theorem dX7_factorAt_28 : decode cX7_factorAt 28 = .ok (.ireturn, 1) := by decide +kernel
theorem dX7_factorAt_29 : decode cX7_factorAt 29 = .ok (.iload_n 2, 1) := by decide +kernel
theorem dX7_factorAt_30 : decode cX7_factorAt 30 = .ok (.iload 4, 2) := by decide +kernel
theorem dX7_factorAt_32 : decode cX7_factorAt 32 = .ok (.invokestatic 23, 3) := by decide +kernel
theorem dX7_factorAt_35 : decode cX7_factorAt 35 = .ok (.istore_n 2, 1) := by decide +kernel
theorem dX7_factorAt_36 : decode cX7_factorAt 36 = .ok (.iinc 3 1, 3) := by decide +kernel
theorem dX7_factorAt_39 : decode cX7_factorAt 39 = .ok (.goto (-35), 3) := by decide +kernel
theorem dX7_factorAt_42 : decode cX7_factorAt 42 = .ok (.iconst (-1), 1) := by decide +kernel
theorem dX7_factorAt_43 : decode cX7_factorAt 43 = .ok (.ireturn, 1) := by decide +kernel
theorem dX7_divisorByRemainders_0 : decode cX7_divisorByRemainders 0 = .ok (.iload_n 0, 1) := by decide +kernel
theorem dX7_divisorByRemainders_1 : decode cX7_divisorByRemainders 1 = .ok (.istore_n 2, 1) := by decide +kernel
theorem dX7_divisorByRemainders_2 : decode cX7_divisorByRemainders 2 = .ok (.iload_n 1, 1) := by decide +kernel
theorem dX7_divisorByRemainders_3 : decode cX7_divisorByRemainders 3 = .ok (.istore_n 3, 1) := by decide +kernel
theorem dX7_divisorByRemainders_4 : decode cX7_divisorByRemainders 4 = .ok (.iconst 0, 1) := by decide +kernel
theorem dX7_divisorByRemainders_5 : decode cX7_divisorByRemainders 5 = .ok (.istore 4, 2) := by decide +kernel
theorem dX7_divisorByRemainders_7 : decode cX7_divisorByRemainders 7 = .ok (.iload 4, 2) := by decide +kernel
theorem dX7_divisorByRemainders_9 : decode cX7_divisorByRemainders 9 = .ok (.bipush 64, 2) := by decide +kernel
theorem dX7_divisorByRemainders_11 : decode cX7_divisorByRemainders 11 = .ok (.if_icmp .ge 23, 3) := by decide +kernel
theorem dX7_divisorByRemainders_14 : decode cX7_divisorByRemainders 14 = .ok (.iload_n 3, 1) := by decide +kernel
theorem dX7_divisorByRemainders_15 : decode cX7_divisorByRemainders 15 = .ok (.ifCond .eq 19, 3) := by decide +kernel
theorem dX7_divisorByRemainders_18 : decode cX7_divisorByRemainders 18 = .ok (.iload_n 2, 1) := by decide +kernel
theorem dX7_divisorByRemainders_19 : decode cX7_divisorByRemainders 19 = .ok (.iload_n 3, 1) := by decide +kernel
theorem dX7_divisorByRemainders_20 : decode cX7_divisorByRemainders 20 = .ok (.irem, 1) := by decide +kernel
theorem dX7_divisorByRemainders_21 : decode cX7_divisorByRemainders 21 = .ok (.istore 5, 2) := by decide +kernel
theorem dX7_divisorByRemainders_23 : decode cX7_divisorByRemainders 23 = .ok (.iload_n 3, 1) := by decide +kernel
theorem dX7_divisorByRemainders_24 : decode cX7_divisorByRemainders 24 = .ok (.istore_n 2, 1) := by decide +kernel
theorem dX7_divisorByRemainders_25 : decode cX7_divisorByRemainders 25 = .ok (.iload 5, 2) := by decide +kernel
theorem dX7_divisorByRemainders_27 : decode cX7_divisorByRemainders 27 = .ok (.istore_n 3, 1) := by decide +kernel
theorem dX7_divisorByRemainders_28 : decode cX7_divisorByRemainders 28 = .ok (.iinc 4 1, 3) := by decide +kernel
theorem dX7_divisorByRemainders_31 : decode cX7_divisorByRemainders 31 = .ok (.goto (-24), 3) := by decide +kernel
theorem dX7_divisorByRemainders_34 : decode cX7_divisorByRemainders 34 = .ok (.iload_n 2, 1) := by decide +kernel
theorem dX7_divisorByRemainders_35 : decode cX7_divisorByRemainders 35 = .ok (.ireturn, 1) := by decide +kernel
set_option maxRecDepth 20000 in
theorem ggX7_divisorByFactors_X7_leastPrime : GoodIn wsX7_divisorByFactors wsX7_leastPrime := goodIn_r _ [4, 5, 6, 3, 7] (by decide +kernel) (by decide +kernel)
set_option maxRecDepth 20000 in
theorem gX7_divisorByFactors_X7_leastPrime : GoodIn wsX7_divisorByFactors (va_wsS RX7 9 yX7_leastPrime wsX7_leastPrime) := goodIn_app (goodIn_of _ (by decide +kernel)) ggX7_divisorByFactors_X7_leastPrime
set_option maxRecDepth 20000 in
theorem ggX7_divisorByFactors_X7_quotient : GoodIn wsX7_divisorByFactors wsX7_quotient := goodIn_r _ [10] (by decide +kernel) (by decide +kernel)
set_option maxRecDepth 20000 in
theorem gX7_divisorByFactors_X7_quotient : GoodIn wsX7_divisorByFactors (va_wsS RX7 23 yX7_quotient wsX7_quotient) := goodIn_app (goodIn_of _ (by decide +kernel)) ggX7_divisorByFactors_X7_quotient
set_option maxRecDepth 20000 in
theorem ggX7_divisorByFactors_X7_divides : GoodIn wsX7_divisorByFactors wsX7_divides := goodIn_r _ [7] (by decide +kernel) (by decide +kernel)
set_option maxRecDepth 20000 in
theorem gX7_divisorByFactors_X7_divides : GoodIn wsX7_divisorByFactors (va_wsS RX7 15 yX7_divides wsX7_divides) := goodIn_app (goodIn_of _ (by decide +kernel)) ggX7_divisorByFactors_X7_divides
theorem dX7_divisorByFactors_0 : decode cX7_divisorByFactors 0 = .ok (.iload_n 0, 1) := by decide +kernel
theorem dX7_divisorByFactors_1 : decode cX7_divisorByFactors 1 = .ok (.istore_n 2, 1) := by decide +kernel
theorem dX7_divisorByFactors_2 : decode cX7_divisorByFactors 2 = .ok (.iload_n 1, 1) := by decide +kernel
theorem dX7_divisorByFactors_3 : decode cX7_divisorByFactors 3 = .ok (.istore_n 3, 1) := by decide +kernel
theorem dX7_divisorByFactors_4 : decode cX7_divisorByFactors 4 = .ok (.iconst 1, 1) := by decide +kernel
theorem dX7_divisorByFactors_5 : decode cX7_divisorByFactors 5 = .ok (.istore 4, 2) := by decide +kernel
theorem dX7_divisorByFactors_7 : decode cX7_divisorByFactors 7 = .ok (.iconst 0, 1) := by decide +kernel
theorem dX7_divisorByFactors_8 : decode cX7_divisorByFactors 8 = .ok (.istore 5, 2) := by decide +kernel
theorem dX7_divisorByFactors_10 : decode cX7_divisorByFactors 10 = .ok (.iload 5, 2) := by decide +kernel
theorem dX7_divisorByFactors_12 : decode cX7_divisorByFactors 12 = .ok (.bipush 13, 2) := by decide +kernel
theorem dX7_divisorByFactors_14 : decode cX7_divisorByFactors 14 = .ok (.if_icmp .ge 50, 3) := by decide +kernel
theorem dX7_divisorByFactors_17 : decode cX7_divisorByFactors 17 = .ok (.iload_n 2, 1) := by decide +kernel
theorem dX7_divisorByFactors_18 : decode cX7_divisorByFactors 18 = .ok (.iconst 1, 1) := by decide +kernel
theorem dX7_divisorByFactors_19 : decode cX7_divisorByFactors 19 = .ok (.if_icmp .le 45, 3) := by decide +kernel
theorem dX7_divisorByFactors_22 : decode cX7_divisorByFactors 22 = .ok (.iload_n 2, 1) := by decide +kernel
theorem dX7_divisorByFactors_23 : decode cX7_divisorByFactors 23 = .ok (.invokestatic 9, 3) := by decide +kernel
theorem dX7_divisorByFactors_26 : decode cX7_divisorByFactors 26 = .ok (.istore 6, 2) := by decide +kernel
theorem dX7_divisorByFactors_28 : decode cX7_divisorByFactors 28 = .ok (.iload_n 2, 1) := by decide +kernel
theorem dX7_divisorByFactors_29 : decode cX7_divisorByFactors 29 = .ok (.iload 6, 2) := by decide +kernel
theorem dX7_divisorByFactors_31 : decode cX7_divisorByFactors 31 = .ok (.invokestatic 23, 3) := by decide +kernel
theorem dX7_divisorByFactors_34 : decode cX7_divisorByFactors 34 = .ok (.istore_n 2, 1) := by decide +kernel
theorem dX7_divisorByFactors_35 : decode cX7_divisorByFactors 35 = .ok (.iload 6, 2) := by decide +kernel
theorem dX7_divisorByFactors_37 : decode cX7_divisorByFactors 37 = .ok (.iload_n 3, 1) := by decide +kernel
theorem dX7_divisorByFactors_38 : decode cX7_divisorByFactors 38 = .ok (.invokestatic 15, 3) := by decide +kernel
theorem dX7_divisorByFactors_41 : decode cX7_divisorByFactors 41 = .ok (.ifCond .eq 17, 3) := by decide +kernel
theorem dX7_divisorByFactors_44 : decode cX7_divisorByFactors 44 = .ok (.iload_n 3, 1) := by decide +kernel
theorem dX7_divisorByFactors_45 : decode cX7_divisorByFactors 45 = .ok (.iload 6, 2) := by decide +kernel
theorem dX7_divisorByFactors_47 : decode cX7_divisorByFactors 47 = .ok (.invokestatic 23, 3) := by decide +kernel
theorem dX7_divisorByFactors_50 : decode cX7_divisorByFactors 50 = .ok (.istore_n 3, 1) := by decide +kernel
theorem dX7_divisorByFactors_51 : decode cX7_divisorByFactors 51 = .ok (.iload 4, 2) := by decide +kernel
theorem dX7_divisorByFactors_53 : decode cX7_divisorByFactors 53 = .ok (.iload 6, 2) := by decide +kernel
theorem dX7_divisorByFactors_55 : decode cX7_divisorByFactors 55 = .ok (.imul, 1) := by decide +kernel
theorem dX7_divisorByFactors_56 : decode cX7_divisorByFactors 56 = .ok (.istore 4, 2) := by decide +kernel
theorem dX7_divisorByFactors_58 : decode cX7_divisorByFactors 58 = .ok (.iinc 5 1, 3) := by decide +kernel
theorem dX7_divisorByFactors_61 : decode cX7_divisorByFactors 61 = .ok (.goto (-51), 3) := by decide +kernel
theorem dX7_divisorByFactors_64 : decode cX7_divisorByFactors 64 = .ok (.iload 4, 2) := by decide +kernel
theorem dX7_divisorByFactors_66 : decode cX7_divisorByFactors 66 = .ok (.ireturn, 1) := by decide +kernel
set_option maxRecDepth 20000 in
theorem ggX7_multiple_X7_divisorByRemainders : GoodIn wsX7_multiple wsX7_divisorByRemainders := goodIn_r _ [4] (by decide +kernel) (by decide +kernel)
set_option maxRecDepth 20000 in
theorem gX7_multiple_X7_divisorByRemainders : GoodIn wsX7_multiple (va_wsS RX7 29 yX7_divisorByRemainders wsX7_divisorByRemainders) := goodIn_app (goodIn_of _ (by decide +kernel)) ggX7_multiple_X7_divisorByRemainders
set_option maxRecDepth 20000 in
theorem ggX7_multiple_X7_quotient : GoodIn wsX7_multiple wsX7_quotient := goodIn_r _ [7] (by decide +kernel) (by decide +kernel)
set_option maxRecDepth 20000 in
theorem gX7_multiple_X7_quotient : GoodIn wsX7_multiple (va_wsS RX7 23 yX7_quotient wsX7_quotient) := goodIn_app (goodIn_of _ (by decide +kernel)) ggX7_multiple_X7_quotient
theorem dX7_multiple_0 : decode cX7_multiple 0 = .ok (.iload_n 0, 1) := by decide +kernel
theorem dX7_multiple_1 : decode cX7_multiple 1 = .ok (.iload_n 0, 1) := by decide +kernel
theorem dX7_multiple_2 : decode cX7_multiple 2 = .ok (.iload_n 1, 1) := by decide +kernel
theorem dX7_multiple_3 : decode cX7_multiple 3 = .ok (.invokestatic 29, 3) := by decide +kernel
theorem dX7_multiple_6 : decode cX7_multiple 6 = .ok (.invokestatic 23, 3) := by decide +kernel
theorem dX7_multiple_9 : decode cX7_multiple 9 = .ok (.iload_n 1, 1) := by decide +kernel
theorem dX7_multiple_10 : decode cX7_multiple 10 = .ok (.imul, 1) := by decide +kernel
theorem dX7_multiple_11 : decode cX7_multiple 11 = .ok (.ireturn, 1) := by decide +kernel
set_option maxRecDepth 20000 in
theorem ggX8_init_X6_init : GoodIn wsX8_init wsX6_init := goodIn_r _ [28, 29, 2, 3, 30, 31, 32, 33, 34, 35, 36, 37, 38, 39, 40, 41, 42, 43, 69, 70, 71, 72, 73, 74, 108, 109, 110, 111] (by decide +kernel) (by decide +kernel)
set_option maxRecDepth 20000 in
theorem gX8_init_X6_init : GoodIn wsX8_init (wsX6_init) := ggX8_init_X6_init
set_option maxRecDepth 20000 in
theorem ggX8_init_X3_init : GoodIn wsX8_init wsX3_init := goodIn_r _ [46, 47, 2, 3, 48, 49, 5, 6, 50, 27, 28, 29, 30, 31, 32, 33, 34, 35, 36, 37, 38, 39, 40, 41, 42, 43, 86, 87, 88, 69, 70, 71, 72, 73, 74, 108, 109, 110, 111] (by decide +kernel) (by decide +kernel)
set_option maxRecDepth 20000 in
theorem gX8_init_X3_init : GoodIn wsX8_init (wsX3_init) := ggX8_init_X3_init
set_option maxRecDepth 20000 in
theorem ggX8_init_X4_init : GoodIn wsX8_init wsX4_init := goodIn_r _ [53, 54, 2, 3, 30, 55, 89, 90, 91, 92, 93, 94, 95, 96, 97] (by decide +kernel) (by decide +kernel)
set_option maxRecDepth 20000 in
theorem gX8_init_X4_init : GoodIn wsX8_init (wsX4_init) := ggX8_init_X4_init
set_option maxRecDepth 20000 in
theorem ggX8_init_X2_init : GoodIn wsX8_init wsX2_init := goodIn_r _ [58, 59, 2, 3, 30, 60, 98, 99] (by decide +kernel) (by decide +kernel)
set_option maxRecDepth 20000 in
theorem gX8_init_X2_init : GoodIn wsX8_init (wsX2_init) := ggX8_init_X2_init
set_option maxRecDepth 20000 in
theorem ggX8_init_X1_init : GoodIn wsX8_init wsX1_init := goodIn_r _ [63, 64, 2, 3, 30, 65, 66, 67, 68, 100, 101, 102, 103, 104, 105, 106, 107] (by decide +kernel) (by decide +kernel)
set_option maxRecDepth 20000 in
theorem gX8_init_X1_init : GoodIn wsX8_init (wsX1_init) := ggX8_init_X1_init
theorem dX8_init_0 : decode cX8_init 0 = .ok (.aload_n 0, 1) := by decide +kernel
theorem dX8_init_1 : decode cX8_init 1 = .ok (.invokespecial 1, 3) := by decide +kernel
theorem dX8_init_4 : decode cX8_init 4 = .ok (.aload_n 0, 1) := by decide +kernel
theorem dX8_init_5 : decode cX8_init 5 = .ok (.new 7, 3) := by decide +kernel
theorem dX8_init_8 : decode cX8_init 8 = .ok (.dup, 1) := by decide +kernel
theorem dX8_init_9 : decode cX8_init 9 = .ok (.invokespecial 9, 3) := by decide +kernel
theorem dX8_init_12 : decode cX8_init 12 = .ok (.putfield 10, 3) := by decide +kernel
theorem dX8_init_15 : decode cX8_init 15 = .ok (.aload_n 0, 1) := by decide +kernel
theorem dX8_init_16 : decode cX8_init 16 = .ok (.new 7, 3) := by decide +kernel
theorem dX8_init_19 : decode cX8_init 19 = .ok (.dup, 1) := by decide +kernel
theorem dX8_init_20 : decode cX8_init 20 = .ok (.invokespecial 9, 3) := by decide +kernel
theorem dX8_init_23 : decode cX8_init 23 = .ok (.putfield 16, 3) := by decide +kernel
theorem dX8_init_26 : decode cX8_init 26 = .ok (.aload_n 0, 1) := by decide +kernel
theorem dX8_init_27 : decode cX8_init 27 = .ok (.new 7, 3) := by decide +kernel
theorem dX8_init_30 : decode cX8_init 30 = .ok (.dup, 1) := by decide +kernel
theorem dX8_init_31 : decode cX8_init 31 = .ok (.invokespecial 9, 3) := by decide +kernel
theorem dX8_init_34 : decode cX8_init 34 = .ok (.putfield 19, 3) := by decide +kernel
theorem dX8_init_37 : decode cX8_init 37 = .ok (.aload_n 0, 1) := by decide +kernel
theorem dX8_init_38 : decode cX8_init 38 = .ok (.new 22, 3) := by decide +kernel
theorem dX8_init_41 : decode cX8_init 41 = .ok (.dup, 1) := by decide +kernel
theorem dX8_init_42 : decode cX8_init 42 = .ok (.invokespecial 24, 3) := by decide +kernel
theorem dX8_init_45 : decode cX8_init 45 = .ok (.putfield 25, 3) := by decide +kernel
theorem dX8_init_48 : decode cX8_init 48 = .ok (.aload_n 0, 1) := by decide +kernel
theorem dX8_init_49 : decode cX8_init 49 = .ok (.new 29, 3) := by decide +kernel
theorem dX8_init_52 : decode cX8_init 52 = .ok (.dup, 1) := by decide +kernel
theorem dX8_init_53 : decode cX8_init 53 = .ok (.invokespecial 31, 3) := by decide +kernel
theorem dX8_init_56 : decode cX8_init 56 = .ok (.putfield 32, 3) := by decide +kernel
theorem dX8_init_59 : decode cX8_init 59 = .ok (.aload_n 0, 1) := by decide +kernel
theorem dX8_init_60 : decode cX8_init 60 = .ok (.new 36, 3) := by decide +kernel
theorem dX8_init_63 : decode cX8_init 63 = .ok (.dup, 1) := by decide +kernel
theorem dX8_init_64 : decode cX8_init 64 = .ok (.invokespecial 38, 3) := by decide +kernel
theorem dX8_init_67 : decode cX8_init 67 = .ok (.putfield 39, 3) := by decide +kernel
theorem dX8_init_70 : decode cX8_init 70 = .ok (.aload_n 0, 1) := by decide +kernel
theorem dX8_init_71 : decode cX8_init 71 = .ok (.new 43, 3) := by decide +kernel
theorem dX8_init_74 : decode cX8_init 74 = .ok (.dup, 1) := by decide +kernel
theorem dX8_init_75 : decode cX8_init 75 = .ok (.invokespecial 45, 3) := by decide +kernel
theorem dX8_init_78 : decode cX8_init 78 = .ok (.putfield 46, 3) := by decide +kernel
theorem dX8_init_81 : decode cX8_init 81 = .ok (.return_, 1) := by decide +kernel
set_option maxRecDepth 20000 in
theorem ggX8_add_X3_prepare : GoodIn wsX8_add wsX3_prepare := goodIn_r _ [7, 8, 9, 10, 11, 6, 12, 13, 14, 15, 16, 17, 18, 19, 20, 21, 22, 23, 24, 25, 26, 27, 28, 29, 30, 31, 32, 33, 34, 35, 36, 37, 38, 39, 40, 41, 42, 43, 44, 45, 46, 47, 48, 49, 50, 51, 52, 53, 54, 55, 56, 57, 58, 59, 60, 109, 110, 111, 112, 113, 114, 115, 116, 117, 118, 119, 120, 121] (by decide +kernel) (by decide +kernel)
set_option maxRecDepth 20000 in
theorem gX8_add_X3_prepare : GoodIn wsX8_add (wsV RX8 50 RX3 yX3_prepare wsX3_prepare) := goodIn_app (goodIn_of _ (by decide +kernel)) ggX8_add_X3_prepare
set_option maxRecDepth 20000 in
theorem ggX8_add_X6_putIn : GoodIn wsX8_add wsX6_putIn := goodIn_r _ [64, 20, 24, 25, 65, 66, 67, 68, 69, 31, 28, 32, 70, 34, 35, 71, 72, 73, 39, 74, 41, 43, 44, 45, 46, 47, 48, 42, 49, 50, 51, 52, 53, 54, 55, 56, 57, 58, 59, 75, 76, 77, 78, 79, 80, 81, 82, 83, 84, 85, 86, 87, 88, 89, 90, 91, 92, 93, 112, 113, 114, 115, 116, 117, 118, 119, 120, 121] (by decide +kernel) (by decide +kernel)
set_option maxRecDepth 20000 in
theorem gX8_add_X6_putIn : GoodIn wsX8_add (wsV RX8 54 RX6 yX6_putIn wsX6_putIn) := goodIn_app (goodIn_of _ (by decide +kernel)) ggX8_add_X6_putIn
set_option maxRecDepth 20000 in
theorem ggX8_add_X3_keep : GoodIn wsX8_add wsX3_keep := goodIn_r _ [97, 8, 13, 109, 110, 111] (by decide +kernel) (by decide +kernel)
set_option maxRecDepth 20000 in
theorem gX8_add_X3_keep : GoodIn wsX8_add (wsV RX8 58 RX3 yX3_keep wsX3_keep) := goodIn_app (goodIn_of _ (by decide +kernel)) ggX8_add_X3_keep
theorem dX8_add_0 : decode cX8_add 0 = .ok (.aload_n 0, 1) := by decide +kernel
theorem dX8_add_1 : decode cX8_add 1 = .ok (.getfield 25, 3) := by decide +kernel
theorem dX8_add_4 : decode cX8_add 4 = .ok (.aload_n 0, 1) := by decide +kernel
theorem dX8_add_5 : decode cX8_add 5 = .ok (.getfield 10, 3) := by decide +kernel
theorem dX8_add_8 : decode cX8_add 8 = .ok (.invokevirtual 50, 3) := by decide +kernel
theorem dX8_add_11 : decode cX8_add 11 = .ok (.aload_n 0, 1) := by decide +kernel
theorem dX8_add_12 : decode cX8_add 12 = .ok (.getfield 25, 3) := by decide +kernel
theorem dX8_add_15 : decode cX8_add 15 = .ok (.aload_n 0, 1) := by decide +kernel
theorem dX8_add_16 : decode cX8_add 16 = .ok (.getfield 10, 3) := by decide +kernel
theorem dX8_add_19 : decode cX8_add 19 = .ok (.iload_n 1, 1) := by decide +kernel
theorem dX8_add_20 : decode cX8_add 20 = .ok (.iload_n 2, 1) := by decide +kernel
theorem dX8_add_21 : decode cX8_add 21 = .ok (.invokevirtual 54, 3) := by decide +kernel
theorem dX8_add_24 : decode cX8_add 24 = .ok (.invokevirtual 58, 3) := by decide +kernel
theorem dX8_add_27 : decode cX8_add 27 = .ok (.ireturn, 1) := by decide +kernel
set_option maxRecDepth 20000 in
theorem ggX8_take_X3_prepare : GoodIn wsX8_take wsX3_prepare := goodIn_r _ [7, 8, 9, 10, 11, 6, 12, 13, 14, 15, 16, 17, 18, 19, 20, 21, 22, 23, 24, 25, 26, 27, 28, 29, 30, 31, 32, 33, 34, 35, 36, 37, 38, 39, 40, 41, 42, 43, 44, 45, 46, 47, 48, 49, 50, 51, 52, 53, 54, 55, 56, 57, 58, 59, 60, 118, 119, 120, 121, 122, 123, 124, 125, 126, 127, 128, 129, 130] (by decide +kernel) (by decide +kernel)
set_option maxRecDepth 20000 in
theorem gX8_take_X3_prepare : GoodIn wsX8_take (wsV RX8 50 RX3 yX3_prepare wsX3_prepare) := goodIn_app (goodIn_of _ (by decide +kernel)) ggX8_take_X3_prepare
set_option maxRecDepth 20000 in
theorem ggX8_take_X6_takeOff : GoodIn wsX8_take wsX6_takeOff := goodIn_r _ [64, 25, 65, 66, 67, 18, 68, 20, 69, 70, 71, 72, 24, 73, 74, 75, 39, 76, 41, 43, 44, 45, 46, 47, 48, 42, 49, 50, 51, 52, 53, 54, 55, 56, 57, 28, 58, 59, 77, 78, 79, 80, 81, 82, 83, 84, 85, 86, 87, 88, 31, 32, 89, 90, 91, 92, 93, 34, 35, 94, 95, 96, 97, 98, 99, 100, 101, 102, 121, 122, 123, 124, 125, 126, 127, 128, 129, 130] (by decide +kernel) (by decide +kernel)
set_option maxRecDepth 20000 in
theorem gX8_take_X6_takeOff : GoodIn wsX8_take (wsV RX8 62 RX6 yX6_takeOff wsX6_takeOff) := goodIn_app (goodIn_of _ (by decide +kernel)) ggX8_take_X6_takeOff
set_option maxRecDepth 20000 in
theorem ggX8_take_X3_keep : GoodIn wsX8_take wsX3_keep := goodIn_r _ [106, 8, 13, 118, 119, 120] (by decide +kernel) (by decide +kernel)
set_option maxRecDepth 20000 in
theorem gX8_take_X3_keep : GoodIn wsX8_take (wsV RX8 58 RX3 yX3_keep wsX3_keep) := goodIn_app (goodIn_of _ (by decide +kernel)) ggX8_take_X3_keep
theorem dX8_take_0 : decode cX8_take 0 = .ok (.aload_n 0, 1) := by decide +kernel
theorem dX8_take_1 : decode cX8_take 1 = .ok (.getfield 25, 3) := by decide +kernel
theorem dX8_take_4 : decode cX8_take 4 = .ok (.aload_n 0, 1) := by decide +kernel
theorem dX8_take_5 : decode cX8_take 5 = .ok (.getfield 10, 3) := by decide +kernel
theorem dX8_take_8 : decode cX8_take 8 = .ok (.invokevirtual 50, 3) := by decide +kernel
theorem dX8_take_11 : decode cX8_take 11 = .ok (.aload_n 0, 1) := by decide +kernel
theorem dX8_take_12 : decode cX8_take 12 = .ok (.getfield 25, 3) := by decide +kernel
theorem dX8_take_15 : decode cX8_take 15 = .ok (.aload_n 0, 1) := by decide +kernel
theorem dX8_take_16 : decode cX8_take 16 = .ok (.getfield 10, 3) := by decide +kernel
theorem dX8_take_19 : decode cX8_take 19 = .ok (.iload_n 1, 1) := by decide +kernel
theorem dX8_take_20 : decode cX8_take 20 = .ok (.invokevirtual 62, 3) := by decide +kernel
theorem dX8_take_23 : decode cX8_take 23 = .ok (.invokevirtual 58, 3) := by decide +kernel
theorem dX8_take_26 : decode cX8_take 26 = .ok (.ireturn, 1) := by decide +kernel
set_option maxRecDepth 20000 in
theorem ggX8_share_X3_prepare : GoodIn wsX8_share wsX3_prepare := goodIn_r _ [7, 8, 9, 10, 11, 6, 12, 13, 14, 15, 16, 17, 18, 19, 20, 21, 22, 23, 24, 25, 26, 27, 28, 29, 30, 31, 32, 33, 34, 35, 36, 37, 38, 39, 40, 41, 42, 43, 44, 45, 46, 47, 48, 49, 50, 51, 52, 53, 54, 55, 56, 57, 58, 59, 60, 100, 101, 102, 103, 104, 105, 106, 107, 108, 109, 110, 111, 112] (by decide +kernel) (by decide +kernel)
set_option maxRecDepth 20000 in
theorem gX8_share_X3_prepare : GoodIn wsX8_share (wsV RX8 50 RX3 yX3_prepare wsX3_prepare) := goodIn_app (goodIn_of _ (by decide +kernel)) ggX8_share_X3_prepare
set_option maxRecDepth 20000 in
theorem ggX8_share_X6_shareAt : GoodIn wsX8_share wsX6_shareAt := goodIn_r _ [64, 24, 65, 66, 67, 18, 68, 20, 69, 70, 71, 72, 73, 74, 75, 76, 77, 78, 79, 80, 81, 82, 83, 84, 34, 28, 35, 103, 104, 105, 106, 107, 108] (by decide +kernel) (by decide +kernel)
set_option maxRecDepth 20000 in
theorem gX8_share_X6_shareAt : GoodIn wsX8_share (wsV RX8 65 RX6 yX6_shareAt wsX6_shareAt) := goodIn_app (goodIn_of _ (by decide +kernel)) ggX8_share_X6_shareAt
set_option maxRecDepth 20000 in
theorem ggX8_share_X3_keep : GoodIn wsX8_share wsX3_keep := goodIn_r _ [88, 8, 13, 100, 101, 102] (by decide +kernel) (by decide +kernel)
set_option maxRecDepth 20000 in
theorem gX8_share_X3_keep : GoodIn wsX8_share (wsV RX8 58 RX3 yX3_keep wsX3_keep) := goodIn_app (goodIn_of _ (by decide +kernel)) ggX8_share_X3_keep
theorem dX8_share_0 : decode cX8_share 0 = .ok (.aload_n 0, 1) := by decide +kernel
theorem dX8_share_1 : decode cX8_share 1 = .ok (.getfield 25, 3) := by decide +kernel
theorem dX8_share_4 : decode cX8_share 4 = .ok (.aload_n 0, 1) := by decide +kernel
theorem dX8_share_5 : decode cX8_share 5 = .ok (.getfield 10, 3) := by decide +kernel
theorem dX8_share_8 : decode cX8_share 8 = .ok (.invokevirtual 50, 3) := by decide +kernel
theorem dX8_share_11 : decode cX8_share 11 = .ok (.aload_n 0, 1) := by decide +kernel
theorem dX8_share_12 : decode cX8_share 12 = .ok (.getfield 25, 3) := by decide +kernel
theorem dX8_share_15 : decode cX8_share 15 = .ok (.aload_n 0, 1) := by decide +kernel
theorem dX8_share_16 : decode cX8_share 16 = .ok (.getfield 10, 3) := by decide +kernel
theorem dX8_share_19 : decode cX8_share 19 = .ok (.iload_n 1, 1) := by decide +kernel
theorem dX8_share_20 : decode cX8_share 20 = .ok (.invokevirtual 65, 3) := by decide +kernel
theorem dX8_share_23 : decode cX8_share 23 = .ok (.invokevirtual 58, 3) := by decide +kernel
theorem dX8_share_26 : decode cX8_share 26 = .ok (.ireturn, 1) := by decide +kernel
set_option maxRecDepth 20000 in
theorem ggX8_divide_X3_prepare : GoodIn wsX8_divide wsX3_prepare := goodIn_r _ [7, 8, 9, 10, 11, 6, 12, 13, 14, 15, 16, 17, 18, 19, 20, 21, 22, 23, 24, 25, 26, 27, 28, 29, 30, 31, 32, 33, 34, 35, 36, 37, 38, 39, 40, 41, 42, 43, 44, 45, 46, 47, 48, 49, 50, 51, 52, 53, 54, 55, 56, 57, 58, 59, 60, 124, 125, 126, 127, 128, 129, 130, 131, 132, 133, 134, 135, 136] (by decide +kernel) (by decide +kernel)
set_option maxRecDepth 20000 in
theorem gX8_divide_X3_prepare : GoodIn wsX8_divide (wsV RX8 50 RX3 yX3_prepare wsX3_prepare) := goodIn_app (goodIn_of _ (by decide +kernel)) ggX8_divide_X3_prepare
set_option maxRecDepth 20000 in
theorem ggX8_divide_X6_divideAt : GoodIn wsX8_divide wsX6_divideAt := goodIn_r _ [64, 65, 66, 67, 18, 68, 20, 69, 70, 71, 72, 24, 73, 74, 75, 76, 77, 78, 79, 80, 25, 23, 81, 82, 83, 84, 85, 86, 39, 87, 41, 43, 44, 45, 46, 47, 48, 42, 49, 50, 51, 52, 53, 54, 55, 56, 57, 28, 58, 59, 88, 89, 90, 91, 92, 93, 94, 95, 96, 31, 32, 97, 98, 99, 100, 101, 34, 35, 102, 103, 104, 105, 106, 107, 108, 127, 128, 129, 130, 131, 132, 133, 134, 135, 136] (by decide +kernel) (by decide +kernel)
set_option maxRecDepth 20000 in
theorem gX8_divide_X6_divideAt : GoodIn wsX8_divide (wsV RX8 68 RX6 yX6_divideAt wsX6_divideAt) := goodIn_app (goodIn_of _ (by decide +kernel)) ggX8_divide_X6_divideAt
set_option maxRecDepth 20000 in
theorem ggX8_divide_X3_keep : GoodIn wsX8_divide wsX3_keep := goodIn_r _ [112, 8, 13, 124, 125, 126] (by decide +kernel) (by decide +kernel)
set_option maxRecDepth 20000 in
theorem gX8_divide_X3_keep : GoodIn wsX8_divide (wsV RX8 58 RX3 yX3_keep wsX3_keep) := goodIn_app (goodIn_of _ (by decide +kernel)) ggX8_divide_X3_keep
theorem dX8_divide_0 : decode cX8_divide 0 = .ok (.aload_n 0, 1) := by decide +kernel
theorem dX8_divide_1 : decode cX8_divide 1 = .ok (.getfield 25, 3) := by decide +kernel
theorem dX8_divide_4 : decode cX8_divide 4 = .ok (.aload_n 0, 1) := by decide +kernel
theorem dX8_divide_5 : decode cX8_divide 5 = .ok (.getfield 10, 3) := by decide +kernel
theorem dX8_divide_8 : decode cX8_divide 8 = .ok (.invokevirtual 50, 3) := by decide +kernel
theorem dX8_divide_11 : decode cX8_divide 11 = .ok (.aload_n 0, 1) := by decide +kernel
theorem dX8_divide_12 : decode cX8_divide 12 = .ok (.getfield 25, 3) := by decide +kernel
theorem dX8_divide_15 : decode cX8_divide 15 = .ok (.aload_n 0, 1) := by decide +kernel
theorem dX8_divide_16 : decode cX8_divide 16 = .ok (.getfield 10, 3) := by decide +kernel
theorem dX8_divide_19 : decode cX8_divide 19 = .ok (.iload_n 1, 1) := by decide +kernel
theorem dX8_divide_20 : decode cX8_divide 20 = .ok (.invokevirtual 68, 3) := by decide +kernel
theorem dX8_divide_23 : decode cX8_divide 23 = .ok (.invokevirtual 58, 3) := by decide +kernel
theorem dX8_divide_26 : decode cX8_divide 26 = .ok (.ireturn, 1) := by decide +kernel
set_option maxRecDepth 20000 in
theorem ggX8_strike_X3_prepare : GoodIn wsX8_strike wsX3_prepare := goodIn_r _ [7, 8, 9, 10, 11, 6, 12, 13, 14, 15, 16, 17, 18, 19, 20, 21, 22, 23, 24, 25, 26, 27, 28, 29, 30, 31, 32, 33, 34, 35, 36, 37, 38, 39, 40, 41, 42, 43, 44, 45, 46, 47, 48, 49, 50, 51, 52, 53, 54, 55, 56, 57, 58, 59, 60, 128, 129, 130, 131, 132, 133, 134, 135, 136, 137, 138, 139, 140] (by decide +kernel) (by decide +kernel)
set_option maxRecDepth 20000 in
theorem gX8_strike_X3_prepare : GoodIn wsX8_strike (wsV RX8 50 RX3 yX3_prepare wsX3_prepare) := goodIn_app (goodIn_of _ (by decide +kernel)) ggX8_strike_X3_prepare
set_option maxRecDepth 20000 in
theorem ggX8_strike_X6_strikeBy : GoodIn wsX8_strike wsX6_strikeBy := goodIn_r _ [64, 65, 66, 67, 18, 68, 20, 69, 70, 71, 72, 73, 74, 75, 76, 77, 78, 79, 80, 81, 82, 24, 83, 84, 85, 86, 87, 25, 23, 88, 89, 90, 91, 92, 93, 39, 94, 41, 43, 44, 45, 46, 47, 48, 42, 49, 50, 51, 52, 53, 54, 55, 56, 57, 28, 58, 59, 95, 96, 97, 98, 99, 100, 31, 32, 101, 102, 103, 104, 105, 34, 35, 106, 107, 108, 109, 110, 111, 112, 131, 132, 133, 134, 135, 136, 137, 138, 139, 140] (by decide +kernel) (by decide +kernel)
