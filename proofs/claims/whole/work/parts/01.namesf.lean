theorem dX9_changes_17 : decode cX9_changes 17 = .ok (.istore_n 1, 1) := by decide +kernel
theorem dX9_changes_18 : decode cX9_changes 18 = .ok (.iload_n 1, 1) := by decide +kernel
theorem dX9_changes_19 : decode cX9_changes 19 = .ok (.sipush 3735, 3) := by decide +kernel
theorem dX9_changes_22 : decode cX9_changes 22 = .ok (.if_icmp .ge 25, 3) := by decide +kernel
theorem dX9_changes_25 : decode cX9_changes 25 = .ok (.aload_n 0, 1) := by decide +kernel
theorem dX9_changes_26 : decode cX9_changes 26 = .ok (.getfield 13, 3) := by decide +kernel
theorem dX9_changes_29 : decode cX9_changes 29 = .ok (.iload_n 1, 1) := by decide +kernel
theorem dX9_changes_30 : decode cX9_changes 30 = .ok (.aload_n 0, 1) := by decide +kernel
theorem dX9_changes_31 : decode cX9_changes 31 = .ok (.getfield 13, 3) := by decide +kernel
theorem dX9_changes_34 : decode cX9_changes 34 = .ok (.iload_n 1, 1) := by decide +kernel
theorem dX9_changes_35 : decode cX9_changes 35 = .ok (.sipush 1245, 3) := by decide +kernel
theorem dX9_changes_38 : decode cX9_changes 38 = .ok (.iadd, 1) := by decide +kernel
theorem dX9_changes_39 : decode cX9_changes 39 = .ok (.iaload, 1) := by decide +kernel
theorem dX9_changes_40 : decode cX9_changes 40 = .ok (.iastore, 1) := by decide +kernel
theorem dX9_changes_41 : decode cX9_changes 41 = .ok (.iinc 1 1, 3) := by decide +kernel
theorem dX9_changes_44 : decode cX9_changes 44 = .ok (.goto (-26), 3) := by decide +kernel
theorem dX9_changes_47 : decode cX9_changes 47 = .ok (.aload_n 0, 1) := by decide +kernel
theorem dX9_changes_48 : decode cX9_changes 48 = .ok (.dup, 1) := by decide +kernel
theorem dX9_changes_49 : decode cX9_changes 49 = .ok (.getfield 47, 3) := by decide +kernel
theorem dX9_changes_52 : decode cX9_changes 52 = .ok (.iconst 1, 1) := by decide +kernel
theorem dX9_changes_53 : decode cX9_changes 53 = .ok (.isub, 1) := by decide +kernel
theorem dX9_changes_54 : decode cX9_changes 54 = .ok (.putfield 47, 3) := by decide +kernel
theorem dX9_changes_57 : decode cX9_changes 57 = .ok (.iconst 0, 1) := by decide +kernel
theorem dX9_changes_58 : decode cX9_changes 58 = .ok (.istore_n 1, 1) := by decide +kernel
theorem dX9_changes_59 : decode cX9_changes 59 = .ok (.iload_n 1, 1) := by decide +kernel
theorem dX9_changes_60 : decode cX9_changes 60 = .ok (.sipush 1245, 3) := by decide +kernel
theorem dX9_changes_63 : decode cX9_changes 63 = .ok (.if_icmp .ge 30, 3) := by decide +kernel
theorem dX9_changes_66 : decode cX9_changes 66 = .ok (.aload_n 0, 1) := by decide +kernel
theorem dX9_changes_67 : decode cX9_changes 67 = .ok (.getfield 13, 3) := by decide +kernel
theorem dX9_changes_70 : decode cX9_changes 70 = .ok (.sipush 1245, 3) := by decide +kernel
theorem dX9_changes_73 : decode cX9_changes 73 = .ok (.aload_n 0, 1) := by decide +kernel
theorem dX9_changes_74 : decode cX9_changes 74 = .ok (.getfield 47, 3) := by decide +kernel
theorem dX9_changes_77 : decode cX9_changes 77 = .ok (.imul, 1) := by decide +kernel
theorem dX9_changes_78 : decode cX9_changes 78 = .ok (.iload_n 1, 1) := by decide +kernel
theorem dX9_changes_79 : decode cX9_changes 79 = .ok (.iadd, 1) := by decide +kernel
theorem dX9_changes_80 : decode cX9_changes 80 = .ok (.aload_n 0, 1) := by decide +kernel
theorem dX9_changes_81 : decode cX9_changes 81 = .ok (.getfield 7, 3) := by decide +kernel
theorem dX9_changes_84 : decode cX9_changes 84 = .ok (.iload_n 1, 1) := by decide +kernel
theorem dX9_changes_85 : decode cX9_changes 85 = .ok (.iaload, 1) := by decide +kernel
theorem dX9_changes_86 : decode cX9_changes 86 = .ok (.iastore, 1) := by decide +kernel
theorem dX9_changes_87 : decode cX9_changes 87 = .ok (.iinc 1 1, 3) := by decide +kernel
theorem dX9_changes_90 : decode cX9_changes 90 = .ok (.goto (-31), 3) := by decide +kernel
theorem dX9_changes_93 : decode cX9_changes 93 = .ok (.aload_n 0, 1) := by decide +kernel
theorem dX9_changes_94 : decode cX9_changes 94 = .ok (.dup, 1) := by decide +kernel
theorem dX9_changes_95 : decode cX9_changes 95 = .ok (.getfield 47, 3) := by decide +kernel
theorem dX9_changes_98 : decode cX9_changes 98 = .ok (.iconst 1, 1) := by decide +kernel
theorem dX9_changes_99 : decode cX9_changes 99 = .ok (.iadd, 1) := by decide +kernel
theorem dX9_changes_100 : decode cX9_changes 100 = .ok (.putfield 47, 3) := by decide +kernel
theorem dX9_changes_103 : decode cX9_changes 103 = .ok (.return_, 1) := by decide +kernel
theorem dX9_putsAside_0 : decode cX9_putsAside 0 = .ok (.iconst 0, 1) := by decide +kernel
theorem dX9_putsAside_1 : decode cX9_putsAside 1 = .ok (.istore_n 1, 1) := by decide +kernel
theorem dX9_putsAside_2 : decode cX9_putsAside 2 = .ok (.iload_n 1, 1) := by decide +kernel
theorem dX9_putsAside_3 : decode cX9_putsAside 3 = .ok (.sipush 1245, 3) := by decide +kernel
theorem dX9_putsAside_6 : decode cX9_putsAside 6 = .ok (.if_icmp .ge 21, 3) := by decide +kernel
theorem dX9_putsAside_9 : decode cX9_putsAside 9 = .ok (.aload_n 0, 1) := by decide +kernel
theorem dX9_putsAside_10 : decode cX9_putsAside 10 = .ok (.getfield 19, 3) := by decide +kernel
theorem dX9_putsAside_13 : decode cX9_putsAside 13 = .ok (.iload_n 1, 1) := by decide +kernel
theorem dX9_putsAside_14 : decode cX9_putsAside 14 = .ok (.aload_n 0, 1) := by decide +kernel
theorem dX9_putsAside_15 : decode cX9_putsAside 15 = .ok (.getfield 7, 3) := by decide +kernel
theorem dX9_putsAside_18 : decode cX9_putsAside 18 = .ok (.iload_n 1, 1) := by decide +kernel
theorem dX9_putsAside_19 : decode cX9_putsAside 19 = .ok (.iaload, 1) := by decide +kernel
theorem dX9_putsAside_20 : decode cX9_putsAside 20 = .ok (.iastore, 1) := by decide +kernel
theorem dX9_putsAside_21 : decode cX9_putsAside 21 = .ok (.iinc 1 1, 3) := by decide +kernel
theorem dX9_putsAside_24 : decode cX9_putsAside 24 = .ok (.goto (-22), 3) := by decide +kernel
theorem dX9_putsAside_27 : decode cX9_putsAside 27 = .ok (.return_, 1) := by decide +kernel
theorem dX9_putsBack_0 : decode cX9_putsBack 0 = .ok (.iconst 0, 1) := by decide +kernel
theorem dX9_putsBack_1 : decode cX9_putsBack 1 = .ok (.istore_n 1, 1) := by decide +kernel
theorem dX9_putsBack_2 : decode cX9_putsBack 2 = .ok (.iload_n 1, 1) := by decide +kernel
theorem dX9_putsBack_3 : decode cX9_putsBack 3 = .ok (.sipush 1245, 3) := by decide +kernel
theorem dX9_putsBack_6 : decode cX9_putsBack 6 = .ok (.if_icmp .ge 21, 3) := by decide +kernel
theorem dX9_putsBack_9 : decode cX9_putsBack 9 = .ok (.aload_n 0, 1) := by decide +kernel
theorem dX9_putsBack_10 : decode cX9_putsBack 10 = .ok (.getfield 7, 3) := by decide +kernel
theorem dX9_putsBack_13 : decode cX9_putsBack 13 = .ok (.iload_n 1, 1) := by decide +kernel
theorem dX9_putsBack_14 : decode cX9_putsBack 14 = .ok (.aload_n 0, 1) := by decide +kernel
theorem dX9_putsBack_15 : decode cX9_putsBack 15 = .ok (.getfield 19, 3) := by decide +kernel
theorem dX9_putsBack_18 : decode cX9_putsBack 18 = .ok (.iload_n 1, 1) := by decide +kernel
theorem dX9_putsBack_19 : decode cX9_putsBack 19 = .ok (.iaload, 1) := by decide +kernel
theorem dX9_putsBack_20 : decode cX9_putsBack 20 = .ok (.iastore, 1) := by decide +kernel
theorem dX9_putsBack_21 : decode cX9_putsBack 21 = .ok (.iinc 1 1, 3) := by decide +kernel
theorem dX9_putsBack_24 : decode cX9_putsBack 24 = .ok (.goto (-22), 3) := by decide +kernel
theorem dX9_putsBack_27 : decode cX9_putsBack 27 = .ok (.return_, 1) := by decide +kernel
theorem dX9_of_0 : decode cX9_of 0 = .ok (.aload_n 0, 1) := by decide +kernel
theorem dX9_of_1 : decode cX9_of 1 = .ok (.getfield 7, 3) := by decide +kernel
theorem dX9_of_4 : decode cX9_of 4 = .ok (.iconst 4, 1) := by decide +kernel
theorem dX9_of_5 : decode cX9_of 5 = .ok (.iload_n 1, 1) := by decide +kernel
theorem dX9_of_6 : decode cX9_of 6 = .ok (.iadd, 1) := by decide +kernel
theorem dX9_of_7 : decode cX9_of 7 = .ok (.iaload, 1) := by decide +kernel
theorem dX9_of_8 : decode cX9_of 8 = .ok (.ireturn, 1) := by decide +kernel
set_option maxRecDepth 20000 in
theorem ggX9_isStep_X9_in : GoodIn wsX9_isStep wsX9_in := goodIn_r _ [5] (by decide +kernel) (by decide +kernel)
set_option maxRecDepth 20000 in
theorem gX9_isStep_X9_in : GoodIn wsX9_isStep (va_wsS RX9 51 yX9_in wsX9_in) := goodIn_app (goodIn_of _ (by decide +kernel)) ggX9_isStep_X9_in
theorem dX9_isStep_0 : decode cX9_isStep 0 = .ok (.iload_n 1, 1) := by decide +kernel
theorem dX9_isStep_1 : decode cX9_isStep 1 = .ok (.iconst 0, 1) := by decide +kernel
theorem dX9_isStep_2 : decode cX9_isStep 2 = .ok (.aload_n 0, 1) := by decide +kernel
theorem dX9_isStep_3 : decode cX9_isStep 3 = .ok (.getfield 7, 3) := by decide +kernel
theorem dX9_isStep_6 : decode cX9_isStep 6 = .ok (.iconst 2, 1) := by decide +kernel
theorem dX9_isStep_7 : decode cX9_isStep 7 = .ok (.iaload, 1) := by decide +kernel
theorem dX9_isStep_8 : decode cX9_isStep 8 = .ok (.iconst 1, 1) := by decide +kernel
theorem dX9_isStep_9 : decode cX9_isStep 9 = .ok (.isub, 1) := by decide +kernel
theorem dX9_isStep_10 : decode cX9_isStep 10 = .ok (.invokestatic 51, 3) := by decide +kernel
theorem dX9_isStep_13 : decode cX9_isStep 13 = .ok (.ireturn, 1) := by decide +kernel
theorem dX9_rank_0 : decode cX9_rank 0 = .ok (.iconst 0, 1) := by decide +kernel
theorem dX9_rank_1 : decode cX9_rank 1 = .ok (.istore_n 2, 1) := by decide +kernel
theorem dX9_rank_2 : decode cX9_rank 2 = .ok (.sipush 1228, 3) := by decide +kernel
theorem dX9_rank_5 : decode cX9_rank 5 = .ok (.istore_n 3, 1) := by decide +kernel
theorem dX9_rank_6 : decode cX9_rank 6 = .ok (.iload_n 2, 1) := by decide +kernel
theorem dX9_rank_7 : decode cX9_rank 7 = .ok (.iload_n 3, 1) := by decide +kernel
theorem dX9_rank_8 : decode cX9_rank 8 = .ok (.if_icmp .ge 51, 3) := by decide +kernel
theorem dX9_rank_11 : decode cX9_rank 11 = .ok (.iload_n 2, 1) := by decide +kernel
theorem dX9_rank_12 : decode cX9_rank 12 = .ok (.iload_n 3, 1) := by decide +kernel
theorem dX9_rank_13 : decode cX9_rank 13 = .ok (.iadd, 1) := by decide +kernel
theorem dX9_rank_14 : decode cX9_rank 14 = .ok (.iconst 2, 1) := by decide +kernel
theorem dX9_rank_15 : decode cX9_rank 15 = .ok (.idiv, 1) := by decide +kernel
theorem dX9_rank_16 : decode cX9_rank 16 = .ok (.istore 4, 2) := by decide +kernel
theorem dX9_rank_18 : decode cX9_rank 18 = .ok (.aload_n 0, 1) := by decide +kernel
theorem dX9_rank_19 : decode cX9_rank 19 = .ok (.getfield 22, 3) := by decide +kernel
theorem dX9_rank_22 : decode cX9_rank 22 = .ok (.iload 4, 2) := by decide +kernel
theorem dX9_rank_24 : decode cX9_rank 24 = .ok (.iaload, 1) := by decide +kernel
theorem dX9_rank_25 : decode cX9_rank 25 = .ok (.iload_n 1, 1) := by decide +kernel
theorem dX9_rank_26 : decode cX9_rank 26 = .ok (.if_icmp .ge 10, 3) := by decide +kernel
theorem dX9_rank_29 : decode cX9_rank 29 = .ok (.iload 4, 2) := by decide +kernel
theorem dX9_rank_31 : decode cX9_rank 31 = .ok (.iconst 1, 1) := by decide +kernel
theorem dX9_rank_32 : decode cX9_rank 32 = .ok (.iadd, 1) := by decide +kernel
theorem dX9_rank_33 : decode cX9_rank 33 = .ok (.goto 4, 3) := by decide +kernel
theorem dX9_rank_36 : decode cX9_rank 36 = .ok (.iload_n 2, 1) := by decide +kernel
theorem dX9_rank_37 : decode cX9_rank 37 = .ok (.istore_n 2, 1) := by decide +kernel
theorem dX9_rank_38 : decode cX9_rank 38 = .ok (.aload_n 0, 1) := by decide +kernel
theorem dX9_rank_39 : decode cX9_rank 39 = .ok (.getfield 22, 3) := by decide +kernel
theorem dX9_rank_42 : decode cX9_rank 42 = .ok (.iload 4, 2) := by decide +kernel
theorem dX9_rank_44 : decode cX9_rank 44 = .ok (.iaload, 1) := by decide +kernel
theorem dX9_rank_45 : decode cX9_rank 45 = .ok (.iload_n 1, 1) := by decide +kernel
theorem dX9_rank_46 : decode cX9_rank 46 = .ok (.if_icmp .ge 7, 3) := by decide +kernel
theorem dX9_rank_49 : decode cX9_rank 49 = .ok (.iload_n 3, 1) := by decide +kernel
theorem dX9_rank_50 : decode cX9_rank 50 = .ok (.goto 5, 3) := by decide +kernel
theorem dX9_rank_53 : decode cX9_rank 53 = .ok (.iload 4, 2) := by decide +kernel
theorem dX9_rank_55 : decode cX9_rank 55 = .ok (.istore_n 3, 1) := by decide +kernel
theorem dX9_rank_56 : decode cX9_rank 56 = .ok (.goto (-50), 3) := by decide +kernel
theorem dX9_rank_59 : decode cX9_rank 59 = .ok (.aload_n 0, 1) := by decide +kernel
theorem dX9_rank_60 : decode cX9_rank 60 = .ok (.getfield 22, 3) := by decide +kernel
theorem dX9_rank_63 : decode cX9_rank 63 = .ok (.iload_n 2, 1) := by decide +kernel
theorem dX9_rank_64 : decode cX9_rank 64 = .ok (.iaload, 1) := by decide +kernel
theorem dX9_rank_65 : decode cX9_rank 65 = .ok (.iload_n 1, 1) := by decide +kernel
theorem dX9_rank_66 : decode cX9_rank 66 = .ok (.if_icmp .ne 7, 3) := by decide +kernel
theorem dX9_rank_69 : decode cX9_rank 69 = .ok (.iload_n 2, 1) := by decide +kernel
theorem dX9_rank_70 : decode cX9_rank 70 = .ok (.goto 5, 3) := by decide +kernel
theorem dX9_rank_73 : decode cX9_rank 73 = .ok (.bipush (-4), 2) := by decide +kernel
theorem dX9_rank_75 : decode cX9_rank 75 = .ok (.ireturn, 1) := by decide +kernel
theorem dX9_divisor_0 : decode cX9_divisor 0 = .ok (.iload_n 0, 1) := by decide +kernel
theorem dX9_divisor_1 : decode cX9_divisor 1 = .ok (.istore_n 2, 1) := by decide +kernel
theorem dX9_divisor_2 : decode cX9_divisor 2 = .ok (.iload_n 1, 1) := by decide +kernel
theorem dX9_divisor_3 : decode cX9_divisor 3 = .ok (.istore_n 3, 1) := by decide +kernel
theorem dX9_divisor_4 : decode cX9_divisor 4 = .ok (.iload_n 3, 1) := by decide +kernel
theorem dX9_divisor_5 : decode cX9_divisor 5 = .ok (.ifCond .le 16, 3) := by decide +kernel
theorem dX9_divisor_8 : decode cX9_divisor 8 = .ok (.iload_n 2, 1) := by decide +kernel
theorem dX9_divisor_9 : decode cX9_divisor 9 = .ok (.iload_n 3, 1) := by decide +kernel
theorem dX9_divisor_10 : decode cX9_divisor 10 = .ok (.irem, 1) := by decide +kernel
theorem dX9_divisor_11 : decode cX9_divisor 11 = .ok (.istore 4, 2) := by decide +kernel
theorem dX9_divisor_13 : decode cX9_divisor 13 = .ok (.iload_n 3, 1) := by decide +kernel
theorem dX9_divisor_14 : decode cX9_divisor 14 = .ok (.istore_n 2, 1) := by decide +kernel
theorem dX9_divisor_15 : decode cX9_divisor 15 = .ok (.iload 4, 2) := by decide +kernel
theorem dX9_divisor_17 : decode cX9_divisor 17 = .ok (.istore_n 3, 1) := by decide +kernel
theorem dX9_divisor_18 : decode cX9_divisor 18 = .ok (.goto (-14), 3) := by decide +kernel
theorem dX9_divisor_21 : decode cX9_divisor 21 = .ok (.iload_n 2, 1) := by decide +kernel
theorem dX9_divisor_22 : decode cX9_divisor 22 = .ok (.ireturn, 1) := by decide +kernel
theorem dX9_exponent_0 : decode cX9_exponent 0 = .ok (.iload_n 0, 1) := by decide +kernel
theorem dX9_exponent_1 : decode cX9_exponent 1 = .ok (.istore_n 2, 1) := by decide +kernel
theorem dX9_exponent_2 : decode cX9_exponent 2 = .ok (.iconst 0, 1) := by decide +kernel
theorem dX9_exponent_3 : decode cX9_exponent 3 = .ok (.istore_n 3, 1) := by decide +kernel
theorem dX9_exponent_4 : decode cX9_exponent 4 = .ok (.iload_n 2, 1) := by decide +kernel
theorem dX9_exponent_5 : decode cX9_exponent 5 = .ok (.iload_n 1, 1) := by decide +kernel
theorem dX9_exponent_6 : decode cX9_exponent 6 = .ok (.irem, 1) := by decide +kernel
theorem dX9_exponent_7 : decode cX9_exponent 7 = .ok (.ifCond .ne 13, 3) := by decide +kernel
theorem dX9_exponent_10 : decode cX9_exponent 10 = .ok (.iload_n 2, 1) := by decide +kernel
theorem dX9_exponent_11 : decode cX9_exponent 11 = .ok (.iload_n 1, 1) := by decide +kernel
theorem dX9_exponent_12 : decode cX9_exponent 12 = .ok (.idiv, 1) := by decide +kernel
theorem dX9_exponent_13 : decode cX9_exponent 13 = .ok (.istore_n 2, 1) := by decide +kernel
theorem dX9_exponent_14 : decode cX9_exponent 14 = .ok (.iinc 3 1, 3) := by decide +kernel
theorem dX9_exponent_17 : decode cX9_exponent 17 = .ok (.goto (-13), 3) := by decide +kernel
theorem dX9_exponent_20 : decode cX9_exponent 20 = .ok (.iload_n 3, 1) := by decide +kernel
theorem dX9_exponent_21 : decode cX9_exponent 21 = .ok (.ireturn, 1) := by decide +kernel
theorem dX9_leastFactor_0 : decode cX9_leastFactor 0 = .ok (.iconst 2, 1) := by decide +kernel
theorem dX9_leastFactor_1 : decode cX9_leastFactor 1 = .ok (.istore_n 1, 1) := by decide +kernel
theorem dX9_leastFactor_2 : decode cX9_leastFactor 2 = .ok (.iload_n 0, 1) := by decide +kernel
theorem dX9_leastFactor_3 : decode cX9_leastFactor 3 = .ok (.iload_n 1, 1) := by decide +kernel
theorem dX9_leastFactor_4 : decode cX9_leastFactor 4 = .ok (.irem, 1) := by decide +kernel
theorem dX9_leastFactor_5 : decode cX9_leastFactor 5 = .ok (.ifCond .eq 9, 3) := by decide +kernel
theorem dX9_leastFactor_8 : decode cX9_leastFactor 8 = .ok (.iinc 1 1, 3) := by decide +kernel
theorem dX9_leastFactor_11 : decode cX9_leastFactor 11 = .ok (.goto (-9), 3) := by decide +kernel
theorem dX9_leastFactor_14 : decode cX9_leastFactor 14 = .ok (.iload_n 1, 1) := by decide +kernel
theorem dX9_leastFactor_15 : decode cX9_leastFactor 15 = .ok (.ireturn, 1) := by decide +kernel
set_option maxRecDepth 20000 in
theorem ggX9_factorOf_X9_leastFactor : GoodIn wsX9_factorOf wsX9_leastFactor := goodIn_r _ [4] (by decide +kernel) (by decide +kernel)
set_option maxRecDepth 20000 in
theorem gX9_factorOf_X9_leastFactor : GoodIn wsX9_factorOf (va_wsS RX9 55 yX9_leastFactor wsX9_leastFactor) := goodIn_app (goodIn_of _ (by decide +kernel)) ggX9_factorOf_X9_leastFactor
theorem dX9_factorOf_0 : decode cX9_factorOf 0 = .ok (.iload_n 0, 1) := by decide +kernel
theorem dX9_factorOf_1 : decode cX9_factorOf 1 = .ok (.istore_n 2, 1) := by decide +kernel
theorem dX9_factorOf_2 : decode cX9_factorOf 2 = .ok (.iconst 0, 1) := by decide +kernel
theorem dX9_factorOf_3 : decode cX9_factorOf 3 = .ok (.istore_n 3, 1) := by decide +kernel
theorem dX9_factorOf_4 : decode cX9_factorOf 4 = .ok (.iload_n 2, 1) := by decide +kernel
theorem dX9_factorOf_5 : decode cX9_factorOf 5 = .ok (.iconst 1, 1) := by decide +kernel
theorem dX9_factorOf_6 : decode cX9_factorOf 6 = .ok (.if_icmp .le 28, 3) := by decide +kernel
theorem dX9_factorOf_9 : decode cX9_factorOf 9 = .ok (.iload_n 2, 1) := by decide +kernel
theorem dX9_factorOf_10 : decode cX9_factorOf 10 = .ok (.invokestatic 55, 3) := by decide +kernel
theorem dX9_factorOf_13 : decode cX9_factorOf 13 = .ok (.istore 4, 2) := by decide +kernel
theorem dX9_factorOf_15 : decode cX9_factorOf 15 = .ok (.iload_n 3, 1) := by decide +kernel
theorem dX9_factorOf_16 : decode cX9_factorOf 16 = .ok (.iload_n 1, 1) := by decide +kernel
theorem dX9_factorOf_17 : decode cX9_factorOf 17 = .ok (.if_icmp .ne 6, 3) := by decide +kernel
theorem dX9_factorOf_20 : decode cX9_factorOf 20 = .ok (.iload 4, 2) := by decide +kernel
theorem dX9_factorOf_22 : decode cX9_factorOf 22 = .ok (.ireturn, 1) := by decide +kernel
theorem dX9_factorOf_23 : decode cX9_factorOf 23 = .ok (.iload_n 2, 1) := by decide +kernel
theorem dX9_factorOf_24 : decode cX9_factorOf 24 = .ok (.iload 4, 2) := by decide +kernel
theorem dX9_factorOf_26 : decode cX9_factorOf 26 = .ok (.idiv, 1) := by decide +kernel
theorem dX9_factorOf_27 : decode cX9_factorOf 27 = .ok (.istore_n 2, 1) := by decide +kernel
theorem dX9_factorOf_28 : decode cX9_factorOf 28 = .ok (.iinc 3 1, 3) := by decide +kernel
theorem dX9_factorOf_31 : decode cX9_factorOf 31 = .ok (.goto (-27), 3) := by decide +kernel
theorem dX9_factorOf_34 : decode cX9_factorOf 34 = .ok (.bipush (-4), 2) := by decide +kernel
theorem dX9_factorOf_36 : decode cX9_factorOf 36 = .ok (.ireturn, 1) := by decide +kernel
set_option maxRecDepth 20000 in
theorem ggX9_factors_X9_leastFactor : GoodIn wsX9_factors wsX9_leastFactor := goodIn_r _ [4] (by decide +kernel) (by decide +kernel)
set_option maxRecDepth 20000 in
theorem gX9_factors_X9_leastFactor : GoodIn wsX9_factors (va_wsS RX9 55 yX9_leastFactor wsX9_leastFactor) := goodIn_app (goodIn_of _ (by decide +kernel)) ggX9_factors_X9_leastFactor
theorem dX9_factors_0 : decode cX9_factors 0 = .ok (.iload_n 0, 1) := by decide +kernel
theorem dX9_factors_1 : decode cX9_factors 1 = .ok (.istore_n 2, 1) := by decide +kernel
theorem dX9_factors_2 : decode cX9_factors 2 = .ok (.iconst 0, 1) := by decide +kernel
theorem dX9_factors_3 : decode cX9_factors 3 = .ok (.istore_n 3, 1) := by decide +kernel
theorem dX9_factors_4 : decode cX9_factors 4 = .ok (.iload_n 2, 1) := by decide +kernel
theorem dX9_factors_5 : decode cX9_factors 5 = .ok (.iconst 1, 1) := by decide +kernel
theorem dX9_factors_6 : decode cX9_factors 6 = .ok (.if_icmp .le 39, 3) := by decide +kernel
theorem dX9_factors_9 : decode cX9_factors 9 = .ok (.iload_n 2, 1) := by decide +kernel
theorem dX9_factors_10 : decode cX9_factors 10 = .ok (.invokestatic 55, 3) := by decide +kernel
theorem dX9_factors_13 : decode cX9_factors 13 = .ok (.istore 4, 2) := by decide +kernel
theorem dX9_factors_15 : decode cX9_factors 15 = .ok (.iinc 3 1, 3) := by decide +kernel
theorem dX9_factors_18 : decode cX9_factors 18 = .ok (.iload_n 2, 1) := by decide +kernel
theorem dX9_factors_19 : decode cX9_factors 19 = .ok (.iload 4, 2) := by decide +kernel
theorem dX9_factors_21 : decode cX9_factors 21 = .ok (.idiv, 1) := by decide +kernel
theorem dX9_factors_22 : decode cX9_factors 22 = .ok (.istore_n 2, 1) := by decide +kernel
theorem dX9_factors_23 : decode cX9_factors 23 = .ok (.iload_n 1, 1) := by decide +kernel
theorem dX9_factors_24 : decode cX9_factors 24 = .ok (.ifCond .ne 18, 3) := by decide +kernel
theorem dX9_factors_27 : decode cX9_factors 27 = .ok (.iload_n 2, 1) := by decide +kernel
theorem dX9_factors_28 : decode cX9_factors 28 = .ok (.iload 4, 2) := by decide +kernel
theorem dX9_factors_30 : decode cX9_factors 30 = .ok (.irem, 1) := by decide +kernel
theorem dX9_factors_31 : decode cX9_factors 31 = .ok (.ifCond .ne 11, 3) := by decide +kernel
theorem dX9_factors_34 : decode cX9_factors 34 = .ok (.iload_n 2, 1) := by decide +kernel
theorem dX9_factors_35 : decode cX9_factors 35 = .ok (.iload 4, 2) := by decide +kernel
theorem dX9_factors_37 : decode cX9_factors 37 = .ok (.idiv, 1) := by decide +kernel
theorem dX9_factors_38 : decode cX9_factors 38 = .ok (.istore_n 2, 1) := by decide +kernel
theorem dX9_factors_39 : decode cX9_factors 39 = .ok (.goto (-16), 3) := by decide +kernel
theorem dX9_factors_42 : decode cX9_factors 42 = .ok (.goto (-38), 3) := by decide +kernel
theorem dX9_factors_45 : decode cX9_factors 45 = .ok (.iload_n 3, 1) := by decide +kernel
theorem dX9_factors_46 : decode cX9_factors 46 = .ok (.ireturn, 1) := by decide +kernel
set_option maxRecDepth 20000 in
theorem ggX9_areKin_X9_of : GoodIn wsX9_areKin wsX9_of := goodIn_r _ [6, 1, 10, 11, 12, 13, 14, 15, 16, 17, 18, 19, 20, 21, 22, 23, 24, 25, 26, 27] (by decide +kernel) (by decide +kernel)
set_option maxRecDepth 20000 in
theorem gX9_areKin_X9_of : GoodIn wsX9_areKin (wsV RX9 59 RX9 yX9_of wsX9_of) := goodIn_app (goodIn_of _ (by decide +kernel)) ggX9_areKin_X9_of
set_option maxRecDepth 20000 in
theorem ggX9_areKin_X9_divisor : GoodIn wsX9_areKin wsX9_divisor := goodIn_r _ [9] (by decide +kernel) (by decide +kernel)
set_option maxRecDepth 20000 in
theorem gX9_areKin_X9_divisor : GoodIn wsX9_areKin (va_wsS RX9 62 yX9_divisor wsX9_divisor) := goodIn_app (goodIn_of _ (by decide +kernel)) ggX9_areKin_X9_divisor
theorem dX9_areKin_0 : decode cX9_areKin 0 = .ok (.aload_n 0, 1) := by decide +kernel
theorem dX9_areKin_1 : decode cX9_areKin 1 = .ok (.iload_n 1, 1) := by decide +kernel
theorem dX9_areKin_2 : decode cX9_areKin 2 = .ok (.iload_n 2, 1) := by decide +kernel
theorem dX9_areKin_3 : decode cX9_areKin 3 = .ok (.if_icmp .ge 7, 3) := by decide +kernel
theorem dX9_areKin_6 : decode cX9_areKin 6 = .ok (.iload_n 1, 1) := by decide +kernel
theorem dX9_areKin_7 : decode cX9_areKin 7 = .ok (.goto 4, 3) := by decide +kernel
theorem dX9_areKin_10 : decode cX9_areKin 10 = .ok (.iload_n 2, 1) := by decide +kernel
theorem dX9_areKin_11 : decode cX9_areKin 11 = .ok (.invokevirtual 59, 3) := by decide +kernel
theorem dX9_areKin_14 : decode cX9_areKin 14 = .ok (.istore_n 3, 1) := by decide +kernel
theorem dX9_areKin_15 : decode cX9_areKin 15 = .ok (.aload_n 0, 1) := by decide +kernel
theorem dX9_areKin_16 : decode cX9_areKin 16 = .ok (.iload_n 1, 1) := by decide +kernel
theorem dX9_areKin_17 : decode cX9_areKin 17 = .ok (.iload_n 2, 1) := by decide +kernel
theorem dX9_areKin_18 : decode cX9_areKin 18 = .ok (.if_icmp .ge 7, 3) := by decide +kernel
theorem dX9_areKin_21 : decode cX9_areKin 21 = .ok (.iload_n 2, 1) := by decide +kernel
theorem dX9_areKin_22 : decode cX9_areKin 22 = .ok (.goto 4, 3) := by decide +kernel
theorem dX9_areKin_25 : decode cX9_areKin 25 = .ok (.iload_n 1, 1) := by decide +kernel
theorem dX9_areKin_26 : decode cX9_areKin 26 = .ok (.invokevirtual 59, 3) := by decide +kernel
theorem dX9_areKin_29 : decode cX9_areKin 29 = .ok (.istore 4, 2) := by decide +kernel
theorem dX9_areKin_31 : decode cX9_areKin 31 = .ok (.iload_n 1, 1) := by decide +kernel
theorem dX9_areKin_32 : decode cX9_areKin 32 = .ok (.iload_n 2, 1) := by decide +kernel
theorem dX9_areKin_33 : decode cX9_areKin 33 = .ok (.if_icmp .ne 5, 3) := by decide +kernel
theorem dX9_areKin_36 : decode cX9_areKin 36 = .ok (.iconst 0, 1) := by decide +kernel
theorem dX9_areKin_37 : decode cX9_areKin 37 = .ok (.ireturn, 1) := by decide +kernel
theorem dX9_areKin_38 : decode cX9_areKin 38 = .ok (.aload_n 0, 1) := by decide +kernel
theorem dX9_areKin_39 : decode cX9_areKin 39 = .ok (.getfield 7, 3) := by decide +kernel
theorem dX9_areKin_42 : decode cX9_areKin 42 = .ok (.iconst 0, 1) := by decide +kernel
theorem dX9_areKin_43 : decode cX9_areKin 43 = .ok (.iaload, 1) := by decide +kernel
theorem dX9_areKin_44 : decode cX9_areKin 44 = .ok (.ifCond .ne 21, 3) := by decide +kernel
theorem dX9_areKin_47 : decode cX9_areKin 47 = .ok (.iload_n 3, 1) := by decide +kernel
theorem dX9_areKin_48 : decode cX9_areKin 48 = .ok (.iload 4, 2) := by decide +kernel
theorem dX9_areKin_50 : decode cX9_areKin 50 = .ok (.invokestatic 62, 3) := by decide +kernel
theorem dX9_areKin_53 : decode cX9_areKin 53 = .ok (.iconst 1, 1) := by decide +kernel
theorem dX9_areKin_54 : decode cX9_areKin 54 = .ok (.if_icmp .le 7, 3) := by decide +kernel
theorem dX9_areKin_57 : decode cX9_areKin 57 = .ok (.iconst 1, 1) := by decide +kernel
theorem dX9_areKin_58 : decode cX9_areKin 58 = .ok (.goto 36, 3) := by decide +kernel
theorem dX9_areKin_61 : decode cX9_areKin 61 = .ok (.iconst 0, 1) := by decide +kernel
theorem dX9_areKin_62 : decode cX9_areKin 62 = .ok (.goto 32, 3) := by decide +kernel
theorem dX9_areKin_65 : decode cX9_areKin 65 = .ok (.iload 4, 2) := by decide +kernel
theorem dX9_areKin_67 : decode cX9_areKin 67 = .ok (.iload_n 3, 1) := by decide +kernel
theorem dX9_areKin_68 : decode cX9_areKin 68 = .ok (.irem, 1) := by decide +kernel
theorem dX9_areKin_69 : decode cX9_areKin 69 = .ok (.ifCond .eq 20, 3) := by decide +kernel
theorem dX9_areKin_72 : decode cX9_areKin 72 = .ok (.aload_n 0, 1) := by decide +kernel
theorem dX9_areKin_73 : decode cX9_areKin 73 = .ok (.getfield 7, 3) := by decide +kernel
theorem dX9_areKin_76 : decode cX9_areKin 76 = .ok (.iconst 0, 1) := by decide +kernel
theorem dX9_areKin_77 : decode cX9_areKin 77 = .ok (.iaload, 1) := by decide +kernel
theorem dX9_areKin_78 : decode cX9_areKin 78 = .ok (.iconst 1, 1) := by decide +kernel
theorem dX9_areKin_79 : decode cX9_areKin 79 = .ok (.if_icmp .ne 14, 3) := by decide +kernel
theorem dX9_areKin_82 : decode cX9_areKin 82 = .ok (.iload_n 3, 1) := by decide +kernel
theorem dX9_areKin_83 : decode cX9_areKin 83 = .ok (.iload 4, 2) := by decide +kernel
theorem dX9_areKin_85 : decode cX9_areKin 85 = .ok (.irem, 1) := by decide +kernel
theorem dX9_areKin_86 : decode cX9_areKin 86 = .ok (.ifCond .ne 7, 3) := by decide +kernel
theorem dX9_areKin_89 : decode cX9_areKin 89 = .ok (.iconst 1, 1) := by decide +kernel
theorem dX9_areKin_90 : decode cX9_areKin 90 = .ok (.goto 4, 3) := by decide +kernel
theorem dX9_areKin_93 : decode cX9_areKin 93 = .ok (.iconst 0, 1) := by decide +kernel
theorem dX9_areKin_94 : decode cX9_areKin 94 = .ok (.ireturn, 1) := by decide +kernel
set_option maxRecDepth 20000 in
theorem ggX9_kinOf_X9_areKin : GoodIn wsX9_kinOf wsX9_areKin := goodIn_r _ [6, 1, 7, 8, 9, 5, 10, 11, 12, 13, 14, 15, 16, 17, 18, 19, 20, 21, 22, 23, 24, 25, 26, 27, 28, 29, 30, 31] (by decide +kernel) (by decide +kernel)
set_option maxRecDepth 20000 in
theorem gX9_kinOf_X9_areKin : GoodIn wsX9_kinOf (wsV RX9 66 RX9 yX9_areKin wsX9_areKin) := goodIn_app (goodIn_of _ (by decide +kernel)) ggX9_kinOf_X9_areKin
theorem dX9_kinOf_0 : decode cX9_kinOf 0 = .ok (.iconst 0, 1) := by decide +kernel
theorem dX9_kinOf_1 : decode cX9_kinOf 1 = .ok (.istore_n 2, 1) := by decide +kernel
theorem dX9_kinOf_2 : decode cX9_kinOf 2 = .ok (.iconst 0, 1) := by decide +kernel
theorem dX9_kinOf_3 : decode cX9_kinOf 3 = .ok (.istore_n 3, 1) := by decide +kernel
theorem dX9_kinOf_4 : decode cX9_kinOf 4 = .ok (.iload_n 3, 1) := by decide +kernel
theorem dX9_kinOf_5 : decode cX9_kinOf 5 = .ok (.aload_n 0, 1) := by decide +kernel
theorem dX9_kinOf_6 : decode cX9_kinOf 6 = .ok (.getfield 7, 3) := by decide +kernel
theorem dX9_kinOf_9 : decode cX9_kinOf 9 = .ok (.iconst 2, 1) := by decide +kernel
theorem dX9_kinOf_10 : decode cX9_kinOf 10 = .ok (.iaload, 1) := by decide +kernel
theorem dX9_kinOf_11 : decode cX9_kinOf 11 = .ok (.if_icmp .ge 26, 3) := by decide +kernel
theorem dX9_kinOf_14 : decode cX9_kinOf 14 = .ok (.iload_n 2, 1) := by decide +kernel
theorem dX9_kinOf_15 : decode cX9_kinOf 15 = .ok (.aload_n 0, 1) := by decide +kernel
theorem dX9_kinOf_16 : decode cX9_kinOf 16 = .ok (.iload_n 1, 1) := by decide +kernel
theorem dX9_kinOf_17 : decode cX9_kinOf 17 = .ok (.iload_n 3, 1) := by decide +kernel
theorem dX9_kinOf_18 : decode cX9_kinOf 18 = .ok (.invokevirtual 66, 3) := by decide +kernel
theorem dX9_kinOf_21 : decode cX9_kinOf 21 = .ok (.ifCond .eq 7, 3) := by decide +kernel
theorem dX9_kinOf_24 : decode cX9_kinOf 24 = .ok (.iconst 1, 1) := by decide +kernel
theorem dX9_kinOf_25 : decode cX9_kinOf 25 = .ok (.goto 4, 3) := by decide +kernel
theorem dX9_kinOf_28 : decode cX9_kinOf 28 = .ok (.iconst 0, 1) := by decide +kernel
theorem dX9_kinOf_29 : decode cX9_kinOf 29 = .ok (.iadd, 1) := by decide +kernel
theorem dX9_kinOf_30 : decode cX9_kinOf 30 = .ok (.istore_n 2, 1) := by decide +kernel
theorem dX9_kinOf_31 : decode cX9_kinOf 31 = .ok (.iinc 3 1, 3) := by decide +kernel
theorem dX9_kinOf_34 : decode cX9_kinOf 34 = .ok (.goto (-30), 3) := by decide +kernel
theorem dX9_kinOf_37 : decode cX9_kinOf 37 = .ok (.iload_n 2, 1) := by decide +kernel
theorem dX9_kinOf_38 : decode cX9_kinOf 38 = .ok (.ireturn, 1) := by decide +kernel
set_option maxRecDepth 20000 in
theorem ggX9_pairs_X9_kinOf : GoodIn wsX9_pairs wsX9_kinOf := goodIn_r _ [6, 1, 7, 8, 9, 5, 10, 11, 12, 13, 14, 15, 16, 17, 18, 19, 20, 21, 22, 23, 24, 25, 26, 27, 28, 29, 30, 31, 32, 33, 34, 35] (by decide +kernel) (by decide +kernel)
set_option maxRecDepth 20000 in
theorem gX9_pairs_X9_kinOf : GoodIn wsX9_pairs (wsV RX9 70 RX9 yX9_kinOf wsX9_kinOf) := goodIn_app (goodIn_of _ (by decide +kernel)) ggX9_pairs_X9_kinOf
theorem dX9_pairs_0 : decode cX9_pairs 0 = .ok (.iconst 0, 1) := by decide +kernel
theorem dX9_pairs_1 : decode cX9_pairs 1 = .ok (.istore_n 1, 1) := by decide +kernel
theorem dX9_pairs_2 : decode cX9_pairs 2 = .ok (.iconst 0, 1) := by decide +kernel
theorem dX9_pairs_3 : decode cX9_pairs 3 = .ok (.istore_n 2, 1) := by decide +kernel
theorem dX9_pairs_4 : decode cX9_pairs 4 = .ok (.iload_n 2, 1) := by decide +kernel
theorem dX9_pairs_5 : decode cX9_pairs 5 = .ok (.aload_n 0, 1) := by decide +kernel
theorem dX9_pairs_6 : decode cX9_pairs 6 = .ok (.getfield 7, 3) := by decide +kernel
theorem dX9_pairs_9 : decode cX9_pairs 9 = .ok (.iconst 2, 1) := by decide +kernel
theorem dX9_pairs_10 : decode cX9_pairs 10 = .ok (.iaload, 1) := by decide +kernel
theorem dX9_pairs_11 : decode cX9_pairs 11 = .ok (.if_icmp .ge 17, 3) := by decide +kernel
theorem dX9_pairs_14 : decode cX9_pairs 14 = .ok (.iload_n 1, 1) := by decide +kernel
theorem dX9_pairs_15 : decode cX9_pairs 15 = .ok (.aload_n 0, 1) := by decide +kernel
theorem dX9_pairs_16 : decode cX9_pairs 16 = .ok (.iload_n 2, 1) := by decide +kernel
theorem dX9_pairs_17 : decode cX9_pairs 17 = .ok (.invokevirtual 70, 3) := by decide +kernel
theorem dX9_pairs_20 : decode cX9_pairs 20 = .ok (.iadd, 1) := by decide +kernel
theorem dX9_pairs_21 : decode cX9_pairs 21 = .ok (.istore_n 1, 1) := by decide +kernel
theorem dX9_pairs_22 : decode cX9_pairs 22 = .ok (.iinc 2 1, 3) := by decide +kernel
theorem dX9_pairs_25 : decode cX9_pairs 25 = .ok (.goto (-21), 3) := by decide +kernel
theorem dX9_pairs_28 : decode cX9_pairs 28 = .ok (.iload_n 1, 1) := by decide +kernel
theorem dX9_pairs_29 : decode cX9_pairs 29 = .ok (.iconst 2, 1) := by decide +kernel
theorem dX9_pairs_30 : decode cX9_pairs 30 = .ok (.idiv, 1) := by decide +kernel
theorem dX9_pairs_31 : decode cX9_pairs 31 = .ok (.ireturn, 1) := by decide +kernel
set_option maxRecDepth 20000 in
theorem ggX9_joins_X9_areKin : GoodIn wsX9_joins wsX9_areKin := goodIn_r _ [7, 2, 8, 9, 10, 6, 11, 12, 13, 14, 15, 16, 17, 18, 19, 20, 21, 22, 23, 24, 25, 26, 27, 28, 29, 30, 31, 32] (by decide +kernel) (by decide +kernel)
set_option maxRecDepth 20000 in
theorem gX9_joins_X9_areKin : GoodIn wsX9_joins (wsV RX9 66 RX9 yX9_areKin wsX9_areKin) := goodIn_app (goodIn_of _ (by decide +kernel)) ggX9_joins_X9_areKin
theorem dX9_joins_0 : decode cX9_joins 0 = .ok (.iconst 0, 1) := by decide +kernel
theorem dX9_joins_1 : decode cX9_joins 1 = .ok (.istore_n 1, 1) := by decide +kernel
theorem dX9_joins_2 : decode cX9_joins 2 = .ok (.iload_n 1, 1) := by decide +kernel
theorem dX9_joins_3 : decode cX9_joins 3 = .ok (.bipush 12, 2) := by decide +kernel
theorem dX9_joins_5 : decode cX9_joins 5 = .ok (.if_icmp .ge 16, 3) := by decide +kernel
theorem dX9_joins_8 : decode cX9_joins 8 = .ok (.aload_n 0, 1) := by decide +kernel
theorem dX9_joins_9 : decode cX9_joins 9 = .ok (.getfield 31, 3) := by decide +kernel
theorem dX9_joins_12 : decode cX9_joins 12 = .ok (.iload_n 1, 1) := by decide +kernel
theorem dX9_joins_13 : decode cX9_joins 13 = .ok (.iload_n 1, 1) := by decide +kernel
theorem dX9_joins_14 : decode cX9_joins 14 = .ok (.iastore, 1) := by decide +kernel
theorem dX9_joins_15 : decode cX9_joins 15 = .ok (.iinc 1 1, 3) := by decide +kernel
theorem dX9_joins_18 : decode cX9_joins 18 = .ok (.goto (-16), 3) := by decide +kernel
theorem dX9_joins_21 : decode cX9_joins 21 = .ok (.iconst 1, 1) := by decide +kernel
theorem dX9_joins_22 : decode cX9_joins 22 = .ok (.istore_n 1, 1) := by decide +kernel
theorem dX9_joins_23 : decode cX9_joins 23 = .ok (.iload_n 1, 1) := by decide +kernel
theorem dX9_joins_24 : decode cX9_joins 24 = .ok (.ifCond .eq 82, 3) := by decide +kernel
theorem dX9_joins_27 : decode cX9_joins 27 = .ok (.iconst 0, 1) := by decide +kernel
theorem dX9_joins_28 : decode cX9_joins 28 = .ok (.istore_n 1, 1) := by decide +kernel
theorem dX9_joins_29 : decode cX9_joins 29 = .ok (.iconst 0, 1) := by decide +kernel
theorem dX9_joins_30 : decode cX9_joins 30 = .ok (.istore_n 2, 1) := by decide +kernel
theorem dX9_joins_31 : decode cX9_joins 31 = .ok (.iload_n 2, 1) := by decide +kernel
theorem dX9_joins_32 : decode cX9_joins 32 = .ok (.aload_n 0, 1) := by decide +kernel
theorem dX9_joins_33 : decode cX9_joins 33 = .ok (.getfield 7, 3) := by decide +kernel
theorem dX9_joins_36 : decode cX9_joins 36 = .ok (.iconst 2, 1) := by decide +kernel
theorem dX9_joins_37 : decode cX9_joins 37 = .ok (.iaload, 1) := by decide +kernel
theorem dX9_joins_38 : decode cX9_joins 38 = .ok (.if_icmp .ge 65, 3) := by decide +kernel
theorem dX9_joins_41 : decode cX9_joins 41 = .ok (.iconst 0, 1) := by decide +kernel
theorem dX9_joins_42 : decode cX9_joins 42 = .ok (.istore_n 3, 1) := by decide +kernel
theorem dX9_joins_43 : decode cX9_joins 43 = .ok (.iload_n 3, 1) := by decide +kernel
theorem dX9_joins_44 : decode cX9_joins 44 = .ok (.aload_n 0, 1) := by decide +kernel
theorem dX9_joins_45 : decode cX9_joins 45 = .ok (.getfield 7, 3) := by decide +kernel
theorem dX9_joins_48 : decode cX9_joins 48 = .ok (.iconst 2, 1) := by decide +kernel
theorem dX9_joins_49 : decode cX9_joins 49 = .ok (.iaload, 1) := by decide +kernel
theorem dX9_joins_50 : decode cX9_joins 50 = .ok (.if_icmp .ge 47, 3) := by decide +kernel
theorem dX9_joins_53 : decode cX9_joins 53 = .ok (.aload_n 0, 1) := by decide +kernel
theorem dX9_joins_54 : decode cX9_joins 54 = .ok (.getfield 31, 3) := by decide +kernel
theorem dX9_joins_57 : decode cX9_joins 57 = .ok (.iload_n 3, 1) := by decide +kernel
theorem dX9_joins_58 : decode cX9_joins 58 = .ok (.iaload, 1) := by decide +kernel
theorem dX9_joins_59 : decode cX9_joins 59 = .ok (.aload_n 0, 1) := by decide +kernel
theorem dX9_joins_60 : decode cX9_joins 60 = .ok (.getfield 31, 3) := by decide +kernel
theorem dX9_joins_63 : decode cX9_joins 63 = .ok (.iload_n 2, 1) := by decide +kernel
theorem dX9_joins_64 : decode cX9_joins 64 = .ok (.iaload, 1) := by decide +kernel
theorem dX9_joins_65 : decode cX9_joins 65 = .ok (.if_icmp .ge 26, 3) := by decide +kernel
theorem dX9_joins_68 : decode cX9_joins 68 = .ok (.aload_n 0, 1) := by decide +kernel
theorem dX9_joins_69 : decode cX9_joins 69 = .ok (.iload_n 2, 1) := by decide +kernel
theorem dX9_joins_70 : decode cX9_joins 70 = .ok (.iload_n 3, 1) := by decide +kernel
theorem dX9_joins_71 : decode cX9_joins 71 = .ok (.invokevirtual 66, 3) := by decide +kernel
theorem dX9_joins_74 : decode cX9_joins 74 = .ok (.ifCond .eq 17, 3) := by decide +kernel
theorem dX9_joins_77 : decode cX9_joins 77 = .ok (.aload_n 0, 1) := by decide +kernel
theorem dX9_joins_78 : decode cX9_joins 78 = .ok (.getfield 31, 3) := by decide +kernel
theorem dX9_joins_81 : decode cX9_joins 81 = .ok (.iload_n 2, 1) := by decide +kernel
theorem dX9_joins_82 : decode cX9_joins 82 = .ok (.aload_n 0, 1) := by decide +kernel
theorem dX9_joins_83 : decode cX9_joins 83 = .ok (.getfield 31, 3) := by decide +kernel
theorem dX9_joins_86 : decode cX9_joins 86 = .ok (.iload_n 3, 1) := by decide +kernel
theorem dX9_joins_87 : decode cX9_joins 87 = .ok (.iaload, 1) := by decide +kernel
theorem dX9_joins_88 : decode cX9_joins 88 = .ok (.iastore, 1) := by decide +kernel
theorem dX9_joins_89 : decode cX9_joins 89 = .ok (.iconst 1, 1) := by decide +kernel
theorem dX9_joins_90 : decode cX9_joins 90 = .ok (.istore_n 1, 1) := by decide +kernel
theorem dX9_joins_91 : decode cX9_joins 91 = .ok (.iinc 3 1, 3) := by decide +kernel
theorem dX9_joins_94 : decode cX9_joins 94 = .ok (.goto (-51), 3) := by decide +kernel
theorem dX9_joins_97 : decode cX9_joins 97 = .ok (.iinc 2 1, 3) := by decide +kernel
theorem dX9_joins_100 : decode cX9_joins 100 = .ok (.goto (-69), 3) := by decide +kernel
theorem dX9_joins_103 : decode cX9_joins 103 = .ok (.goto (-80), 3) := by decide +kernel
theorem dX9_joins_106 : decode cX9_joins 106 = .ok (.return_, 1) := by decide +kernel
theorem dX9_sizeOf_0 : decode cX9_sizeOf 0 = .ok (.iconst 0, 1) := by decide +kernel
theorem dX9_sizeOf_1 : decode cX9_sizeOf 1 = .ok (.istore_n 2, 1) := by decide +kernel
theorem dX9_sizeOf_2 : decode cX9_sizeOf 2 = .ok (.iconst 0, 1) := by decide +kernel
theorem dX9_sizeOf_3 : decode cX9_sizeOf 3 = .ok (.istore_n 3, 1) := by decide +kernel
theorem dX9_sizeOf_4 : decode cX9_sizeOf 4 = .ok (.iload_n 3, 1) := by decide +kernel
theorem dX9_sizeOf_5 : decode cX9_sizeOf 5 = .ok (.aload_n 0, 1) := by decide +kernel
theorem dX9_sizeOf_6 : decode cX9_sizeOf 6 = .ok (.getfield 7, 3) := by decide +kernel
theorem dX9_sizeOf_9 : decode cX9_sizeOf 9 = .ok (.iconst 2, 1) := by decide +kernel
theorem dX9_sizeOf_10 : decode cX9_sizeOf 10 = .ok (.iaload, 1) := by decide +kernel
theorem dX9_sizeOf_11 : decode cX9_sizeOf 11 = .ok (.if_icmp .ge 27, 3) := by decide +kernel
theorem dX9_sizeOf_14 : decode cX9_sizeOf 14 = .ok (.iload_n 2, 1) := by decide +kernel
theorem dX9_sizeOf_15 : decode cX9_sizeOf 15 = .ok (.aload_n 0, 1) := by decide +kernel
theorem dX9_sizeOf_16 : decode cX9_sizeOf 16 = .ok (.getfield 31, 3) := by decide +kernel
theorem dX9_sizeOf_19 : decode cX9_sizeOf 19 = .ok (.iload_n 3, 1) := by decide +kernel
theorem dX9_sizeOf_20 : decode cX9_sizeOf 20 = .ok (.iaload, 1) := by decide +kernel
theorem dX9_sizeOf_21 : decode cX9_sizeOf 21 = .ok (.iload_n 1, 1) := by decide +kernel
theorem dX9_sizeOf_22 : decode cX9_sizeOf 22 = .ok (.if_icmp .ne 7, 3) := by decide +kernel
theorem dX9_sizeOf_25 : decode cX9_sizeOf 25 = .ok (.iconst 1, 1) := by decide +kernel
theorem dX9_sizeOf_26 : decode cX9_sizeOf 26 = .ok (.goto 4, 3) := by decide +kernel
theorem dX9_sizeOf_29 : decode cX9_sizeOf 29 = .ok (.iconst 0, 1) := by decide +kernel
theorem dX9_sizeOf_30 : decode cX9_sizeOf 30 = .ok (.iadd, 1) := by decide +kernel
theorem dX9_sizeOf_31 : decode cX9_sizeOf 31 = .ok (.istore_n 2, 1) := by decide +kernel
theorem dX9_sizeOf_32 : decode cX9_sizeOf 32 = .ok (.iinc 3 1, 3) := by decide +kernel
theorem dX9_sizeOf_35 : decode cX9_sizeOf 35 = .ok (.goto (-31), 3) := by decide +kernel
theorem dX9_sizeOf_38 : decode cX9_sizeOf 38 = .ok (.iload_n 2, 1) := by decide +kernel
theorem dX9_sizeOf_39 : decode cX9_sizeOf 39 = .ok (.ireturn, 1) := by decide +kernel
set_option maxRecDepth 20000 in
theorem ggX9_families_X9_joins : GoodIn wsX9_families wsX9_joins := goodIn_r _ [7, 2, 1, 8, 9, 10, 6, 11, 12, 13, 14, 15, 16, 17, 18, 23, 24, 25, 26, 27, 28, 29, 30, 31, 32, 33, 34, 35, 36, 37, 38, 39, 40] (by decide +kernel) (by decide +kernel)
set_option maxRecDepth 20000 in
theorem gX9_families_X9_joins : GoodIn wsX9_families (wsV RX9 73 RX9 yX9_joins wsX9_joins) := goodIn_app (goodIn_of _ (by decide +kernel)) ggX9_families_X9_joins
set_option maxRecDepth 20000 in
theorem ggX9_families_X9_sizeOf : GoodIn wsX9_families wsX9_sizeOf := goodIn_r _ [22, 1, 2, 23, 24, 25, 26, 27, 28, 29, 30, 31, 32, 33, 34, 35, 36, 37, 38, 39, 40] (by decide +kernel) (by decide +kernel)
set_option maxRecDepth 20000 in
theorem gX9_families_X9_sizeOf : GoodIn wsX9_families (wsV RX9 76 RX9 yX9_sizeOf wsX9_sizeOf) := goodIn_app (goodIn_of _ (by decide +kernel)) ggX9_families_X9_sizeOf
theorem dX9_families_0 : decode cX9_families 0 = .ok (.aload_n 0, 1) := by decide +kernel
theorem dX9_families_1 : decode cX9_families 1 = .ok (.invokevirtual 73, 3) := by decide +kernel
theorem dX9_families_4 : decode cX9_families 4 = .ok (.iconst 0, 1) := by decide +kernel
theorem dX9_families_5 : decode cX9_families 5 = .ok (.istore_n 2, 1) := by decide +kernel
theorem dX9_families_6 : decode cX9_families 6 = .ok (.iconst 0, 1) := by decide +kernel
theorem dX9_families_7 : decode cX9_families 7 = .ok (.istore_n 3, 1) := by decide +kernel
theorem dX9_families_8 : decode cX9_families 8 = .ok (.iconst 0, 1) := by decide +kernel
theorem dX9_families_9 : decode cX9_families 9 = .ok (.istore 4, 2) := by decide +kernel
theorem dX9_families_11 : decode cX9_families 11 = .ok (.iload 4, 2) := by decide +kernel
theorem dX9_families_13 : decode cX9_families 13 = .ok (.aload_n 0, 1) := by decide +kernel
theorem dX9_families_14 : decode cX9_families 14 = .ok (.getfield 7, 3) := by decide +kernel
theorem dX9_families_17 : decode cX9_families 17 = .ok (.iconst 2, 1) := by decide +kernel
theorem dX9_families_18 : decode cX9_families 18 = .ok (.iaload, 1) := by decide +kernel
theorem dX9_families_19 : decode cX9_families 19 = .ok (.if_icmp .ge 50, 3) := by decide +kernel
theorem dX9_families_22 : decode cX9_families 22 = .ok (.iload_n 2, 1) := by decide +kernel
theorem dX9_families_23 : decode cX9_families 23 = .ok (.aload_n 0, 1) := by decide +kernel
theorem dX9_families_24 : decode cX9_families 24 = .ok (.getfield 31, 3) := by decide +kernel
theorem dX9_families_27 : decode cX9_families 27 = .ok (.iload 4, 2) := by decide +kernel
theorem dX9_families_29 : decode cX9_families 29 = .ok (.iaload, 1) := by decide +kernel
theorem dX9_families_30 : decode cX9_families 30 = .ok (.iload 4, 2) := by decide +kernel
theorem dX9_families_32 : decode cX9_families 32 = .ok (.if_icmp .ne 7, 3) := by decide +kernel
theorem dX9_families_35 : decode cX9_families 35 = .ok (.iconst 1, 1) := by decide +kernel
theorem dX9_families_36 : decode cX9_families 36 = .ok (.goto 4, 3) := by decide +kernel
theorem dX9_families_39 : decode cX9_families 39 = .ok (.iconst 0, 1) := by decide +kernel
theorem dX9_families_40 : decode cX9_families 40 = .ok (.iadd, 1) := by decide +kernel
theorem dX9_families_41 : decode cX9_families 41 = .ok (.istore_n 2, 1) := by decide +kernel
theorem dX9_families_42 : decode cX9_families 42 = .ok (.aload_n 0, 1) := by decide +kernel
theorem dX9_families_43 : decode cX9_families 43 = .ok (.iload 4, 2) := by decide +kernel
theorem dX9_families_45 : decode cX9_families 45 = .ok (.invokevirtual 76, 3) := by decide +kernel
theorem dX9_families_48 : decode cX9_families 48 = .ok (.iload_n 3, 1) := by decide +kernel
theorem dX9_families_49 : decode cX9_families 49 = .ok (.if_icmp .le 12, 3) := by decide +kernel
theorem dX9_families_52 : decode cX9_families 52 = .ok (.aload_n 0, 1) := by decide +kernel
theorem dX9_families_53 : decode cX9_families 53 = .ok (.iload 4, 2) := by decide +kernel
theorem dX9_families_55 : decode cX9_families 55 = .ok (.invokevirtual 76, 3) := by decide +kernel
theorem dX9_families_58 : decode cX9_families 58 = .ok (.goto 4, 3) := by decide +kernel
theorem dX9_families_61 : decode cX9_families 61 = .ok (.iload_n 3, 1) := by decide +kernel
theorem dX9_families_62 : decode cX9_families 62 = .ok (.istore_n 3, 1) := by decide +kernel
theorem dX9_families_63 : decode cX9_families 63 = .ok (.iinc 4 1, 3) := by decide +kernel
theorem dX9_families_66 : decode cX9_families 66 = .ok (.goto (-55), 3) := by decide +kernel
theorem dX9_families_69 : decode cX9_families 69 = .ok (.iload_n 1, 1) := by decide +kernel
theorem dX9_families_70 : decode cX9_families 70 = .ok (.ifCond .eq 7, 3) := by decide +kernel
theorem dX9_families_73 : decode cX9_families 73 = .ok (.iload_n 3, 1) := by decide +kernel
theorem dX9_families_74 : decode cX9_families 74 = .ok (.goto 4, 3) := by decide +kernel
theorem dX9_families_77 : decode cX9_families 77 = .ok (.iload_n 2, 1) := by decide +kernel
theorem dX9_families_78 : decode cX9_families 78 = .ok (.ireturn, 1) := by decide +kernel
theorem dX9_puts_0 : decode cX9_puts 0 = .ok (.aload_n 0, 1) := by decide +kernel
theorem dX9_puts_1 : decode cX9_puts 1 = .ok (.getfield 7, 3) := by decide +kernel
theorem dX9_puts_4 : decode cX9_puts 4 = .ok (.iconst 2, 1) := by decide +kernel
theorem dX9_puts_5 : decode cX9_puts 5 = .ok (.iaload, 1) := by decide +kernel
theorem dX9_puts_6 : decode cX9_puts 6 = .ok (.istore_n 3, 1) := by decide +kernel
theorem dX9_puts_7 : decode cX9_puts 7 = .ok (.iload_n 3, 1) := by decide +kernel
theorem dX9_puts_8 : decode cX9_puts 8 = .ok (.iload_n 1, 1) := by decide +kernel
theorem dX9_puts_9 : decode cX9_puts 9 = .ok (.if_icmp .le 27, 3) := by decide +kernel
theorem dX9_puts_12 : decode cX9_puts 12 = .ok (.aload_n 0, 1) := by decide +kernel
theorem dX9_puts_13 : decode cX9_puts 13 = .ok (.getfield 7, 3) := by decide +kernel
theorem dX9_puts_16 : decode cX9_puts 16 = .ok (.iconst 4, 1) := by decide +kernel
theorem dX9_puts_17 : decode cX9_puts 17 = .ok (.iload_n 3, 1) := by decide +kernel
theorem dX9_puts_18 : decode cX9_puts 18 = .ok (.iadd, 1) := by decide +kernel
theorem dX9_puts_19 : decode cX9_puts 19 = .ok (.aload_n 0, 1) := by decide +kernel
theorem dX9_puts_20 : decode cX9_puts 20 = .ok (.getfield 7, 3) := by decide +kernel
theorem dX9_puts_23 : decode cX9_puts 23 = .ok (.iconst 4, 1) := by decide +kernel
theorem dX9_puts_24 : decode cX9_puts 24 = .ok (.iload_n 3, 1) := by decide +kernel
theorem dX9_puts_25 : decode cX9_puts 25 = .ok (.iadd, 1) := by decide +kernel
theorem dX9_puts_26 : decode cX9_puts 26 = .ok (.iconst 1, 1) := by decide +kernel
theorem dX9_puts_27 : decode cX9_puts 27 = .ok (.isub, 1) := by decide +kernel
theorem dX9_puts_28 : decode cX9_puts 28 = .ok (.iaload, 1) := by decide +kernel
theorem dX9_puts_29 : decode cX9_puts 29 = .ok (.iastore, 1) := by decide +kernel
theorem dX9_puts_30 : decode cX9_puts 30 = .ok (.iinc 3 (-1), 3) := by decide +kernel
theorem dX9_puts_33 : decode cX9_puts 33 = .ok (.goto (-26), 3) := by decide +kernel
theorem dX9_puts_36 : decode cX9_puts 36 = .ok (.aload_n 0, 1) := by decide +kernel
theorem dX9_puts_37 : decode cX9_puts 37 = .ok (.getfield 7, 3) := by decide +kernel
theorem dX9_puts_40 : decode cX9_puts 40 = .ok (.iconst 4, 1) := by decide +kernel
theorem dX9_puts_41 : decode cX9_puts 41 = .ok (.iload_n 1, 1) := by decide +kernel
theorem dX9_puts_42 : decode cX9_puts 42 = .ok (.iadd, 1) := by decide +kernel
theorem dX9_puts_43 : decode cX9_puts 43 = .ok (.iload_n 2, 1) := by decide +kernel
theorem dX9_puts_44 : decode cX9_puts 44 = .ok (.iastore, 1) := by decide +kernel
theorem dX9_puts_45 : decode cX9_puts 45 = .ok (.aload_n 0, 1) := by decide +kernel
theorem dX9_puts_46 : decode cX9_puts 46 = .ok (.getfield 7, 3) := by decide +kernel
theorem dX9_puts_49 : decode cX9_puts 49 = .ok (.iconst 2, 1) := by decide +kernel
theorem dX9_puts_50 : decode cX9_puts 50 = .ok (.dup2, 1) := by decide +kernel
theorem dX9_puts_51 : decode cX9_puts 51 = .ok (.iaload, 1) := by decide +kernel
theorem dX9_puts_52 : decode cX9_puts 52 = .ok (.iconst 1, 1) := by decide +kernel
theorem dX9_puts_53 : decode cX9_puts 53 = .ok (.iadd, 1) := by decide +kernel
theorem dX9_puts_54 : decode cX9_puts 54 = .ok (.iastore, 1) := by decide +kernel
theorem dX9_puts_55 : decode cX9_puts 55 = .ok (.return_, 1) := by decide +kernel
theorem dX9_takes_0 : decode cX9_takes 0 = .ok (.aload_n 0, 1) := by decide +kernel
theorem dX9_takes_1 : decode cX9_takes 1 = .ok (.getfield 7, 3) := by decide +kernel
theorem dX9_takes_4 : decode cX9_takes 4 = .ok (.iconst 2, 1) := by decide +kernel
theorem dX9_takes_5 : decode cX9_takes 5 = .ok (.dup2, 1) := by decide +kernel
theorem dX9_takes_6 : decode cX9_takes 6 = .ok (.iaload, 1) := by decide +kernel
theorem dX9_takes_7 : decode cX9_takes 7 = .ok (.iconst 1, 1) := by decide +kernel
theorem dX9_takes_8 : decode cX9_takes 8 = .ok (.isub, 1) := by decide +kernel
theorem dX9_takes_9 : decode cX9_takes 9 = .ok (.iastore, 1) := by decide +kernel
theorem dX9_takes_10 : decode cX9_takes 10 = .ok (.iload_n 1, 1) := by decide +kernel
theorem dX9_takes_11 : decode cX9_takes 11 = .ok (.istore_n 2, 1) := by decide +kernel
theorem dX9_takes_12 : decode cX9_takes 12 = .ok (.iload_n 2, 1) := by decide +kernel
theorem dX9_takes_13 : decode cX9_takes 13 = .ok (.aload_n 0, 1) := by decide +kernel
theorem dX9_takes_14 : decode cX9_takes 14 = .ok (.getfield 7, 3) := by decide +kernel
theorem dX9_takes_17 : decode cX9_takes 17 = .ok (.iconst 2, 1) := by decide +kernel
theorem dX9_takes_18 : decode cX9_takes 18 = .ok (.iaload, 1) := by decide +kernel
theorem dX9_takes_19 : decode cX9_takes 19 = .ok (.if_icmp .ge 27, 3) := by decide +kernel
theorem dX9_takes_22 : decode cX9_takes 22 = .ok (.aload_n 0, 1) := by decide +kernel
theorem dX9_takes_23 : decode cX9_takes 23 = .ok (.getfield 7, 3) := by decide +kernel
theorem dX9_takes_26 : decode cX9_takes 26 = .ok (.iconst 4, 1) := by decide +kernel
theorem dX9_takes_27 : decode cX9_takes 27 = .ok (.iload_n 2, 1) := by decide +kernel
theorem dX9_takes_28 : decode cX9_takes 28 = .ok (.iadd, 1) := by decide +kernel
theorem dX9_takes_29 : decode cX9_takes 29 = .ok (.aload_n 0, 1) := by decide +kernel
theorem dX9_takes_30 : decode cX9_takes 30 = .ok (.getfield 7, 3) := by decide +kernel
theorem dX9_takes_33 : decode cX9_takes 33 = .ok (.iconst 4, 1) := by decide +kernel
theorem dX9_takes_34 : decode cX9_takes 34 = .ok (.iload_n 2, 1) := by decide +kernel
theorem dX9_takes_35 : decode cX9_takes 35 = .ok (.iadd, 1) := by decide +kernel
theorem dX9_takes_36 : decode cX9_takes 36 = .ok (.iconst 1, 1) := by decide +kernel
theorem dX9_takes_37 : decode cX9_takes 37 = .ok (.iadd, 1) := by decide +kernel
theorem dX9_takes_38 : decode cX9_takes 38 = .ok (.iaload, 1) := by decide +kernel
theorem dX9_takes_39 : decode cX9_takes 39 = .ok (.iastore, 1) := by decide +kernel
theorem dX9_takes_40 : decode cX9_takes 40 = .ok (.iinc 2 1, 3) := by decide +kernel
theorem dX9_takes_43 : decode cX9_takes 43 = .ok (.goto (-31), 3) := by decide +kernel
theorem dX9_takes_46 : decode cX9_takes 46 = .ok (.aload_n 0, 1) := by decide +kernel
theorem dX9_takes_47 : decode cX9_takes 47 = .ok (.getfield 7, 3) := by decide +kernel
theorem dX9_takes_50 : decode cX9_takes 50 = .ok (.iconst 4, 1) := by decide +kernel
theorem dX9_takes_51 : decode cX9_takes 51 = .ok (.aload_n 0, 1) := by decide +kernel
theorem dX9_takes_52 : decode cX9_takes 52 = .ok (.getfield 7, 3) := by decide +kernel
theorem dX9_takes_55 : decode cX9_takes 55 = .ok (.iconst 2, 1) := by decide +kernel
theorem dX9_takes_56 : decode cX9_takes 56 = .ok (.iaload, 1) := by decide +kernel
theorem dX9_takes_57 : decode cX9_takes 57 = .ok (.iadd, 1) := by decide +kernel
theorem dX9_takes_58 : decode cX9_takes 58 = .ok (.iconst 0, 1) := by decide +kernel
theorem dX9_takes_59 : decode cX9_takes 59 = .ok (.iastore, 1) := by decide +kernel
theorem dX9_takes_60 : decode cX9_takes 60 = .ok (.return_, 1) := by decide +kernel
set_option maxRecDepth 20000 in
theorem ggX9_add_X9_in : GoodIn wsX9_add wsX9_in := goodIn_r _ [5] (by decide +kernel) (by decide +kernel)
set_option maxRecDepth 20000 in
theorem gX9_add_X9_in : GoodIn wsX9_add (va_wsS RX9 51 yX9_in wsX9_in) := goodIn_app (goodIn_of _ (by decide +kernel)) ggX9_add_X9_in
set_option maxRecDepth 20000 in
theorem ggX9_add_X9_changes : GoodIn wsX9_add wsX9_changes := goodIn_r _ [9, 10, 11, 12, 1, 17, 18, 19, 20, 21, 22, 23, 24, 25, 26, 27, 28, 29, 30, 31, 32, 33, 34] (by decide +kernel) (by decide +kernel)
set_option maxRecDepth 20000 in
theorem gX9_add_X9_changes : GoodIn wsX9_add (wsV RX9 79 RX9 yX9_changes wsX9_changes) := goodIn_app (goodIn_of _ (by decide +kernel)) ggX9_add_X9_changes
set_option maxRecDepth 20000 in
theorem ggX9_add_X9_puts : GoodIn wsX9_add wsX9_puts := goodIn_r _ [16, 1, 17, 18, 19, 20, 21, 22, 23, 24, 25, 26, 27, 28, 29, 30, 31, 32, 33, 34] (by decide +kernel) (by decide +kernel)
set_option maxRecDepth 20000 in
theorem gX9_add_X9_puts : GoodIn wsX9_add (wsV RX9 82 RX9 yX9_puts wsX9_puts) := goodIn_app (goodIn_of _ (by decide +kernel)) ggX9_add_X9_puts
theorem dX9_add_0 : decode cX9_add 0 = .ok (.iload_n 1, 1) := by decide +kernel
theorem dX9_add_1 : decode cX9_add 1 = .ok (.iconst 0, 1) := by decide +kernel
theorem dX9_add_2 : decode cX9_add 2 = .ok (.aload_n 0, 1) := by decide +kernel
theorem dX9_add_3 : decode cX9_add 3 = .ok (.getfield 7, 3) := by decide +kernel
theorem dX9_add_6 : decode cX9_add 6 = .ok (.iconst 2, 1) := by decide +kernel
theorem dX9_add_7 : decode cX9_add 7 = .ok (.iaload, 1) := by decide +kernel
theorem dX9_add_8 : decode cX9_add 8 = .ok (.invokestatic 51, 3) := by decide +kernel
theorem dX9_add_11 : decode cX9_add 11 = .ok (.ifCond .eq 14, 3) := by decide +kernel
theorem dX9_add_14 : decode cX9_add 14 = .ok (.iload_n 2, 1) := by decide +kernel
theorem dX9_add_15 : decode cX9_add 15 = .ok (.iconst 1, 1) := by decide +kernel
theorem dX9_add_16 : decode cX9_add 16 = .ok (.sipush 9999, 3) := by decide +kernel
theorem dX9_add_19 : decode cX9_add 19 = .ok (.invokestatic 51, 3) := by decide +kernel
theorem dX9_add_22 : decode cX9_add 22 = .ok (.ifCond .ne 5, 3) := by decide +kernel
theorem dX9_add_25 : decode cX9_add 25 = .ok (.iconst (-1), 1) := by decide +kernel
theorem dX9_add_26 : decode cX9_add 26 = .ok (.ireturn, 1) := by decide +kernel
theorem dX9_add_27 : decode cX9_add 27 = .ok (.aload_n 0, 1) := by decide +kernel
theorem dX9_add_28 : decode cX9_add 28 = .ok (.getfield 7, 3) := by decide +kernel
theorem dX9_add_31 : decode cX9_add 31 = .ok (.iconst 2, 1) := by decide +kernel
theorem dX9_add_32 : decode cX9_add 32 = .ok (.iaload, 1) := by decide +kernel
theorem dX9_add_33 : decode cX9_add 33 = .ok (.bipush 12, 2) := by decide +kernel
theorem dX9_add_35 : decode cX9_add 35 = .ok (.if_icmp .ne 6, 3) := by decide +kernel
theorem dX9_add_38 : decode cX9_add 38 = .ok (.bipush (-3), 2) := by decide +kernel
theorem dX9_add_40 : decode cX9_add 40 = .ok (.ireturn, 1) := by decide +kernel
theorem dX9_add_41 : decode cX9_add 41 = .ok (.aload_n 0, 1) := by decide +kernel
theorem dX9_add_42 : decode cX9_add 42 = .ok (.invokevirtual 79, 3) := by decide +kernel
theorem dX9_add_45 : decode cX9_add 45 = .ok (.aload_n 0, 1) := by decide +kernel
theorem dX9_add_46 : decode cX9_add 46 = .ok (.iload_n 1, 1) := by decide +kernel
theorem dX9_add_47 : decode cX9_add 47 = .ok (.iload_n 2, 1) := by decide +kernel
theorem dX9_add_48 : decode cX9_add 48 = .ok (.invokevirtual 82, 3) := by decide +kernel
theorem dX9_add_51 : decode cX9_add 51 = .ok (.aload_n 0, 1) := by decide +kernel
theorem dX9_add_52 : decode cX9_add 52 = .ok (.getfield 7, 3) := by decide +kernel
theorem dX9_add_55 : decode cX9_add 55 = .ok (.iconst 2, 1) := by decide +kernel
theorem dX9_add_56 : decode cX9_add 56 = .ok (.iaload, 1) := by decide +kernel
theorem dX9_add_57 : decode cX9_add 57 = .ok (.ireturn, 1) := by decide +kernel
set_option maxRecDepth 20000 in
theorem ggX9_take_X9_isStep : GoodIn wsX9_take wsX9_isStep := goodIn_r _ [5, 6, 7, 8, 4, 9, 25, 26, 27, 28, 29, 30, 31, 32, 33, 34, 35, 36, 37, 38, 39, 40, 41, 42] (by decide +kernel) (by decide +kernel)
set_option maxRecDepth 20000 in
theorem gX9_take_X9_isStep : GoodIn wsX9_take (wsV RX9 86 RX9 yX9_isStep wsX9_isStep) := goodIn_app (goodIn_of _ (by decide +kernel)) ggX9_take_X9_isStep
set_option maxRecDepth 20000 in
theorem ggX9_take_X9_changes : GoodIn wsX9_take wsX9_changes := goodIn_r _ [13, 14, 15, 16, 6, 25, 26, 27, 28, 29, 30, 31, 32, 33, 34, 35, 36, 37, 38, 39, 40, 41, 42] (by decide +kernel) (by decide +kernel)
set_option maxRecDepth 20000 in
theorem gX9_take_X9_changes : GoodIn wsX9_take (wsV RX9 79 RX9 yX9_changes wsX9_changes) := goodIn_app (goodIn_of _ (by decide +kernel)) ggX9_take_X9_changes
set_option maxRecDepth 20000 in
theorem ggX9_take_X9_of : GoodIn wsX9_take wsX9_of := goodIn_r _ [20, 6, 25, 26, 27, 28, 29, 30, 31, 32, 33, 34, 35, 36, 37, 38, 39, 40, 41, 42] (by decide +kernel) (by decide +kernel)
set_option maxRecDepth 20000 in
theorem gX9_take_X9_of : GoodIn wsX9_take (wsV RX9 59 RX9 yX9_of wsX9_of) := goodIn_app (goodIn_of _ (by decide +kernel)) ggX9_take_X9_of
set_option maxRecDepth 20000 in
theorem ggX9_take_X9_takes : GoodIn wsX9_take wsX9_takes := goodIn_r _ [24, 6, 25, 26, 27, 28, 29, 30, 31, 32, 33, 34, 35, 36, 37, 38, 39, 40, 41, 42] (by decide +kernel) (by decide +kernel)
set_option maxRecDepth 20000 in
theorem gX9_take_X9_takes : GoodIn wsX9_take (wsV RX9 90 RX9 yX9_takes wsX9_takes) := goodIn_app (goodIn_of _ (by decide +kernel)) ggX9_take_X9_takes
theorem dX9_take_0 : decode cX9_take 0 = .ok (.aload_n 0, 1) := by decide +kernel
theorem dX9_take_1 : decode cX9_take 1 = .ok (.iload_n 1, 1) := by decide +kernel
theorem dX9_take_2 : decode cX9_take 2 = .ok (.invokevirtual 86, 3) := by decide +kernel
theorem dX9_take_5 : decode cX9_take 5 = .ok (.ifCond .ne 5, 3) := by decide +kernel
theorem dX9_take_8 : decode cX9_take 8 = .ok (.iconst (-1), 1) := by decide +kernel
theorem dX9_take_9 : decode cX9_take 9 = .ok (.ireturn, 1) := by decide +kernel
theorem dX9_take_10 : decode cX9_take 10 = .ok (.aload_n 0, 1) := by decide +kernel
theorem dX9_take_11 : decode cX9_take 11 = .ok (.invokevirtual 79, 3) := by decide +kernel
theorem dX9_take_14 : decode cX9_take 14 = .ok (.aload_n 0, 1) := by decide +kernel
theorem dX9_take_15 : decode cX9_take 15 = .ok (.iload_n 1, 1) := by decide +kernel
theorem dX9_take_16 : decode cX9_take 16 = .ok (.invokevirtual 59, 3) := by decide +kernel
theorem dX9_take_19 : decode cX9_take 19 = .ok (.istore_n 2, 1) := by decide +kernel
theorem dX9_take_20 : decode cX9_take 20 = .ok (.aload_n 0, 1) := by decide +kernel
theorem dX9_take_21 : decode cX9_take 21 = .ok (.iload_n 1, 1) := by decide +kernel
theorem dX9_take_22 : decode cX9_take 22 = .ok (.invokevirtual 90, 3) := by decide +kernel
theorem dX9_take_25 : decode cX9_take 25 = .ok (.iload_n 2, 1) := by decide +kernel
theorem dX9_take_26 : decode cX9_take 26 = .ok (.ireturn, 1) := by decide +kernel
set_option maxRecDepth 20000 in
theorem ggX9_multiple_X9_of : GoodIn wsX9_multiple wsX9_of := goodIn_r _ [5, 6, 10, 11, 12, 13, 14, 15, 16, 17, 18, 19, 20, 21, 22, 23, 24, 25, 26, 27] (by decide +kernel) (by decide +kernel)
set_option maxRecDepth 20000 in
theorem gX9_multiple_X9_of : GoodIn wsX9_multiple (wsV RX9 59 RX9 yX9_of wsX9_of) := goodIn_app (goodIn_of _ (by decide +kernel)) ggX9_multiple_X9_of
set_option maxRecDepth 20000 in
theorem ggX9_multiple_X9_divisor : GoodIn wsX9_multiple wsX9_divisor := goodIn_r _ [9] (by decide +kernel) (by decide +kernel)
set_option maxRecDepth 20000 in
theorem gX9_multiple_X9_divisor : GoodIn wsX9_multiple (va_wsS RX9 62 yX9_divisor wsX9_divisor) := goodIn_app (goodIn_of _ (by decide +kernel)) ggX9_multiple_X9_divisor
theorem dX9_multiple_0 : decode cX9_multiple 0 = .ok (.aload_n 0, 1) := by decide +kernel
theorem dX9_multiple_1 : decode cX9_multiple 1 = .ok (.iload_n 1, 1) := by decide +kernel
theorem dX9_multiple_2 : decode cX9_multiple 2 = .ok (.invokevirtual 59, 3) := by decide +kernel
theorem dX9_multiple_5 : decode cX9_multiple 5 = .ok (.aload_n 0, 1) := by decide +kernel
theorem dX9_multiple_6 : decode cX9_multiple 6 = .ok (.iload_n 1, 1) := by decide +kernel
theorem dX9_multiple_7 : decode cX9_multiple 7 = .ok (.invokevirtual 59, 3) := by decide +kernel
theorem dX9_multiple_10 : decode cX9_multiple 10 = .ok (.aload_n 0, 1) := by decide +kernel
theorem dX9_multiple_11 : decode cX9_multiple 11 = .ok (.iload_n 1, 1) := by decide +kernel
theorem dX9_multiple_12 : decode cX9_multiple 12 = .ok (.iconst 1, 1) := by decide +kernel
theorem dX9_multiple_13 : decode cX9_multiple 13 = .ok (.iadd, 1) := by decide +kernel
theorem dX9_multiple_14 : decode cX9_multiple 14 = .ok (.invokevirtual 59, 3) := by decide +kernel
theorem dX9_multiple_17 : decode cX9_multiple 17 = .ok (.invokestatic 62, 3) := by decide +kernel
theorem dX9_multiple_20 : decode cX9_multiple 20 = .ok (.idiv, 1) := by decide +kernel
theorem dX9_multiple_21 : decode cX9_multiple 21 = .ok (.aload_n 0, 1) := by decide +kernel
theorem dX9_multiple_22 : decode cX9_multiple 22 = .ok (.iload_n 1, 1) := by decide +kernel
theorem dX9_multiple_23 : decode cX9_multiple 23 = .ok (.iconst 1, 1) := by decide +kernel
theorem dX9_multiple_24 : decode cX9_multiple 24 = .ok (.iadd, 1) := by decide +kernel
theorem dX9_multiple_25 : decode cX9_multiple 25 = .ok (.invokevirtual 59, 3) := by decide +kernel
theorem dX9_multiple_28 : decode cX9_multiple 28 = .ok (.imul, 1) := by decide +kernel
theorem dX9_multiple_29 : decode cX9_multiple 29 = .ok (.ireturn, 1) := by decide +kernel
set_option maxRecDepth 20000 in
theorem ggX9_whyNotShared_X9_in : GoodIn wsX9_whyNotShared wsX9_in := goodIn_r _ [5] (by decide +kernel) (by decide +kernel)
set_option maxRecDepth 20000 in
theorem gX9_whyNotShared_X9_in : GoodIn wsX9_whyNotShared (va_wsS RX9 51 yX9_in wsX9_in) := goodIn_app (goodIn_of _ (by decide +kernel)) ggX9_whyNotShared_X9_in
set_option maxRecDepth 20000 in
theorem ggX9_whyNotShared_X9_multiple : GoodIn wsX9_whyNotShared wsX9_multiple := goodIn_r _ [9, 10, 11, 12, 4, 13, 1, 14, 15, 16, 17, 18, 19, 20, 21, 22, 23, 24, 25, 26, 27, 28, 29, 30, 31, 32, 33, 34] (by decide +kernel) (by decide +kernel)
set_option maxRecDepth 20000 in
theorem gX9_whyNotShared_X9_multiple : GoodIn wsX9_whyNotShared (wsV RX9 94 RX9 yX9_multiple wsX9_multiple) := goodIn_app (goodIn_of _ (by decide +kernel)) ggX9_whyNotShared_X9_multiple
theorem dX9_whyNotShared_0 : decode cX9_whyNotShared 0 = .ok (.iload_n 1, 1) := by decide +kernel
theorem dX9_whyNotShared_1 : decode cX9_whyNotShared 1 = .ok (.iconst 0, 1) := by decide +kernel
theorem dX9_whyNotShared_2 : decode cX9_whyNotShared 2 = .ok (.aload_n 0, 1) := by decide +kernel
theorem dX9_whyNotShared_3 : decode cX9_whyNotShared 3 = .ok (.getfield 7, 3) := by decide +kernel
theorem dX9_whyNotShared_6 : decode cX9_whyNotShared 6 = .ok (.iconst 2, 1) := by decide +kernel
theorem dX9_whyNotShared_7 : decode cX9_whyNotShared 7 = .ok (.iaload, 1) := by decide +kernel
theorem dX9_whyNotShared_8 : decode cX9_whyNotShared 8 = .ok (.iconst 2, 1) := by decide +kernel
theorem dX9_whyNotShared_9 : decode cX9_whyNotShared 9 = .ok (.isub, 1) := by decide +kernel
theorem dX9_whyNotShared_10 : decode cX9_whyNotShared 10 = .ok (.invokestatic 51, 3) := by decide +kernel
theorem dX9_whyNotShared_13 : decode cX9_whyNotShared 13 = .ok (.ifCond .ne 5, 3) := by decide +kernel
theorem dX9_whyNotShared_16 : decode cX9_whyNotShared 16 = .ok (.iconst (-1), 1) := by decide +kernel
theorem dX9_whyNotShared_17 : decode cX9_whyNotShared 17 = .ok (.ireturn, 1) := by decide +kernel
theorem dX9_whyNotShared_18 : decode cX9_whyNotShared 18 = .ok (.aload_n 0, 1) := by decide +kernel
theorem dX9_whyNotShared_19 : decode cX9_whyNotShared 19 = .ok (.iload_n 1, 1) := by decide +kernel
theorem dX9_whyNotShared_20 : decode cX9_whyNotShared 20 = .ok (.invokevirtual 94, 3) := by decide +kernel
theorem dX9_whyNotShared_23 : decode cX9_whyNotShared 23 = .ok (.sipush 9999, 3) := by decide +kernel
theorem dX9_whyNotShared_26 : decode cX9_whyNotShared 26 = .ok (.if_icmp .le 8, 3) := by decide +kernel
theorem dX9_whyNotShared_29 : decode cX9_whyNotShared 29 = .ok (.bipush (-3), 2) := by decide +kernel
theorem dX9_whyNotShared_31 : decode cX9_whyNotShared 31 = .ok (.goto 4, 3) := by decide +kernel
theorem dX9_whyNotShared_34 : decode cX9_whyNotShared 34 = .ok (.iconst 0, 1) := by decide +kernel
theorem dX9_whyNotShared_35 : decode cX9_whyNotShared 35 = .ok (.ireturn, 1) := by decide +kernel
set_option maxRecDepth 20000 in
theorem ggX9_shares_X9_multiple : GoodIn wsX9_shares wsX9_multiple := goodIn_r _ [6, 7, 8, 9, 5, 10, 1, 11, 12, 13, 14, 15, 16, 17, 18, 19, 20, 21, 22, 23, 24, 25, 26, 27, 28, 29, 30, 31] (by decide +kernel) (by decide +kernel)
set_option maxRecDepth 20000 in
theorem gX9_shares_X9_multiple : GoodIn wsX9_shares (wsV RX9 94 RX9 yX9_multiple wsX9_multiple) := goodIn_app (goodIn_of _ (by decide +kernel)) ggX9_shares_X9_multiple
set_option maxRecDepth 20000 in
theorem ggX9_shares_X9_of : GoodIn wsX9_shares wsX9_of := goodIn_r _ [10, 1, 14, 15, 16, 17, 18, 19, 20, 21, 22, 23, 24, 25, 26, 27, 28, 29, 30, 31] (by decide +kernel) (by decide +kernel)
set_option maxRecDepth 20000 in
theorem gX9_shares_X9_of : GoodIn wsX9_shares (wsV RX9 59 RX9 yX9_of wsX9_of) := goodIn_app (goodIn_of _ (by decide +kernel)) ggX9_shares_X9_of
set_option maxRecDepth 20000 in
theorem ggX9_shares_X9_divisor : GoodIn wsX9_shares wsX9_divisor := goodIn_r _ [13] (by decide +kernel) (by decide +kernel)
set_option maxRecDepth 20000 in
theorem gX9_shares_X9_divisor : GoodIn wsX9_shares (va_wsS RX9 62 yX9_divisor wsX9_divisor) := goodIn_app (goodIn_of _ (by decide +kernel)) ggX9_shares_X9_divisor
theorem dX9_shares_0 : decode cX9_shares 0 = .ok (.aload_n 0, 1) := by decide +kernel
theorem dX9_shares_1 : decode cX9_shares 1 = .ok (.iload_n 1, 1) := by decide +kernel
theorem dX9_shares_2 : decode cX9_shares 2 = .ok (.invokevirtual 94, 3) := by decide +kernel
theorem dX9_shares_5 : decode cX9_shares 5 = .ok (.istore_n 2, 1) := by decide +kernel
theorem dX9_shares_6 : decode cX9_shares 6 = .ok (.aload_n 0, 1) := by decide +kernel
theorem dX9_shares_7 : decode cX9_shares 7 = .ok (.getfield 7, 3) := by decide +kernel
theorem dX9_shares_10 : decode cX9_shares 10 = .ok (.iconst 4, 1) := by decide +kernel
theorem dX9_shares_11 : decode cX9_shares 11 = .ok (.iload_n 1, 1) := by decide +kernel
theorem dX9_shares_12 : decode cX9_shares 12 = .ok (.iadd, 1) := by decide +kernel
theorem dX9_shares_13 : decode cX9_shares 13 = .ok (.aload_n 0, 1) := by decide +kernel
theorem dX9_shares_14 : decode cX9_shares 14 = .ok (.iload_n 1, 1) := by decide +kernel
theorem dX9_shares_15 : decode cX9_shares 15 = .ok (.invokevirtual 59, 3) := by decide +kernel
theorem dX9_shares_18 : decode cX9_shares 18 = .ok (.aload_n 0, 1) := by decide +kernel
theorem dX9_shares_19 : decode cX9_shares 19 = .ok (.iload_n 1, 1) := by decide +kernel
theorem dX9_shares_20 : decode cX9_shares 20 = .ok (.iconst 1, 1) := by decide +kernel
theorem dX9_shares_21 : decode cX9_shares 21 = .ok (.iadd, 1) := by decide +kernel
theorem dX9_shares_22 : decode cX9_shares 22 = .ok (.invokevirtual 59, 3) := by decide +kernel
theorem dX9_shares_25 : decode cX9_shares 25 = .ok (.invokestatic 62, 3) := by decide +kernel
theorem dX9_shares_28 : decode cX9_shares 28 = .ok (.iastore, 1) := by decide +kernel
theorem dX9_shares_29 : decode cX9_shares 29 = .ok (.aload_n 0, 1) := by decide +kernel
theorem dX9_shares_30 : decode cX9_shares 30 = .ok (.getfield 7, 3) := by decide +kernel
theorem dX9_shares_33 : decode cX9_shares 33 = .ok (.iconst 4, 1) := by decide +kernel
theorem dX9_shares_34 : decode cX9_shares 34 = .ok (.iload_n 1, 1) := by decide +kernel
theorem dX9_shares_35 : decode cX9_shares 35 = .ok (.iadd, 1) := by decide +kernel
theorem dX9_shares_36 : decode cX9_shares 36 = .ok (.iconst 1, 1) := by decide +kernel
theorem dX9_shares_37 : decode cX9_shares 37 = .ok (.iadd, 1) := by decide +kernel
theorem dX9_shares_38 : decode cX9_shares 38 = .ok (.iload_n 2, 1) := by decide +kernel
theorem dX9_shares_39 : decode cX9_shares 39 = .ok (.iastore, 1) := by decide +kernel
theorem dX9_shares_40 : decode cX9_shares 40 = .ok (.aload_n 0, 1) := by decide +kernel
theorem dX9_shares_41 : decode cX9_shares 41 = .ok (.iload_n 1, 1) := by decide +kernel
theorem dX9_shares_42 : decode cX9_shares 42 = .ok (.invokevirtual 59, 3) := by decide +kernel
theorem dX9_shares_45 : decode cX9_shares 45 = .ok (.ireturn, 1) := by decide +kernel
set_option maxRecDepth 20000 in
theorem ggX9_share_X9_whyNotShared : GoodIn wsX9_share wsX9_whyNotShared := goodIn_r _ [5, 6, 7, 8, 4, 9, 10, 11, 12, 13, 14, 15, 16, 17, 18, 19, 20, 32, 33, 34, 35, 36, 37, 38, 39, 40, 41, 42, 43, 44, 45, 46, 47, 48, 49] (by decide +kernel) (by decide +kernel)
set_option maxRecDepth 20000 in
theorem gX9_share_X9_whyNotShared : GoodIn wsX9_share (wsV RX9 97 RX9 yX9_whyNotShared wsX9_whyNotShared) := goodIn_app (goodIn_of _ (by decide +kernel)) ggX9_share_X9_whyNotShared
set_option maxRecDepth 20000 in
theorem ggX9_share_X9_changes : GoodIn wsX9_share wsX9_changes := goodIn_r _ [24, 25, 26, 27, 6, 32, 33, 34, 35, 36, 37, 38, 39, 40, 41, 42, 43, 44, 45, 46, 47, 48, 49] (by decide +kernel) (by decide +kernel)
set_option maxRecDepth 20000 in
theorem gX9_share_X9_changes : GoodIn wsX9_share (wsV RX9 79 RX9 yX9_changes wsX9_changes) := goodIn_app (goodIn_of _ (by decide +kernel)) ggX9_share_X9_changes
set_option maxRecDepth 20000 in
theorem ggX9_share_X9_shares : GoodIn wsX9_share wsX9_shares := goodIn_r _ [31, 6, 10, 11, 12, 4, 13, 14, 15, 16, 17, 18, 19, 20, 32, 33, 34, 35, 36, 37, 38, 39, 40, 41, 42, 43, 44, 45, 46, 47, 48, 49] (by decide +kernel) (by decide +kernel)
set_option maxRecDepth 20000 in
theorem gX9_share_X9_shares : GoodIn wsX9_share (wsV RX9 100 RX9 yX9_shares wsX9_shares) := goodIn_app (goodIn_of _ (by decide +kernel)) ggX9_share_X9_shares
theorem dX9_share_0 : decode cX9_share 0 = .ok (.aload_n 0, 1) := by decide +kernel
theorem dX9_share_1 : decode cX9_share 1 = .ok (.iload_n 1, 1) := by decide +kernel
theorem dX9_share_2 : decode cX9_share 2 = .ok (.invokevirtual 97, 3) := by decide +kernel
theorem dX9_share_5 : decode cX9_share 5 = .ok (.istore_n 2, 1) := by decide +kernel
theorem dX9_share_6 : decode cX9_share 6 = .ok (.iload_n 2, 1) := by decide +kernel
theorem dX9_share_7 : decode cX9_share 7 = .ok (.ifCond .ge 5, 3) := by decide +kernel
theorem dX9_share_10 : decode cX9_share 10 = .ok (.iload_n 2, 1) := by decide +kernel
theorem dX9_share_11 : decode cX9_share 11 = .ok (.ireturn, 1) := by decide +kernel
theorem dX9_share_12 : decode cX9_share 12 = .ok (.aload_n 0, 1) := by decide +kernel
theorem dX9_share_13 : decode cX9_share 13 = .ok (.invokevirtual 79, 3) := by decide +kernel
theorem dX9_share_16 : decode cX9_share 16 = .ok (.aload_n 0, 1) := by decide +kernel
theorem dX9_share_17 : decode cX9_share 17 = .ok (.iload_n 1, 1) := by decide +kernel
theorem dX9_share_18 : decode cX9_share 18 = .ok (.invokevirtual 100, 3) := by decide +kernel
theorem dX9_share_21 : decode cX9_share 21 = .ok (.ireturn, 1) := by decide +kernel
set_option maxRecDepth 20000 in
theorem ggX9_whyNotDivided_X9_in : GoodIn wsX9_whyNotDivided wsX9_in := goodIn_r _ [5] (by decide +kernel) (by decide +kernel)
set_option maxRecDepth 20000 in
theorem gX9_whyNotDivided_X9_in : GoodIn wsX9_whyNotDivided (va_wsS RX9 51 yX9_in wsX9_in) := goodIn_app (goodIn_of _ (by decide +kernel)) ggX9_whyNotDivided_X9_in
set_option maxRecDepth 20000 in
theorem ggX9_whyNotDivided_X9_of : GoodIn wsX9_whyNotDivided wsX9_of := goodIn_r _ [9, 1, 10, 11, 12, 13, 14, 15, 16, 17, 18, 19, 20, 21, 22, 23, 24, 25, 26, 27] (by decide +kernel) (by decide +kernel)
set_option maxRecDepth 20000 in
theorem gX9_whyNotDivided_X9_of : GoodIn wsX9_whyNotDivided (wsV RX9 59 RX9 yX9_of wsX9_of) := goodIn_app (goodIn_of _ (by decide +kernel)) ggX9_whyNotDivided_X9_of
theorem dX9_whyNotDivided_0 : decode cX9_whyNotDivided 0 = .ok (.iload_n 1, 1) := by decide +kernel
theorem dX9_whyNotDivided_1 : decode cX9_whyNotDivided 1 = .ok (.iconst 0, 1) := by decide +kernel
theorem dX9_whyNotDivided_2 : decode cX9_whyNotDivided 2 = .ok (.aload_n 0, 1) := by decide +kernel
theorem dX9_whyNotDivided_3 : decode cX9_whyNotDivided 3 = .ok (.getfield 7, 3) := by decide +kernel
theorem dX9_whyNotDivided_6 : decode cX9_whyNotDivided 6 = .ok (.iconst 2, 1) := by decide +kernel
theorem dX9_whyNotDivided_7 : decode cX9_whyNotDivided 7 = .ok (.iaload, 1) := by decide +kernel
theorem dX9_whyNotDivided_8 : decode cX9_whyNotDivided 8 = .ok (.iconst 2, 1) := by decide +kernel
theorem dX9_whyNotDivided_9 : decode cX9_whyNotDivided 9 = .ok (.isub, 1) := by decide +kernel
theorem dX9_whyNotDivided_10 : decode cX9_whyNotDivided 10 = .ok (.invokestatic 51, 3) := by decide +kernel
theorem dX9_whyNotDivided_13 : decode cX9_whyNotDivided 13 = .ok (.ifCond .ne 5, 3) := by decide +kernel
theorem dX9_whyNotDivided_16 : decode cX9_whyNotDivided 16 = .ok (.iconst (-1), 1) := by decide +kernel
theorem dX9_whyNotDivided_17 : decode cX9_whyNotDivided 17 = .ok (.ireturn, 1) := by decide +kernel
theorem dX9_whyNotDivided_18 : decode cX9_whyNotDivided 18 = .ok (.aload_n 0, 1) := by decide +kernel
theorem dX9_whyNotDivided_19 : decode cX9_whyNotDivided 19 = .ok (.iload_n 1, 1) := by decide +kernel
theorem dX9_whyNotDivided_20 : decode cX9_whyNotDivided 20 = .ok (.iconst 1, 1) := by decide +kernel
theorem dX9_whyNotDivided_21 : decode cX9_whyNotDivided 21 = .ok (.iadd, 1) := by decide +kernel
theorem dX9_whyNotDivided_22 : decode cX9_whyNotDivided 22 = .ok (.invokevirtual 59, 3) := by decide +kernel
theorem dX9_whyNotDivided_25 : decode cX9_whyNotDivided 25 = .ok (.aload_n 0, 1) := by decide +kernel
theorem dX9_whyNotDivided_26 : decode cX9_whyNotDivided 26 = .ok (.iload_n 1, 1) := by decide +kernel
theorem dX9_whyNotDivided_27 : decode cX9_whyNotDivided 27 = .ok (.invokevirtual 59, 3) := by decide +kernel
theorem dX9_whyNotDivided_30 : decode cX9_whyNotDivided 30 = .ok (.irem, 1) := by decide +kernel
theorem dX9_whyNotDivided_31 : decode cX9_whyNotDivided 31 = .ok (.ifCond .ne 7, 3) := by decide +kernel
theorem dX9_whyNotDivided_34 : decode cX9_whyNotDivided 34 = .ok (.iconst 0, 1) := by decide +kernel
theorem dX9_whyNotDivided_35 : decode cX9_whyNotDivided 35 = .ok (.goto 5, 3) := by decide +kernel
theorem dX9_whyNotDivided_38 : decode cX9_whyNotDivided 38 = .ok (.bipush (-2), 2) := by decide +kernel
theorem dX9_whyNotDivided_40 : decode cX9_whyNotDivided 40 = .ok (.ireturn, 1) := by decide +kernel
set_option maxRecDepth 20000 in
theorem ggX9_breaks_X9_of : GoodIn wsX9_breaks wsX9_of := goodIn_r _ [6, 1, 11, 12, 13, 14, 15, 16, 17, 18, 19, 20, 21, 22, 23, 24, 25, 26, 27, 28] (by decide +kernel) (by decide +kernel)
set_option maxRecDepth 20000 in
theorem gX9_breaks_X9_of : GoodIn wsX9_breaks (wsV RX9 59 RX9 yX9_of wsX9_of) := goodIn_app (goodIn_of _ (by decide +kernel)) ggX9_breaks_X9_of
set_option maxRecDepth 20000 in
theorem ggX9_breaks_X9_takes : GoodIn wsX9_breaks wsX9_takes := goodIn_r _ [10, 1, 11, 12, 13, 14, 15, 16, 17, 18, 19, 20, 21, 22, 23, 24, 25, 26, 27, 28] (by decide +kernel) (by decide +kernel)
set_option maxRecDepth 20000 in
theorem gX9_breaks_X9_takes : GoodIn wsX9_breaks (wsV RX9 90 RX9 yX9_takes wsX9_takes) := goodIn_app (goodIn_of _ (by decide +kernel)) ggX9_breaks_X9_takes
theorem dX9_breaks_0 : decode cX9_breaks 0 = .ok (.aload_n 0, 1) := by decide +kernel
theorem dX9_breaks_1 : decode cX9_breaks 1 = .ok (.iload_n 1, 1) := by decide +kernel
theorem dX9_breaks_2 : decode cX9_breaks 2 = .ok (.invokevirtual 59, 3) := by decide +kernel
theorem dX9_breaks_5 : decode cX9_breaks 5 = .ok (.iconst 1, 1) := by decide +kernel
theorem dX9_breaks_6 : decode cX9_breaks 6 = .ok (.if_icmp .ne 18, 3) := by decide +kernel
theorem dX9_breaks_9 : decode cX9_breaks 9 = .ok (.aload_n 0, 1) := by decide +kernel
theorem dX9_breaks_10 : decode cX9_breaks 10 = .ok (.iload_n 1, 1) := by decide +kernel
theorem dX9_breaks_11 : decode cX9_breaks 11 = .ok (.invokevirtual 90, 3) := by decide +kernel
theorem dX9_breaks_14 : decode cX9_breaks 14 = .ok (.aload_n 0, 1) := by decide +kernel
theorem dX9_breaks_15 : decode cX9_breaks 15 = .ok (.getfield 7, 3) := by decide +kernel
theorem dX9_breaks_18 : decode cX9_breaks 18 = .ok (.iconst 3, 1) := by decide +kernel
theorem dX9_breaks_19 : decode cX9_breaks 19 = .ok (.dup2, 1) := by decide +kernel
theorem dX9_breaks_20 : decode cX9_breaks 20 = .ok (.iaload, 1) := by decide +kernel
theorem dX9_breaks_21 : decode cX9_breaks 21 = .ok (.iconst 1, 1) := by decide +kernel
theorem dX9_breaks_22 : decode cX9_breaks 22 = .ok (.iadd, 1) := by decide +kernel
theorem dX9_breaks_23 : decode cX9_breaks 23 = .ok (.iastore, 1) := by decide +kernel
theorem dX9_breaks_24 : decode cX9_breaks 24 = .ok (.return_, 1) := by decide +kernel
set_option maxRecDepth 20000 in
theorem ggX9_divides_X9_of : GoodIn wsX9_divides wsX9_of := goodIn_r _ [6, 1, 23, 24, 25, 26, 27, 28, 29, 30, 31, 32, 33, 34, 35, 36, 37, 38, 39, 40] (by decide +kernel) (by decide +kernel)
set_option maxRecDepth 20000 in
theorem gX9_divides_X9_of : GoodIn wsX9_divides (wsV RX9 59 RX9 yX9_of wsX9_of) := goodIn_app (goodIn_of _ (by decide +kernel)) ggX9_divides_X9_of
set_option maxRecDepth 20000 in
theorem ggX9_divides_X9_leastFactor : GoodIn wsX9_divides wsX9_leastFactor := goodIn_r _ [9] (by decide +kernel) (by decide +kernel)
set_option maxRecDepth 20000 in
theorem gX9_divides_X9_leastFactor : GoodIn wsX9_divides (va_wsS RX9 55 yX9_leastFactor wsX9_leastFactor) := goodIn_app (goodIn_of _ (by decide +kernel)) ggX9_divides_X9_leastFactor
set_option maxRecDepth 20000 in
theorem ggX9_divides_X9_rank : GoodIn wsX9_divides wsX9_rank := goodIn_r _ [13, 14, 23, 24, 25, 26, 27, 28, 29, 30, 31, 32, 33, 34, 35, 36, 37, 38, 39, 40] (by decide +kernel) (by decide +kernel)
set_option maxRecDepth 20000 in
theorem gX9_divides_X9_rank : GoodIn wsX9_divides (wsV RX9 103 RX9 yX9_rank wsX9_rank) := goodIn_app (goodIn_of _ (by decide +kernel)) ggX9_divides_X9_rank
set_option maxRecDepth 20000 in
theorem ggX9_divides_X9_breaks : GoodIn wsX9_divides wsX9_breaks := goodIn_r _ [18, 1, 2, 3, 4, 5, 6, 19, 20, 21, 22, 23, 24, 25, 26, 27, 28, 29, 30, 31, 32, 33, 34, 35, 36, 37, 38, 39, 40] (by decide +kernel) (by decide +kernel)
set_option maxRecDepth 20000 in
theorem gX9_divides_X9_breaks : GoodIn wsX9_divides (wsV RX9 106 RX9 yX9_breaks wsX9_breaks) := goodIn_app (goodIn_of _ (by decide +kernel)) ggX9_divides_X9_breaks
theorem dX9_divides_0 : decode cX9_divides 0 = .ok (.aload_n 0, 1) := by decide +kernel
theorem dX9_divides_1 : decode cX9_divides 1 = .ok (.iload_n 1, 1) := by decide +kernel
theorem dX9_divides_2 : decode cX9_divides 2 = .ok (.invokevirtual 59, 3) := by decide +kernel
theorem dX9_divides_5 : decode cX9_divides 5 = .ok (.istore_n 2, 1) := by decide +kernel
theorem dX9_divides_6 : decode cX9_divides 6 = .ok (.aload_n 0, 1) := by decide +kernel
theorem dX9_divides_7 : decode cX9_divides 7 = .ok (.iload_n 1, 1) := by decide +kernel
theorem dX9_divides_8 : decode cX9_divides 8 = .ok (.iconst 1, 1) := by decide +kernel
theorem dX9_divides_9 : decode cX9_divides 9 = .ok (.iadd, 1) := by decide +kernel
theorem dX9_divides_10 : decode cX9_divides 10 = .ok (.invokevirtual 59, 3) := by decide +kernel
theorem dX9_divides_13 : decode cX9_divides 13 = .ok (.iload_n 2, 1) := by decide +kernel
theorem dX9_divides_14 : decode cX9_divides 14 = .ok (.idiv, 1) := by decide +kernel
theorem dX9_divides_15 : decode cX9_divides 15 = .ok (.istore_n 3, 1) := by decide +kernel
theorem dX9_divides_16 : decode cX9_divides 16 = .ok (.iload_n 2, 1) := by decide +kernel
theorem dX9_divides_17 : decode cX9_divides 17 = .ok (.iconst 1, 1) := by decide +kernel
theorem dX9_divides_18 : decode cX9_divides 18 = .ok (.if_icmp .le 35, 3) := by decide +kernel
theorem dX9_divides_21 : decode cX9_divides 21 = .ok (.iload_n 2, 1) := by decide +kernel
theorem dX9_divides_22 : decode cX9_divides 22 = .ok (.invokestatic 55, 3) := by decide +kernel
theorem dX9_divides_25 : decode cX9_divides 25 = .ok (.istore 4, 2) := by decide +kernel
theorem dX9_divides_27 : decode cX9_divides 27 = .ok (.aload_n 0, 1) := by decide +kernel
theorem dX9_divides_28 : decode cX9_divides 28 = .ok (.getfield 7, 3) := by decide +kernel
theorem dX9_divides_31 : decode cX9_divides 31 = .ok (.bipush 16, 2) := by decide +kernel
theorem dX9_divides_33 : decode cX9_divides 33 = .ok (.aload_n 0, 1) := by decide +kernel
theorem dX9_divides_34 : decode cX9_divides 34 = .ok (.iload 4, 2) := by decide +kernel
theorem dX9_divides_36 : decode cX9_divides 36 = .ok (.invokevirtual 103, 3) := by decide +kernel
theorem dX9_divides_39 : decode cX9_divides 39 = .ok (.iadd, 1) := by decide +kernel
theorem dX9_divides_40 : decode cX9_divides 40 = .ok (.dup2, 1) := by decide +kernel
theorem dX9_divides_41 : decode cX9_divides 41 = .ok (.iaload, 1) := by decide +kernel
theorem dX9_divides_42 : decode cX9_divides 42 = .ok (.iconst 1, 1) := by decide +kernel
theorem dX9_divides_43 : decode cX9_divides 43 = .ok (.iadd, 1) := by decide +kernel
theorem dX9_divides_44 : decode cX9_divides 44 = .ok (.iastore, 1) := by decide +kernel
theorem dX9_divides_45 : decode cX9_divides 45 = .ok (.iload_n 2, 1) := by decide +kernel
theorem dX9_divides_46 : decode cX9_divides 46 = .ok (.iload 4, 2) := by decide +kernel
theorem dX9_divides_48 : decode cX9_divides 48 = .ok (.idiv, 1) := by decide +kernel
theorem dX9_divides_49 : decode cX9_divides 49 = .ok (.istore_n 2, 1) := by decide +kernel
theorem dX9_divides_50 : decode cX9_divides 50 = .ok (.goto (-34), 3) := by decide +kernel
theorem dX9_divides_53 : decode cX9_divides 53 = .ok (.aload_n 0, 1) := by decide +kernel
theorem dX9_divides_54 : decode cX9_divides 54 = .ok (.getfield 7, 3) := by decide +kernel
theorem dX9_divides_57 : decode cX9_divides 57 = .ok (.iconst 4, 1) := by decide +kernel
theorem dX9_divides_58 : decode cX9_divides 58 = .ok (.iload_n 1, 1) := by decide +kernel
theorem dX9_divides_59 : decode cX9_divides 59 = .ok (.iadd, 1) := by decide +kernel
theorem dX9_divides_60 : decode cX9_divides 60 = .ok (.iconst 1, 1) := by decide +kernel
theorem dX9_divides_61 : decode cX9_divides 61 = .ok (.iadd, 1) := by decide +kernel
theorem dX9_divides_62 : decode cX9_divides 62 = .ok (.iload_n 3, 1) := by decide +kernel
theorem dX9_divides_63 : decode cX9_divides 63 = .ok (.iastore, 1) := by decide +kernel
theorem dX9_divides_64 : decode cX9_divides 64 = .ok (.aload_n 0, 1) := by decide +kernel
theorem dX9_divides_65 : decode cX9_divides 65 = .ok (.iload_n 1, 1) := by decide +kernel
theorem dX9_divides_66 : decode cX9_divides 66 = .ok (.iconst 1, 1) := by decide +kernel
theorem dX9_divides_67 : decode cX9_divides 67 = .ok (.iadd, 1) := by decide +kernel
theorem dX9_divides_68 : decode cX9_divides 68 = .ok (.invokevirtual 106, 3) := by decide +kernel
theorem dX9_divides_71 : decode cX9_divides 71 = .ok (.iload_n 3, 1) := by decide +kernel
theorem dX9_divides_72 : decode cX9_divides 72 = .ok (.ireturn, 1) := by decide +kernel
set_option maxRecDepth 20000 in
theorem ggX9_divide_X9_whyNotDivided : GoodIn wsX9_divide wsX9_whyNotDivided := goodIn_r _ [5, 6, 7, 8, 4, 9, 10, 11, 12, 13, 41, 42, 43, 44, 45, 46, 47, 48, 49, 50, 51, 52, 53, 54, 55, 56, 57, 58] (by decide +kernel) (by decide +kernel)
set_option maxRecDepth 20000 in
theorem gX9_divide_X9_whyNotDivided : GoodIn wsX9_divide (wsV RX9 109 RX9 yX9_whyNotDivided wsX9_whyNotDivided) := goodIn_app (goodIn_of _ (by decide +kernel)) ggX9_divide_X9_whyNotDivided
set_option maxRecDepth 20000 in
theorem ggX9_divide_X9_changes : GoodIn wsX9_divide wsX9_changes := goodIn_r _ [17, 18, 19, 20, 6, 41, 42, 43, 44, 45, 46, 47, 48, 49, 50, 51, 52, 53, 54, 55, 56, 57, 58] (by decide +kernel) (by decide +kernel)
set_option maxRecDepth 20000 in
theorem gX9_divide_X9_changes : GoodIn wsX9_divide (wsV RX9 79 RX9 yX9_changes wsX9_changes) := goodIn_app (goodIn_of _ (by decide +kernel)) ggX9_divide_X9_changes
set_option maxRecDepth 20000 in
theorem ggX9_divide_X9_divides : GoodIn wsX9_divide wsX9_divides := goodIn_r _ [24, 6, 10, 11, 12, 4, 13, 25, 26, 27, 28, 29, 30, 31, 32, 33, 34, 35, 36, 37, 38, 39, 40, 41, 42, 43, 44, 45, 46, 47, 48, 49, 50, 51, 52, 53, 54, 55, 56, 57, 58] (by decide +kernel) (by decide +kernel)
set_option maxRecDepth 20000 in
theorem gX9_divide_X9_divides : GoodIn wsX9_divide (wsV RX9 112 RX9 yX9_divides wsX9_divides) := goodIn_app (goodIn_of _ (by decide +kernel)) ggX9_divide_X9_divides
theorem dX9_divide_0 : decode cX9_divide 0 = .ok (.aload_n 0, 1) := by decide +kernel
theorem dX9_divide_1 : decode cX9_divide 1 = .ok (.iload_n 1, 1) := by decide +kernel
theorem dX9_divide_2 : decode cX9_divide 2 = .ok (.invokevirtual 109, 3) := by decide +kernel
theorem dX9_divide_5 : decode cX9_divide 5 = .ok (.istore_n 2, 1) := by decide +kernel
theorem dX9_divide_6 : decode cX9_divide 6 = .ok (.iload_n 2, 1) := by decide +kernel
theorem dX9_divide_7 : decode cX9_divide 7 = .ok (.ifCond .ge 5, 3) := by decide +kernel
theorem dX9_divide_10 : decode cX9_divide 10 = .ok (.iload_n 2, 1) := by decide +kernel
theorem dX9_divide_11 : decode cX9_divide 11 = .ok (.ireturn, 1) := by decide +kernel
theorem dX9_divide_12 : decode cX9_divide 12 = .ok (.aload_n 0, 1) := by decide +kernel
theorem dX9_divide_13 : decode cX9_divide 13 = .ok (.invokevirtual 79, 3) := by decide +kernel
theorem dX9_divide_16 : decode cX9_divide 16 = .ok (.aload_n 0, 1) := by decide +kernel
theorem dX9_divide_17 : decode cX9_divide 17 = .ok (.iload_n 1, 1) := by decide +kernel
theorem dX9_divide_18 : decode cX9_divide 18 = .ok (.invokevirtual 112, 3) := by decide +kernel
theorem dX9_divide_21 : decode cX9_divide 21 = .ok (.ireturn, 1) := by decide +kernel
set_option maxRecDepth 20000 in
theorem ggX9_strikes_X9_of : GoodIn wsX9_strikes wsX9_of := goodIn_r _ [6, 1, 20, 21, 22, 23, 24, 25, 26, 27, 28, 29, 30, 31, 32, 33, 34, 35, 36, 37] (by decide +kernel) (by decide +kernel)
set_option maxRecDepth 20000 in
theorem gX9_strikes_X9_of : GoodIn wsX9_strikes (wsV RX9 59 RX9 yX9_of wsX9_of) := goodIn_app (goodIn_of _ (by decide +kernel)) ggX9_strikes_X9_of
set_option maxRecDepth 20000 in
theorem ggX9_strikes_X9_rank : GoodIn wsX9_strikes wsX9_rank := goodIn_r _ [10, 11, 20, 21, 22, 23, 24, 25, 26, 27, 28, 29, 30, 31, 32, 33, 34, 35, 36, 37] (by decide +kernel) (by decide +kernel)
set_option maxRecDepth 20000 in
theorem gX9_strikes_X9_rank : GoodIn wsX9_strikes (wsV RX9 103 RX9 yX9_rank wsX9_rank) := goodIn_app (goodIn_of _ (by decide +kernel)) ggX9_strikes_X9_rank
set_option maxRecDepth 20000 in
theorem ggX9_strikes_X9_breaks : GoodIn wsX9_strikes wsX9_breaks := goodIn_r _ [15, 1, 2, 3, 4, 5, 6, 16, 17, 18, 19, 20, 21, 22, 23, 24, 25, 26, 27, 28, 29, 30, 31, 32, 33, 34, 35, 36, 37] (by decide +kernel) (by decide +kernel)
set_option maxRecDepth 20000 in
theorem gX9_strikes_X9_breaks : GoodIn wsX9_strikes (wsV RX9 106 RX9 yX9_breaks wsX9_breaks) := goodIn_app (goodIn_of _ (by decide +kernel)) ggX9_strikes_X9_breaks
theorem dX9_strikes_0 : decode cX9_strikes 0 = .ok (.aload_n 0, 1) := by decide +kernel
theorem dX9_strikes_1 : decode cX9_strikes 1 = .ok (.iload_n 1, 1) := by decide +kernel
theorem dX9_strikes_2 : decode cX9_strikes 2 = .ok (.invokevirtual 59, 3) := by decide +kernel
theorem dX9_strikes_5 : decode cX9_strikes 5 = .ok (.iload_n 2, 1) := by decide +kernel
theorem dX9_strikes_6 : decode cX9_strikes 6 = .ok (.idiv, 1) := by decide +kernel
theorem dX9_strikes_7 : decode cX9_strikes 7 = .ok (.istore_n 3, 1) := by decide +kernel
theorem dX9_strikes_8 : decode cX9_strikes 8 = .ok (.aload_n 0, 1) := by decide +kernel
theorem dX9_strikes_9 : decode cX9_strikes 9 = .ok (.getfield 7, 3) := by decide +kernel
theorem dX9_strikes_12 : decode cX9_strikes 12 = .ok (.iconst 4, 1) := by decide +kernel
theorem dX9_strikes_13 : decode cX9_strikes 13 = .ok (.iload_n 1, 1) := by decide +kernel
theorem dX9_strikes_14 : decode cX9_strikes 14 = .ok (.iadd, 1) := by decide +kernel
theorem dX9_strikes_15 : decode cX9_strikes 15 = .ok (.iload_n 3, 1) := by decide +kernel
theorem dX9_strikes_16 : decode cX9_strikes 16 = .ok (.iastore, 1) := by decide +kernel
theorem dX9_strikes_17 : decode cX9_strikes 17 = .ok (.aload_n 0, 1) := by decide +kernel
theorem dX9_strikes_18 : decode cX9_strikes 18 = .ok (.getfield 7, 3) := by decide +kernel
theorem dX9_strikes_21 : decode cX9_strikes 21 = .ok (.bipush 16, 2) := by decide +kernel
theorem dX9_strikes_23 : decode cX9_strikes 23 = .ok (.aload_n 0, 1) := by decide +kernel
theorem dX9_strikes_24 : decode cX9_strikes 24 = .ok (.iload_n 2, 1) := by decide +kernel
theorem dX9_strikes_25 : decode cX9_strikes 25 = .ok (.invokevirtual 103, 3) := by decide +kernel
theorem dX9_strikes_28 : decode cX9_strikes 28 = .ok (.iadd, 1) := by decide +kernel
theorem dX9_strikes_29 : decode cX9_strikes 29 = .ok (.dup2, 1) := by decide +kernel
theorem dX9_strikes_30 : decode cX9_strikes 30 = .ok (.iaload, 1) := by decide +kernel
theorem dX9_strikes_31 : decode cX9_strikes 31 = .ok (.iconst 1, 1) := by decide +kernel
theorem dX9_strikes_32 : decode cX9_strikes 32 = .ok (.iadd, 1) := by decide +kernel
theorem dX9_strikes_33 : decode cX9_strikes 33 = .ok (.iastore, 1) := by decide +kernel
theorem dX9_strikes_34 : decode cX9_strikes 34 = .ok (.aload_n 0, 1) := by decide +kernel
theorem dX9_strikes_35 : decode cX9_strikes 35 = .ok (.iload_n 1, 1) := by decide +kernel
theorem dX9_strikes_36 : decode cX9_strikes 36 = .ok (.invokevirtual 106, 3) := by decide +kernel
theorem dX9_strikes_39 : decode cX9_strikes 39 = .ok (.iload_n 3, 1) := by decide +kernel
theorem dX9_strikes_40 : decode cX9_strikes 40 = .ok (.ireturn, 1) := by decide +kernel
set_option maxRecDepth 20000 in
theorem ggX9_strike_X9_isStep : GoodIn wsX9_strike wsX9_isStep := goodIn_r _ [5, 6, 7, 8, 4, 9, 38, 39, 40, 41, 42, 43, 44, 45, 46, 47, 48, 49, 50, 51, 52, 53, 54, 55] (by decide +kernel) (by decide +kernel)
set_option maxRecDepth 20000 in
theorem gX9_strike_X9_isStep : GoodIn wsX9_strike (wsV RX9 86 RX9 yX9_isStep wsX9_isStep) := goodIn_app (goodIn_of _ (by decide +kernel)) ggX9_strike_X9_isStep
set_option maxRecDepth 20000 in
theorem ggX9_strike_X9_rank : GoodIn wsX9_strike wsX9_rank := goodIn_r _ [13, 14, 38, 39, 40, 41, 42, 43, 44, 45, 46, 47, 48, 49, 50, 51, 52, 53, 54, 55] (by decide +kernel) (by decide +kernel)
set_option maxRecDepth 20000 in
theorem gX9_strike_X9_rank : GoodIn wsX9_strike (wsV RX9 103 RX9 yX9_rank wsX9_rank) := goodIn_app (goodIn_of _ (by decide +kernel)) ggX9_strike_X9_rank
set_option maxRecDepth 20000 in
theorem ggX9_strike_X9_of : GoodIn wsX9_strike wsX9_of := goodIn_r _ [18, 6, 38, 39, 40, 41, 42, 43, 44, 45, 46, 47, 48, 49, 50, 51, 52, 53, 54, 55] (by decide +kernel) (by decide +kernel)
set_option maxRecDepth 20000 in
theorem gX9_strike_X9_of : GoodIn wsX9_strike (wsV RX9 59 RX9 yX9_of wsX9_of) := goodIn_app (goodIn_of _ (by decide +kernel)) ggX9_strike_X9_of
set_option maxRecDepth 20000 in
theorem ggX9_strike_X9_changes : GoodIn wsX9_strike wsX9_changes := goodIn_r _ [22, 23, 24, 25, 6, 38, 39, 40, 41, 42, 43, 44, 45, 46, 47, 48, 49, 50, 51, 52, 53, 54, 55] (by decide +kernel) (by decide +kernel)
set_option maxRecDepth 20000 in
theorem gX9_strike_X9_changes : GoodIn wsX9_strike (wsV RX9 79 RX9 yX9_changes wsX9_changes) := goodIn_app (goodIn_of _ (by decide +kernel)) ggX9_strike_X9_changes
set_option maxRecDepth 20000 in
theorem ggX9_strike_X9_strikes : GoodIn wsX9_strike wsX9_strikes := goodIn_r _ [29, 6, 15, 16, 17, 4, 18, 10, 11, 12, 13, 14, 30, 31, 32, 33, 34, 35, 36, 37, 38, 39, 40, 41, 42, 43, 44, 45, 46, 47, 48, 49, 50, 51, 52, 53, 54, 55] (by decide +kernel) (by decide +kernel)
set_option maxRecDepth 20000 in
theorem gX9_strike_X9_strikes : GoodIn wsX9_strike (wsV RX9 115 RX9 yX9_strikes wsX9_strikes) := goodIn_app (goodIn_of _ (by decide +kernel)) ggX9_strike_X9_strikes
theorem dX9_strike_0 : decode cX9_strike 0 = .ok (.aload_n 0, 1) := by decide +kernel
theorem dX9_strike_1 : decode cX9_strike 1 = .ok (.iload_n 1, 1) := by decide +kernel
theorem dX9_strike_2 : decode cX9_strike 2 = .ok (.invokevirtual 86, 3) := by decide +kernel
theorem dX9_strike_5 : decode cX9_strike 5 = .ok (.ifCond .eq 11, 3) := by decide +kernel
theorem dX9_strike_8 : decode cX9_strike 8 = .ok (.aload_n 0, 1) := by decide +kernel
theorem dX9_strike_9 : decode cX9_strike 9 = .ok (.iload_n 2, 1) := by decide +kernel
theorem dX9_strike_10 : decode cX9_strike 10 = .ok (.invokevirtual 103, 3) := by decide +kernel
theorem dX9_strike_13 : decode cX9_strike 13 = .ok (.ifCond .ge 5, 3) := by decide +kernel
theorem dX9_strike_16 : decode cX9_strike 16 = .ok (.iconst (-1), 1) := by decide +kernel
theorem dX9_strike_17 : decode cX9_strike 17 = .ok (.ireturn, 1) := by decide +kernel
theorem dX9_strike_18 : decode cX9_strike 18 = .ok (.aload_n 0, 1) := by decide +kernel
theorem dX9_strike_19 : decode cX9_strike 19 = .ok (.iload_n 1, 1) := by decide +kernel
theorem dX9_strike_20 : decode cX9_strike 20 = .ok (.invokevirtual 59, 3) := by decide +kernel
theorem dX9_strike_23 : decode cX9_strike 23 = .ok (.iload_n 2, 1) := by decide +kernel
theorem dX9_strike_24 : decode cX9_strike 24 = .ok (.irem, 1) := by decide +kernel
theorem dX9_strike_25 : decode cX9_strike 25 = .ok (.ifCond .eq 6, 3) := by decide +kernel
theorem dX9_strike_28 : decode cX9_strike 28 = .ok (.bipush (-2), 2) := by decide +kernel
theorem dX9_strike_30 : decode cX9_strike 30 = .ok (.ireturn, 1) := by decide +kernel
theorem dX9_strike_31 : decode cX9_strike 31 = .ok (.aload_n 0, 1) := by decide +kernel
theorem dX9_strike_32 : decode cX9_strike 32 = .ok (.invokevirtual 79, 3) := by decide +kernel
theorem dX9_strike_35 : decode cX9_strike 35 = .ok (.aload_n 0, 1) := by decide +kernel
theorem dX9_strike_36 : decode cX9_strike 36 = .ok (.iload_n 1, 1) := by decide +kernel
theorem dX9_strike_37 : decode cX9_strike 37 = .ok (.iload_n 2, 1) := by decide +kernel
theorem dX9_strike_38 : decode cX9_strike 38 = .ok (.invokevirtual 115, 3) := by decide +kernel
theorem dX9_strike_41 : decode cX9_strike 41 = .ok (.ireturn, 1) := by decide +kernel
set_option maxRecDepth 20000 in
theorem ggX9_isSettled_X9_of : GoodIn wsX9_isSettled wsX9_of := goodIn_r _ [6, 1, 7, 8, 9, 10, 11, 12, 13, 14, 15, 16, 17, 18, 19, 20, 21, 22, 23, 24] (by decide +kernel) (by decide +kernel)
set_option maxRecDepth 20000 in
theorem gX9_isSettled_X9_of : GoodIn wsX9_isSettled (wsV RX9 59 RX9 yX9_of wsX9_of) := goodIn_app (goodIn_of _ (by decide +kernel)) ggX9_isSettled_X9_of
theorem dX9_isSettled_0 : decode cX9_isSettled 0 = .ok (.iconst 1, 1) := by decide +kernel
theorem dX9_isSettled_1 : decode cX9_isSettled 1 = .ok (.istore_n 1, 1) := by decide +kernel
theorem dX9_isSettled_2 : decode cX9_isSettled 2 = .ok (.iconst 0, 1) := by decide +kernel
theorem dX9_isSettled_3 : decode cX9_isSettled 3 = .ok (.istore_n 2, 1) := by decide +kernel
theorem dX9_isSettled_4 : decode cX9_isSettled 4 = .ok (.iload_n 2, 1) := by decide +kernel
theorem dX9_isSettled_5 : decode cX9_isSettled 5 = .ok (.aload_n 0, 1) := by decide +kernel
theorem dX9_isSettled_6 : decode cX9_isSettled 6 = .ok (.getfield 7, 3) := by decide +kernel
theorem dX9_isSettled_9 : decode cX9_isSettled 9 = .ok (.iconst 2, 1) := by decide +kernel
theorem dX9_isSettled_10 : decode cX9_isSettled 10 = .ok (.iaload, 1) := by decide +kernel
theorem dX9_isSettled_11 : decode cX9_isSettled 11 = .ok (.iconst 1, 1) := by decide +kernel
theorem dX9_isSettled_12 : decode cX9_isSettled 12 = .ok (.isub, 1) := by decide +kernel
theorem dX9_isSettled_13 : decode cX9_isSettled 13 = .ok (.if_icmp .ge 35, 3) := by decide +kernel
theorem dX9_isSettled_16 : decode cX9_isSettled 16 = .ok (.iload_n 1, 1) := by decide +kernel
theorem dX9_isSettled_17 : decode cX9_isSettled 17 = .ok (.ifCond .eq 23, 3) := by decide +kernel
theorem dX9_isSettled_20 : decode cX9_isSettled 20 = .ok (.aload_n 0, 1) := by decide +kernel
theorem dX9_isSettled_21 : decode cX9_isSettled 21 = .ok (.iload_n 2, 1) := by decide +kernel
theorem dX9_isSettled_22 : decode cX9_isSettled 22 = .ok (.iconst 1, 1) := by decide +kernel
theorem dX9_isSettled_23 : decode cX9_isSettled 23 = .ok (.iadd, 1) := by decide +kernel
theorem dX9_isSettled_24 : decode cX9_isSettled 24 = .ok (.invokevirtual 59, 3) := by decide +kernel
theorem dX9_isSettled_27 : decode cX9_isSettled 27 = .ok (.aload_n 0, 1) := by decide +kernel
theorem dX9_isSettled_28 : decode cX9_isSettled 28 = .ok (.iload_n 2, 1) := by decide +kernel
theorem dX9_isSettled_29 : decode cX9_isSettled 29 = .ok (.invokevirtual 59, 3) := by decide +kernel
theorem dX9_isSettled_32 : decode cX9_isSettled 32 = .ok (.irem, 1) := by decide +kernel
theorem dX9_isSettled_33 : decode cX9_isSettled 33 = .ok (.ifCond .ne 7, 3) := by decide +kernel
theorem dX9_isSettled_36 : decode cX9_isSettled 36 = .ok (.iconst 1, 1) := by decide +kernel
theorem dX9_isSettled_37 : decode cX9_isSettled 37 = .ok (.goto 4, 3) := by decide +kernel
theorem dX9_isSettled_40 : decode cX9_isSettled 40 = .ok (.iconst 0, 1) := by decide +kernel
theorem dX9_isSettled_41 : decode cX9_isSettled 41 = .ok (.istore_n 1, 1) := by decide +kernel
theorem dX9_isSettled_42 : decode cX9_isSettled 42 = .ok (.iinc 2 1, 3) := by decide +kernel
theorem dX9_isSettled_45 : decode cX9_isSettled 45 = .ok (.goto (-41), 3) := by decide +kernel
theorem dX9_isSettled_48 : decode cX9_isSettled 48 = .ok (.iload_n 1, 1) := by decide +kernel
theorem dX9_isSettled_49 : decode cX9_isSettled 49 = .ok (.ireturn, 1) := by decide +kernel
set_option maxRecDepth 20000 in
theorem ggX9_rounds_X9_isSettled : GoodIn wsX9_rounds wsX9_isSettled := goodIn_r _ [6, 1, 7, 8, 9, 5, 10, 29, 30, 31, 32, 33, 34, 35, 36, 37, 38, 39, 40, 41, 42, 43, 44, 45, 46] (by decide +kernel) (by decide +kernel)
set_option maxRecDepth 20000 in
theorem gX9_rounds_X9_isSettled : GoodIn wsX9_rounds (wsV RX9 118 RX9 yX9_isSettled wsX9_isSettled) := goodIn_app (goodIn_of _ (by decide +kernel)) ggX9_rounds_X9_isSettled
set_option maxRecDepth 20000 in
theorem ggX9_rounds_X9_whyNotShared : GoodIn wsX9_rounds wsX9_whyNotShared := goodIn_r _ [14, 1, 15, 16, 5, 17, 18, 19, 20, 21, 7, 8, 9, 10, 22, 23, 24, 29, 30, 31, 32, 33, 34, 35, 36, 37, 38, 39, 40, 41, 42, 43, 44, 45, 46] (by decide +kernel) (by decide +kernel)
set_option maxRecDepth 20000 in
theorem gX9_rounds_X9_whyNotShared : GoodIn wsX9_rounds (wsV RX9 97 RX9 yX9_whyNotShared wsX9_whyNotShared) := goodIn_app (goodIn_of _ (by decide +kernel)) ggX9_rounds_X9_whyNotShared
set_option maxRecDepth 20000 in
theorem ggX9_rounds_X9_shares : GoodIn wsX9_rounds wsX9_shares := goodIn_r _ [28, 1, 18, 19, 20, 5, 21, 7, 8, 9, 10, 22, 23, 24, 29, 30, 31, 32, 33, 34, 35, 36, 37, 38, 39, 40, 41, 42, 43, 44, 45, 46] (by decide +kernel) (by decide +kernel)
set_option maxRecDepth 20000 in
theorem gX9_rounds_X9_shares : GoodIn wsX9_rounds (wsV RX9 100 RX9 yX9_shares wsX9_shares) := goodIn_app (goodIn_of _ (by decide +kernel)) ggX9_rounds_X9_shares
theorem dX9_rounds_0 : decode cX9_rounds 0 = .ok (.iconst 0, 1) := by decide +kernel
theorem dX9_rounds_1 : decode cX9_rounds 1 = .ok (.istore_n 1, 1) := by decide +kernel
theorem dX9_rounds_2 : decode cX9_rounds 2 = .ok (.aload_n 0, 1) := by decide +kernel
theorem dX9_rounds_3 : decode cX9_rounds 3 = .ok (.invokevirtual 118, 3) := by decide +kernel
theorem dX9_rounds_6 : decode cX9_rounds 6 = .ok (.ifCond .ne 49, 3) := by decide +kernel
theorem dX9_rounds_9 : decode cX9_rounds 9 = .ok (.iconst 0, 1) := by decide +kernel
theorem dX9_rounds_10 : decode cX9_rounds 10 = .ok (.istore_n 2, 1) := by decide +kernel
theorem dX9_rounds_11 : decode cX9_rounds 11 = .ok (.iload_n 2, 1) := by decide +kernel
