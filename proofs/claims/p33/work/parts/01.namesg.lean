theorem dL_isPrime_2 : decode cL_isPrime 2 = .ok (.iload_n 1, 1) := by decide +kernel
theorem dL_isPrime_3 : decode cL_isPrime 3 = .ok (.iload_n 1, 1) := by decide +kernel
theorem dL_isPrime_4 : decode cL_isPrime 4 = .ok (.imul, 1) := by decide +kernel
theorem dL_isPrime_5 : decode cL_isPrime 5 = .ok (.iload_n 0, 1) := by decide +kernel
theorem dL_isPrime_6 : decode cL_isPrime 6 = .ok (.if_icmp .gt 17, 3) := by decide +kernel
theorem dL_isPrime_9 : decode cL_isPrime 9 = .ok (.iload_n 0, 1) := by decide +kernel
theorem dL_isPrime_10 : decode cL_isPrime 10 = .ok (.iload_n 1, 1) := by decide +kernel
theorem dL_isPrime_11 : decode cL_isPrime 11 = .ok (.irem, 1) := by decide +kernel
theorem dL_isPrime_12 : decode cL_isPrime 12 = .ok (.ifCond .ne 5, 3) := by decide +kernel
theorem dL_isPrime_15 : decode cL_isPrime 15 = .ok (.iconst 0, 1) := by decide +kernel
theorem dL_isPrime_16 : decode cL_isPrime 16 = .ok (.ireturn, 1) := by decide +kernel
theorem dL_isPrime_17 : decode cL_isPrime 17 = .ok (.iinc 1 1, 3) := by decide +kernel
theorem dL_isPrime_20 : decode cL_isPrime 20 = .ok (.goto (-18), 3) := by decide +kernel
theorem dL_isPrime_23 : decode cL_isPrime 23 = .ok (.iload_n 0, 1) := by decide +kernel
theorem dL_isPrime_24 : decode cL_isPrime 24 = .ok (.iconst 1, 1) := by decide +kernel
theorem dL_isPrime_25 : decode cL_isPrime 25 = .ok (.if_icmp .le 7, 3) := by decide +kernel
theorem dL_isPrime_28 : decode cL_isPrime 28 = .ok (.iconst 1, 1) := by decide +kernel
theorem dL_isPrime_29 : decode cL_isPrime 29 = .ok (.goto 4, 3) := by decide +kernel
theorem dL_isPrime_32 : decode cL_isPrime 32 = .ok (.iconst 0, 1) := by decide +kernel
theorem dL_isPrime_33 : decode cL_isPrime 33 = .ok (.ireturn, 1) := by decide +kernel
set_option maxRecDepth 20000 in
theorem ggL_primeAt_L_isPrime : GoodIn wsL_primeAt wsL_isPrime := goodIn_r _ [4] (by decide +kernel) (by decide +kernel)
set_option maxRecDepth 20000 in
theorem gL_primeAt_L_isPrime : GoodIn wsL_primeAt (va_wsS RL 9 yL_isPrime wsL_isPrime) := goodIn_app (goodIn_of _ (by decide +kernel)) ggL_primeAt_L_isPrime
theorem dL_primeAt_0 : decode cL_primeAt 0 = .ok (.iconst 2, 1) := by decide +kernel
theorem dL_primeAt_1 : decode cL_primeAt 1 = .ok (.istore_n 1, 1) := by decide +kernel
theorem dL_primeAt_2 : decode cL_primeAt 2 = .ok (.iload_n 0, 1) := by decide +kernel
theorem dL_primeAt_3 : decode cL_primeAt 3 = .ok (.istore_n 2, 1) := by decide +kernel
theorem dL_primeAt_4 : decode cL_primeAt 4 = .ok (.iload_n 2, 1) := by decide +kernel
theorem dL_primeAt_5 : decode cL_primeAt 5 = .ok (.ifCond .le 25, 3) := by decide +kernel
theorem dL_primeAt_8 : decode cL_primeAt 8 = .ok (.iinc 1 1, 3) := by decide +kernel
theorem dL_primeAt_11 : decode cL_primeAt 11 = .ok (.iload_n 1, 1) := by decide +kernel
theorem dL_primeAt_12 : decode cL_primeAt 12 = .ok (.invokestatic 9, 3) := by decide +kernel
theorem dL_primeAt_15 : decode cL_primeAt 15 = .ok (.ifCond .ne 9, 3) := by decide +kernel
theorem dL_primeAt_18 : decode cL_primeAt 18 = .ok (.iinc 1 1, 3) := by decide +kernel
theorem dL_primeAt_21 : decode cL_primeAt 21 = .ok (.goto (-10), 3) := by decide +kernel
theorem dL_primeAt_24 : decode cL_primeAt 24 = .ok (.iinc 2 (-1), 3) := by decide +kernel
theorem dL_primeAt_27 : decode cL_primeAt 27 = .ok (.goto (-23), 3) := by decide +kernel
theorem dL_primeAt_30 : decode cL_primeAt 30 = .ok (.iload_n 1, 1) := by decide +kernel
theorem dL_primeAt_31 : decode cL_primeAt 31 = .ok (.ireturn, 1) := by decide +kernel
theorem dL_exponent_0 : decode cL_exponent 0 = .ok (.iconst 0, 1) := by decide +kernel
theorem dL_exponent_1 : decode cL_exponent 1 = .ok (.istore_n 2, 1) := by decide +kernel
theorem dL_exponent_2 : decode cL_exponent 2 = .ok (.iload_n 0, 1) := by decide +kernel
theorem dL_exponent_3 : decode cL_exponent 3 = .ok (.istore_n 3, 1) := by decide +kernel
theorem dL_exponent_4 : decode cL_exponent 4 = .ok (.iload_n 3, 1) := by decide +kernel
theorem dL_exponent_5 : decode cL_exponent 5 = .ok (.iload_n 1, 1) := by decide +kernel
theorem dL_exponent_6 : decode cL_exponent 6 = .ok (.irem, 1) := by decide +kernel
theorem dL_exponent_7 : decode cL_exponent 7 = .ok (.ifCond .ne 13, 3) := by decide +kernel
theorem dL_exponent_10 : decode cL_exponent 10 = .ok (.iinc 2 1, 3) := by decide +kernel
theorem dL_exponent_13 : decode cL_exponent 13 = .ok (.iload_n 3, 1) := by decide +kernel
theorem dL_exponent_14 : decode cL_exponent 14 = .ok (.iload_n 1, 1) := by decide +kernel
theorem dL_exponent_15 : decode cL_exponent 15 = .ok (.idiv, 1) := by decide +kernel
theorem dL_exponent_16 : decode cL_exponent 16 = .ok (.istore_n 3, 1) := by decide +kernel
theorem dL_exponent_17 : decode cL_exponent 17 = .ok (.goto (-13), 3) := by decide +kernel
theorem dL_exponent_20 : decode cL_exponent 20 = .ok (.iload_n 2, 1) := by decide +kernel
theorem dL_exponent_21 : decode cL_exponent 21 = .ok (.ireturn, 1) := by decide +kernel
theorem dL_number_0 : decode cL_number 0 = .ok (.iconst 1, 1) := by decide +kernel
theorem dL_number_1 : decode cL_number 1 = .ok (.istore_n 2, 1) := by decide +kernel
theorem dL_number_2 : decode cL_number 2 = .ok (.iload_n 0, 1) := by decide +kernel
theorem dL_number_3 : decode cL_number 3 = .ok (.istore_n 3, 1) := by decide +kernel
theorem dL_number_4 : decode cL_number 4 = .ok (.iload_n 0, 1) := by decide +kernel
theorem dL_number_5 : decode cL_number 5 = .ok (.bipush 6, 2) := by decide +kernel
theorem dL_number_7 : decode cL_number 7 = .ok (.irem, 1) := by decide +kernel
theorem dL_number_8 : decode cL_number 8 = .ok (.istore 4, 2) := by decide +kernel
theorem dL_number_10 : decode cL_number 10 = .ok (.iload 4, 2) := by decide +kernel
theorem dL_number_12 : decode cL_number 12 = .ok (.ifCond .le 57, 3) := by decide +kernel
theorem dL_number_15 : decode cL_number 15 = .ok (.aload_n 1, 1) := by decide +kernel
theorem dL_number_16 : decode cL_number 16 = .ok (.iload_n 3, 1) := by decide +kernel
theorem dL_number_17 : decode cL_number 17 = .ok (.iconst 3, 1) := by decide +kernel
theorem dL_number_18 : decode cL_number 18 = .ok (.irem, 1) := by decide +kernel
theorem dL_number_19 : decode cL_number 19 = .ok (.ifCond .ne 12, 3) := by decide +kernel
theorem dL_number_22 : decode cL_number 22 = .ok (.iload_n 3, 1) := by decide +kernel
theorem dL_number_23 : decode cL_number 23 = .ok (.iconst 3, 1) := by decide +kernel
theorem dL_number_24 : decode cL_number 24 = .ok (.idiv, 1) := by decide +kernel
theorem dL_number_25 : decode cL_number 25 = .ok (.bipush 25, 2) := by decide +kernel
theorem dL_number_27 : decode cL_number 27 = .ok (.irem, 1) := by decide +kernel
theorem dL_number_28 : decode cL_number 28 = .ok (.goto 8, 3) := by decide +kernel
theorem dL_number_31 : decode cL_number 31 = .ok (.iload_n 3, 1) := by decide +kernel
theorem dL_number_32 : decode cL_number 32 = .ok (.iconst 3, 1) := by decide +kernel
theorem dL_number_33 : decode cL_number 33 = .ok (.idiv, 1) := by decide +kernel
theorem dL_number_34 : decode cL_number 34 = .ok (.iconst 4, 1) := by decide +kernel
theorem dL_number_35 : decode cL_number 35 = .ok (.irem, 1) := by decide +kernel
theorem dL_number_36 : decode cL_number 36 = .ok (.iaload, 1) := by decide +kernel
theorem dL_number_37 : decode cL_number 37 = .ok (.istore 5, 2) := by decide +kernel
theorem dL_number_39 : decode cL_number 39 = .ok (.iload_n 2, 1) := by decide +kernel
theorem dL_number_40 : decode cL_number 40 = .ok (.iload_n 2, 1) := by decide +kernel
theorem dL_number_41 : decode cL_number 41 = .ok (.iload 5, 2) := by decide +kernel
theorem dL_number_43 : decode cL_number 43 = .ok (.imul, 1) := by decide +kernel
theorem dL_number_44 : decode cL_number 44 = .ok (.sipush 10000, 3) := by decide +kernel
theorem dL_number_47 : decode cL_number 47 = .ok (.if_icmp .ge 8, 3) := by decide +kernel
theorem dL_number_50 : decode cL_number 50 = .ok (.iload 5, 2) := by decide +kernel
theorem dL_number_52 : decode cL_number 52 = .ok (.goto 4, 3) := by decide +kernel
theorem dL_number_55 : decode cL_number 55 = .ok (.iconst 1, 1) := by decide +kernel
theorem dL_number_56 : decode cL_number 56 = .ok (.imul, 1) := by decide +kernel
theorem dL_number_57 : decode cL_number 57 = .ok (.istore_n 2, 1) := by decide +kernel
theorem dL_number_58 : decode cL_number 58 = .ok (.iload_n 3, 1) := by decide +kernel
theorem dL_number_59 : decode cL_number 59 = .ok (.bipush 7, 2) := by decide +kernel
theorem dL_number_61 : decode cL_number 61 = .ok (.idiv, 1) := by decide +kernel
theorem dL_number_62 : decode cL_number 62 = .ok (.istore_n 3, 1) := by decide +kernel
theorem dL_number_63 : decode cL_number 63 = .ok (.iinc 4 (-1), 3) := by decide +kernel
theorem dL_number_66 : decode cL_number 66 = .ok (.goto (-56), 3) := by decide +kernel
theorem dL_number_69 : decode cL_number 69 = .ok (.iload_n 2, 1) := by decide +kernel
theorem dL_number_70 : decode cL_number 70 = .ok (.ireturn, 1) := by decide +kernel
theorem dL_common_0 : decode cL_common 0 = .ok (.iload_n 0, 1) := by decide +kernel
theorem dL_common_1 : decode cL_common 1 = .ok (.istore_n 2, 1) := by decide +kernel
theorem dL_common_2 : decode cL_common 2 = .ok (.iload_n 1, 1) := by decide +kernel
theorem dL_common_3 : decode cL_common 3 = .ok (.istore_n 3, 1) := by decide +kernel
theorem dL_common_4 : decode cL_common 4 = .ok (.iload_n 2, 1) := by decide +kernel
theorem dL_common_5 : decode cL_common 5 = .ok (.iload_n 3, 1) := by decide +kernel
theorem dL_common_6 : decode cL_common 6 = .ok (.if_icmp .eq 34, 3) := by decide +kernel
theorem dL_common_9 : decode cL_common 9 = .ok (.iload_n 2, 1) := by decide +kernel
theorem dL_common_10 : decode cL_common 10 = .ok (.iload_n 3, 1) := by decide +kernel
theorem dL_common_11 : decode cL_common 11 = .ok (.if_icmp .le 16, 3) := by decide +kernel
theorem dL_common_14 : decode cL_common 14 = .ok (.iload_n 2, 1) := by decide +kernel
theorem dL_common_15 : decode cL_common 15 = .ok (.iload_n 2, 1) := by decide +kernel
theorem dL_common_16 : decode cL_common 16 = .ok (.iconst 1, 1) := by decide +kernel
theorem dL_common_17 : decode cL_common 17 = .ok (.isub, 1) := by decide +kernel
theorem dL_common_18 : decode cL_common 18 = .ok (.iload_n 3, 1) := by decide +kernel
theorem dL_common_19 : decode cL_common 19 = .ok (.idiv, 1) := by decide +kernel
theorem dL_common_20 : decode cL_common 20 = .ok (.iload_n 3, 1) := by decide +kernel
theorem dL_common_21 : decode cL_common 21 = .ok (.imul, 1) := by decide +kernel
theorem dL_common_22 : decode cL_common 22 = .ok (.isub, 1) := by decide +kernel
theorem dL_common_23 : decode cL_common 23 = .ok (.istore_n 2, 1) := by decide +kernel
theorem dL_common_24 : decode cL_common 24 = .ok (.goto (-20), 3) := by decide +kernel
theorem dL_common_27 : decode cL_common 27 = .ok (.iload_n 3, 1) := by decide +kernel
theorem dL_common_28 : decode cL_common 28 = .ok (.iload_n 3, 1) := by decide +kernel
theorem dL_common_29 : decode cL_common 29 = .ok (.iconst 1, 1) := by decide +kernel
theorem dL_common_30 : decode cL_common 30 = .ok (.isub, 1) := by decide +kernel
theorem dL_common_31 : decode cL_common 31 = .ok (.iload_n 2, 1) := by decide +kernel
theorem dL_common_32 : decode cL_common 32 = .ok (.idiv, 1) := by decide +kernel
theorem dL_common_33 : decode cL_common 33 = .ok (.iload_n 2, 1) := by decide +kernel
theorem dL_common_34 : decode cL_common 34 = .ok (.imul, 1) := by decide +kernel
theorem dL_common_35 : decode cL_common 35 = .ok (.isub, 1) := by decide +kernel
theorem dL_common_36 : decode cL_common 36 = .ok (.istore_n 3, 1) := by decide +kernel
theorem dL_common_37 : decode cL_common 37 = .ok (.goto (-33), 3) := by decide +kernel
theorem dL_common_40 : decode cL_common 40 = .ok (.iload_n 2, 1) := by decide +kernel
theorem dL_common_41 : decode cL_common 41 = .ok (.ireturn, 1) := by decide +kernel
set_option maxRecDepth 20000 in
theorem ggL_isKin_L_common : GoodIn wsL_isKin wsL_common := goodIn_r _ [4] (by decide +kernel) (by decide +kernel)
set_option maxRecDepth 20000 in
theorem gL_isKin_L_common : GoodIn wsL_isKin (va_wsS RL 15 yL_common wsL_common) := goodIn_app (goodIn_of _ (by decide +kernel)) ggL_isKin_L_common
theorem dL_isKin_0 : decode cL_isKin 0 = .ok (.aload_n 1, 1) := by decide +kernel
theorem dL_isKin_1 : decode cL_isKin 1 = .ok (.iconst 1, 1) := by decide +kernel
theorem dL_isKin_2 : decode cL_isKin 2 = .ok (.iaload, 1) := by decide +kernel
theorem dL_isKin_3 : decode cL_isKin 3 = .ok (.ifCond .ne 24, 3) := by decide +kernel
theorem dL_isKin_6 : decode cL_isKin 6 = .ok (.aload_n 0, 1) := by decide +kernel
theorem dL_isKin_7 : decode cL_isKin 7 = .ok (.iload_n 2, 1) := by decide +kernel
theorem dL_isKin_8 : decode cL_isKin 8 = .ok (.iaload, 1) := by decide +kernel
theorem dL_isKin_9 : decode cL_isKin 9 = .ok (.aload_n 0, 1) := by decide +kernel
theorem dL_isKin_10 : decode cL_isKin 10 = .ok (.iload_n 3, 1) := by decide +kernel
theorem dL_isKin_11 : decode cL_isKin 11 = .ok (.iaload, 1) := by decide +kernel
theorem dL_isKin_12 : decode cL_isKin 12 = .ok (.invokestatic 15, 3) := by decide +kernel
theorem dL_isKin_15 : decode cL_isKin 15 = .ok (.iconst 1, 1) := by decide +kernel
theorem dL_isKin_16 : decode cL_isKin 16 = .ok (.if_icmp .le 7, 3) := by decide +kernel
theorem dL_isKin_19 : decode cL_isKin 19 = .ok (.iconst 1, 1) := by decide +kernel
theorem dL_isKin_20 : decode cL_isKin 20 = .ok (.goto 39, 3) := by decide +kernel
theorem dL_isKin_23 : decode cL_isKin 23 = .ok (.iconst 0, 1) := by decide +kernel
theorem dL_isKin_24 : decode cL_isKin 24 = .ok (.goto 35, 3) := by decide +kernel
theorem dL_isKin_27 : decode cL_isKin 27 = .ok (.aload_n 0, 1) := by decide +kernel
theorem dL_isKin_28 : decode cL_isKin 28 = .ok (.iload_n 3, 1) := by decide +kernel
theorem dL_isKin_29 : decode cL_isKin 29 = .ok (.iaload, 1) := by decide +kernel
theorem dL_isKin_30 : decode cL_isKin 30 = .ok (.aload_n 0, 1) := by decide +kernel
theorem dL_isKin_31 : decode cL_isKin 31 = .ok (.iload_n 2, 1) := by decide +kernel
theorem dL_isKin_32 : decode cL_isKin 32 = .ok (.iaload, 1) := by decide +kernel
theorem dL_isKin_33 : decode cL_isKin 33 = .ok (.irem, 1) := by decide +kernel
theorem dL_isKin_34 : decode cL_isKin 34 = .ok (.ifCond .eq 20, 3) := by decide +kernel
theorem dL_isKin_37 : decode cL_isKin 37 = .ok (.aload_n 1, 1) := by decide +kernel
theorem dL_isKin_38 : decode cL_isKin 38 = .ok (.iconst 1, 1) := by decide +kernel
theorem dL_isKin_39 : decode cL_isKin 39 = .ok (.iaload, 1) := by decide +kernel
theorem dL_isKin_40 : decode cL_isKin 40 = .ok (.iconst 1, 1) := by decide +kernel
theorem dL_isKin_41 : decode cL_isKin 41 = .ok (.if_icmp .ne 17, 3) := by decide +kernel
theorem dL_isKin_44 : decode cL_isKin 44 = .ok (.aload_n 0, 1) := by decide +kernel
theorem dL_isKin_45 : decode cL_isKin 45 = .ok (.iload_n 2, 1) := by decide +kernel
theorem dL_isKin_46 : decode cL_isKin 46 = .ok (.iaload, 1) := by decide +kernel
theorem dL_isKin_47 : decode cL_isKin 47 = .ok (.aload_n 0, 1) := by decide +kernel
theorem dL_isKin_48 : decode cL_isKin 48 = .ok (.iload_n 3, 1) := by decide +kernel
theorem dL_isKin_49 : decode cL_isKin 49 = .ok (.iaload, 1) := by decide +kernel
theorem dL_isKin_50 : decode cL_isKin 50 = .ok (.irem, 1) := by decide +kernel
theorem dL_isKin_51 : decode cL_isKin 51 = .ok (.ifCond .ne 7, 3) := by decide +kernel
theorem dL_isKin_54 : decode cL_isKin 54 = .ok (.iconst 1, 1) := by decide +kernel
theorem dL_isKin_55 : decode cL_isKin 55 = .ok (.goto 4, 3) := by decide +kernel
theorem dL_isKin_58 : decode cL_isKin 58 = .ok (.iconst 0, 1) := by decide +kernel
theorem dL_isKin_59 : decode cL_isKin 59 = .ok (.ireturn, 1) := by decide +kernel
set_option maxRecDepth 20000 in
theorem ggL_areKin_L_isKin : GoodIn wsL_areKin wsL_isKin := goodIn_r _ [4, 5, 6, 3, 7] (by decide +kernel) (by decide +kernel)
set_option maxRecDepth 20000 in
theorem gL_areKin_L_isKin : GoodIn wsL_areKin (va_wsS RL 19 yL_isKin wsL_isKin) := goodIn_app (goodIn_of _ (by decide +kernel)) ggL_areKin_L_isKin
theorem dL_areKin_0 : decode cL_areKin 0 = .ok (.iload_n 2, 1) := by decide +kernel
theorem dL_areKin_1 : decode cL_areKin 1 = .ok (.iload_n 3, 1) := by decide +kernel
theorem dL_areKin_2 : decode cL_areKin 2 = .ok (.if_icmp .eq 35, 3) := by decide +kernel
theorem dL_areKin_5 : decode cL_areKin 5 = .ok (.aload_n 0, 1) := by decide +kernel
theorem dL_areKin_6 : decode cL_areKin 6 = .ok (.aload_n 1, 1) := by decide +kernel
theorem dL_areKin_7 : decode cL_areKin 7 = .ok (.iload_n 2, 1) := by decide +kernel
theorem dL_areKin_8 : decode cL_areKin 8 = .ok (.iload_n 3, 1) := by decide +kernel
theorem dL_areKin_9 : decode cL_areKin 9 = .ok (.if_icmp .ge 7, 3) := by decide +kernel
theorem dL_areKin_12 : decode cL_areKin 12 = .ok (.iload_n 2, 1) := by decide +kernel
theorem dL_areKin_13 : decode cL_areKin 13 = .ok (.goto 4, 3) := by decide +kernel
theorem dL_areKin_16 : decode cL_areKin 16 = .ok (.iload_n 3, 1) := by decide +kernel
theorem dL_areKin_17 : decode cL_areKin 17 = .ok (.iload_n 2, 1) := by decide +kernel
theorem dL_areKin_18 : decode cL_areKin 18 = .ok (.iload_n 3, 1) := by decide +kernel
theorem dL_areKin_19 : decode cL_areKin 19 = .ok (.if_icmp .ge 7, 3) := by decide +kernel
theorem dL_areKin_22 : decode cL_areKin 22 = .ok (.iload_n 3, 1) := by decide +kernel
theorem dL_areKin_23 : decode cL_areKin 23 = .ok (.goto 4, 3) := by decide +kernel
theorem dL_areKin_26 : decode cL_areKin 26 = .ok (.iload_n 2, 1) := by decide +kernel
theorem dL_areKin_27 : decode cL_areKin 27 = .ok (.invokestatic 19, 3) := by decide +kernel
theorem dL_areKin_30 : decode cL_areKin 30 = .ok (.ifCond .eq 7, 3) := by decide +kernel
theorem dL_areKin_33 : decode cL_areKin 33 = .ok (.iconst 1, 1) := by decide +kernel
theorem dL_areKin_34 : decode cL_areKin 34 = .ok (.goto 4, 3) := by decide +kernel
theorem dL_areKin_37 : decode cL_areKin 37 = .ok (.iconst 0, 1) := by decide +kernel
theorem dL_areKin_38 : decode cL_areKin 38 = .ok (.ireturn, 1) := by decide +kernel
theorem dL_out_0 : decode cL_out 0 = .ok (.aload_n 1, 1) := by decide +kernel
theorem dL_out_1 : decode cL_out 1 = .ok (.iconst 0, 1) := by decide +kernel
theorem dL_out_2 : decode cL_out 2 = .ok (.dup2, 1) := by decide +kernel
theorem dL_out_3 : decode cL_out 3 = .ok (.iaload, 1) := by decide +kernel
theorem dL_out_4 : decode cL_out 4 = .ok (.iconst 1, 1) := by decide +kernel
theorem dL_out_5 : decode cL_out 5 = .ok (.isub, 1) := by decide +kernel
theorem dL_out_6 : decode cL_out 6 = .ok (.iastore, 1) := by decide +kernel
theorem dL_out_7 : decode cL_out 7 = .ok (.iload_n 2, 1) := by decide +kernel
theorem dL_out_8 : decode cL_out 8 = .ok (.istore_n 3, 1) := by decide +kernel
theorem dL_out_9 : decode cL_out 9 = .ok (.iload_n 3, 1) := by decide +kernel
theorem dL_out_10 : decode cL_out 10 = .ok (.aload_n 1, 1) := by decide +kernel
theorem dL_out_11 : decode cL_out 11 = .ok (.iconst 0, 1) := by decide +kernel
theorem dL_out_12 : decode cL_out 12 = .ok (.iaload, 1) := by decide +kernel
theorem dL_out_13 : decode cL_out 13 = .ok (.if_icmp .ge 17, 3) := by decide +kernel
theorem dL_out_16 : decode cL_out 16 = .ok (.aload_n 0, 1) := by decide +kernel
theorem dL_out_17 : decode cL_out 17 = .ok (.iload_n 3, 1) := by decide +kernel
theorem dL_out_18 : decode cL_out 18 = .ok (.aload_n 0, 1) := by decide +kernel
theorem dL_out_19 : decode cL_out 19 = .ok (.iload_n 3, 1) := by decide +kernel
theorem dL_out_20 : decode cL_out 20 = .ok (.iconst 1, 1) := by decide +kernel
theorem dL_out_21 : decode cL_out 21 = .ok (.iadd, 1) := by decide +kernel
theorem dL_out_22 : decode cL_out 22 = .ok (.iaload, 1) := by decide +kernel
theorem dL_out_23 : decode cL_out 23 = .ok (.iastore, 1) := by decide +kernel
theorem dL_out_24 : decode cL_out 24 = .ok (.iinc 3 1, 3) := by decide +kernel
theorem dL_out_27 : decode cL_out 27 = .ok (.goto (-18), 3) := by decide +kernel
theorem dL_out_30 : decode cL_out 30 = .ok (.return_, 1) := by decide +kernel
theorem dL_put_0 : decode cL_put 0 = .ok (.aload_n 1, 1) := by decide +kernel
theorem dL_put_1 : decode cL_put 1 = .ok (.iconst 0, 1) := by decide +kernel
theorem dL_put_2 : decode cL_put 2 = .ok (.iaload, 1) := by decide +kernel
theorem dL_put_3 : decode cL_put 3 = .ok (.istore 4, 2) := by decide +kernel
theorem dL_put_5 : decode cL_put 5 = .ok (.iload 4, 2) := by decide +kernel
theorem dL_put_7 : decode cL_put 7 = .ok (.iload_n 2, 1) := by decide +kernel
theorem dL_put_8 : decode cL_put 8 = .ok (.if_icmp .le 19, 3) := by decide +kernel
theorem dL_put_11 : decode cL_put 11 = .ok (.aload_n 0, 1) := by decide +kernel
theorem dL_put_12 : decode cL_put 12 = .ok (.iload 4, 2) := by decide +kernel
theorem dL_put_14 : decode cL_put 14 = .ok (.aload_n 0, 1) := by decide +kernel
theorem dL_put_15 : decode cL_put 15 = .ok (.iload 4, 2) := by decide +kernel
theorem dL_put_17 : decode cL_put 17 = .ok (.iconst 1, 1) := by decide +kernel
theorem dL_put_18 : decode cL_put 18 = .ok (.isub, 1) := by decide +kernel
theorem dL_put_19 : decode cL_put 19 = .ok (.iaload, 1) := by decide +kernel
theorem dL_put_20 : decode cL_put 20 = .ok (.iastore, 1) := by decide +kernel
theorem dL_put_21 : decode cL_put 21 = .ok (.iinc 4 (-1), 3) := by decide +kernel
theorem dL_put_24 : decode cL_put 24 = .ok (.goto (-19), 3) := by decide +kernel
theorem dL_put_27 : decode cL_put 27 = .ok (.aload_n 0, 1) := by decide +kernel
theorem dL_put_28 : decode cL_put 28 = .ok (.iload_n 2, 1) := by decide +kernel
theorem dL_put_29 : decode cL_put 29 = .ok (.iload_n 3, 1) := by decide +kernel
theorem dL_put_30 : decode cL_put 30 = .ok (.iastore, 1) := by decide +kernel
theorem dL_put_31 : decode cL_put 31 = .ok (.aload_n 1, 1) := by decide +kernel
theorem dL_put_32 : decode cL_put 32 = .ok (.iconst 0, 1) := by decide +kernel
theorem dL_put_33 : decode cL_put 33 = .ok (.dup2, 1) := by decide +kernel
theorem dL_put_34 : decode cL_put 34 = .ok (.iaload, 1) := by decide +kernel
theorem dL_put_35 : decode cL_put 35 = .ok (.iconst 1, 1) := by decide +kernel
theorem dL_put_36 : decode cL_put 36 = .ok (.iadd, 1) := by decide +kernel
theorem dL_put_37 : decode cL_put 37 = .ok (.iastore, 1) := by decide +kernel
theorem dL_put_38 : decode cL_put 38 = .ok (.return_, 1) := by decide +kernel
set_option maxRecDepth 20000 in
theorem ggL_account_L_exponent : GoodIn wsL_account wsL_exponent := goodIn_r _ [4] (by decide +kernel) (by decide +kernel)
set_option maxRecDepth 20000 in
theorem gL_account_L_exponent : GoodIn wsL_account (va_wsS RL 23 yL_exponent wsL_exponent) := goodIn_app (goodIn_of _ (by decide +kernel)) ggL_account_L_exponent
theorem dL_account_0 : decode cL_account 0 = .ok (.iconst 0, 1) := by decide +kernel
theorem dL_account_1 : decode cL_account 1 = .ok (.istore 4, 2) := by decide +kernel
theorem dL_account_3 : decode cL_account 3 = .ok (.iload 4, 2) := by decide +kernel
theorem dL_account_5 : decode cL_account 5 = .ok (.bipush 25, 2) := by decide +kernel
theorem dL_account_7 : decode cL_account 7 = .ok (.if_icmp .ge 26, 3) := by decide +kernel
theorem dL_account_10 : decode cL_account 10 = .ok (.aload_n 0, 1) := by decide +kernel
theorem dL_account_11 : decode cL_account 11 = .ok (.iload 4, 2) := by decide +kernel
theorem dL_account_13 : decode cL_account 13 = .ok (.dup2, 1) := by decide +kernel
theorem dL_account_14 : decode cL_account 14 = .ok (.iaload, 1) := by decide +kernel
theorem dL_account_15 : decode cL_account 15 = .ok (.iload_n 3, 1) := by decide +kernel
theorem dL_account_16 : decode cL_account 16 = .ok (.iload_n 2, 1) := by decide +kernel
theorem dL_account_17 : decode cL_account 17 = .ok (.aload_n 1, 1) := by decide +kernel
theorem dL_account_18 : decode cL_account 18 = .ok (.iload 4, 2) := by decide +kernel
theorem dL_account_20 : decode cL_account 20 = .ok (.iaload, 1) := by decide +kernel
theorem dL_account_21 : decode cL_account 21 = .ok (.invokestatic 23, 3) := by decide +kernel
theorem dL_account_24 : decode cL_account 24 = .ok (.imul, 1) := by decide +kernel
theorem dL_account_25 : decode cL_account 25 = .ok (.iadd, 1) := by decide +kernel
theorem dL_account_26 : decode cL_account 26 = .ok (.iastore, 1) := by decide +kernel
theorem dL_account_27 : decode cL_account 27 = .ok (.iinc 4 1, 3) := by decide +kernel
theorem dL_account_30 : decode cL_account 30 = .ok (.goto (-27), 3) := by decide +kernel
theorem dL_account_33 : decode cL_account 33 = .ok (.return_, 1) := by decide +kernel
set_option maxRecDepth 20000 in
theorem ggL_broke_L_out : GoodIn wsL_broke wsL_out := goodIn_r _ [4] (by decide +kernel) (by decide +kernel)
set_option maxRecDepth 20000 in
theorem gL_broke_L_out : GoodIn wsL_broke (va_wsS RL 26 yL_out wsL_out) := goodIn_app (goodIn_of _ (by decide +kernel)) ggL_broke_L_out
theorem dL_broke_0 : decode cL_broke 0 = .ok (.aload_n 0, 1) := by decide +kernel
theorem dL_broke_1 : decode cL_broke 1 = .ok (.iload_n 2, 1) := by decide +kernel
theorem dL_broke_2 : decode cL_broke 2 = .ok (.iaload, 1) := by decide +kernel
theorem dL_broke_3 : decode cL_broke 3 = .ok (.iconst 1, 1) := by decide +kernel
theorem dL_broke_4 : decode cL_broke 4 = .ok (.if_icmp .ne 16, 3) := by decide +kernel
theorem dL_broke_7 : decode cL_broke 7 = .ok (.aload_n 0, 1) := by decide +kernel
theorem dL_broke_8 : decode cL_broke 8 = .ok (.aload_n 1, 1) := by decide +kernel
theorem dL_broke_9 : decode cL_broke 9 = .ok (.iload_n 2, 1) := by decide +kernel
theorem dL_broke_10 : decode cL_broke 10 = .ok (.invokestatic 26, 3) := by decide +kernel
theorem dL_broke_13 : decode cL_broke 13 = .ok (.aload_n 1, 1) := by decide +kernel
theorem dL_broke_14 : decode cL_broke 14 = .ok (.iconst 3, 1) := by decide +kernel
theorem dL_broke_15 : decode cL_broke 15 = .ok (.dup2, 1) := by decide +kernel
theorem dL_broke_16 : decode cL_broke 16 = .ok (.iaload, 1) := by decide +kernel
theorem dL_broke_17 : decode cL_broke 17 = .ok (.iconst 1, 1) := by decide +kernel
theorem dL_broke_18 : decode cL_broke 18 = .ok (.iadd, 1) := by decide +kernel
theorem dL_broke_19 : decode cL_broke 19 = .ok (.iastore, 1) := by decide +kernel
theorem dL_broke_20 : decode cL_broke 20 = .ok (.return_, 1) := by decide +kernel
set_option maxRecDepth 20000 in
theorem ggL_share_L_common : GoodIn wsL_share wsL_common := goodIn_r _ [4] (by decide +kernel) (by decide +kernel)
set_option maxRecDepth 20000 in
theorem gL_share_L_common : GoodIn wsL_share (va_wsS RL 15 yL_common wsL_common) := goodIn_app (goodIn_of _ (by decide +kernel)) ggL_share_L_common
theorem dL_share_0 : decode cL_share 0 = .ok (.iload_n 2, 1) := by decide +kernel
theorem dL_share_1 : decode cL_share 1 = .ok (.aload_n 1, 1) := by decide +kernel
theorem dL_share_2 : decode cL_share 2 = .ok (.iconst 0, 1) := by decide +kernel
theorem dL_share_3 : decode cL_share 3 = .ok (.iaload, 1) := by decide +kernel
theorem dL_share_4 : decode cL_share 4 = .ok (.iconst 2, 1) := by decide +kernel
theorem dL_share_5 : decode cL_share 5 = .ok (.isub, 1) := by decide +kernel
theorem dL_share_6 : decode cL_share 6 = .ok (.if_icmp .le 5, 3) := by decide +kernel
theorem dL_share_9 : decode cL_share 9 = .ok (.iconst (-1), 1) := by decide +kernel
theorem dL_share_10 : decode cL_share 10 = .ok (.ireturn, 1) := by decide +kernel
theorem dL_share_11 : decode cL_share 11 = .ok (.aload_n 0, 1) := by decide +kernel
theorem dL_share_12 : decode cL_share 12 = .ok (.iload_n 2, 1) := by decide +kernel
theorem dL_share_13 : decode cL_share 13 = .ok (.iaload, 1) := by decide +kernel
theorem dL_share_14 : decode cL_share 14 = .ok (.aload_n 0, 1) := by decide +kernel
theorem dL_share_15 : decode cL_share 15 = .ok (.iload_n 2, 1) := by decide +kernel
theorem dL_share_16 : decode cL_share 16 = .ok (.iconst 1, 1) := by decide +kernel
theorem dL_share_17 : decode cL_share 17 = .ok (.iadd, 1) := by decide +kernel
theorem dL_share_18 : decode cL_share 18 = .ok (.iaload, 1) := by decide +kernel
theorem dL_share_19 : decode cL_share 19 = .ok (.invokestatic 15, 3) := by decide +kernel
theorem dL_share_22 : decode cL_share 22 = .ok (.istore_n 3, 1) := by decide +kernel
theorem dL_share_23 : decode cL_share 23 = .ok (.aload_n 0, 1) := by decide +kernel
theorem dL_share_24 : decode cL_share 24 = .ok (.iload_n 2, 1) := by decide +kernel
theorem dL_share_25 : decode cL_share 25 = .ok (.iaload, 1) := by decide +kernel
theorem dL_share_26 : decode cL_share 26 = .ok (.iload_n 3, 1) := by decide +kernel
theorem dL_share_27 : decode cL_share 27 = .ok (.idiv, 1) := by decide +kernel
theorem dL_share_28 : decode cL_share 28 = .ok (.aload_n 0, 1) := by decide +kernel
theorem dL_share_29 : decode cL_share 29 = .ok (.iload_n 2, 1) := by decide +kernel
theorem dL_share_30 : decode cL_share 30 = .ok (.iconst 1, 1) := by decide +kernel
theorem dL_share_31 : decode cL_share 31 = .ok (.iadd, 1) := by decide +kernel
theorem dL_share_32 : decode cL_share 32 = .ok (.iaload, 1) := by decide +kernel
theorem dL_share_33 : decode cL_share 33 = .ok (.imul, 1) := by decide +kernel
theorem dL_share_34 : decode cL_share 34 = .ok (.istore 4, 2) := by decide +kernel
theorem dL_share_36 : decode cL_share 36 = .ok (.iload 4, 2) := by decide +kernel
theorem dL_share_38 : decode cL_share 38 = .ok (.sipush 9999, 3) := by decide +kernel
theorem dL_share_41 : decode cL_share 41 = .ok (.if_icmp .le 6, 3) := by decide +kernel
theorem dL_share_44 : decode cL_share 44 = .ok (.bipush (-3), 2) := by decide +kernel
theorem dL_share_46 : decode cL_share 46 = .ok (.ireturn, 1) := by decide +kernel
theorem dL_share_47 : decode cL_share 47 = .ok (.aload_n 0, 1) := by decide +kernel
theorem dL_share_48 : decode cL_share 48 = .ok (.iload_n 2, 1) := by decide +kernel
theorem dL_share_49 : decode cL_share 49 = .ok (.iload_n 3, 1) := by decide +kernel
theorem dL_share_50 : decode cL_share 50 = .ok (.iastore, 1) := by decide +kernel
theorem dL_share_51 : decode cL_share 51 = .ok (.aload_n 0, 1) := by decide +kernel
theorem dL_share_52 : decode cL_share 52 = .ok (.iload_n 2, 1) := by decide +kernel
theorem dL_share_53 : decode cL_share 53 = .ok (.iconst 1, 1) := by decide +kernel
theorem dL_share_54 : decode cL_share 54 = .ok (.iadd, 1) := by decide +kernel
theorem dL_share_55 : decode cL_share 55 = .ok (.iload 4, 2) := by decide +kernel
theorem dL_share_57 : decode cL_share 57 = .ok (.iastore, 1) := by decide +kernel
theorem dL_share_58 : decode cL_share 58 = .ok (.iload_n 3, 1) := by decide +kernel
theorem dL_share_59 : decode cL_share 59 = .ok (.ireturn, 1) := by decide +kernel
set_option maxRecDepth 20000 in
theorem ggL_divide_L_account : GoodIn wsL_divide wsL_account := goodIn_r _ [4, 5, 6, 3, 7] (by decide +kernel) (by decide +kernel)
set_option maxRecDepth 20000 in
theorem gL_divide_L_account : GoodIn wsL_divide (va_wsS RL 30 yL_account wsL_account) := goodIn_app (goodIn_of _ (by decide +kernel)) ggL_divide_L_account
set_option maxRecDepth 20000 in
theorem ggL_divide_L_broke : GoodIn wsL_divide wsL_broke := goodIn_r _ [10, 11, 12, 3, 13] (by decide +kernel) (by decide +kernel)
set_option maxRecDepth 20000 in
theorem gL_divide_L_broke : GoodIn wsL_divide (va_wsS RL 34 yL_broke wsL_broke) := goodIn_app (goodIn_of _ (by decide +kernel)) ggL_divide_L_broke
theorem dL_divide_0 : decode cL_divide 0 = .ok (.iload 4, 2) := by decide +kernel
theorem dL_divide_2 : decode cL_divide 2 = .ok (.aload_n 1, 1) := by decide +kernel
theorem dL_divide_3 : decode cL_divide 3 = .ok (.iconst 0, 1) := by decide +kernel
theorem dL_divide_4 : decode cL_divide 4 = .ok (.iaload, 1) := by decide +kernel
theorem dL_divide_5 : decode cL_divide 5 = .ok (.iconst 2, 1) := by decide +kernel
theorem dL_divide_6 : decode cL_divide 6 = .ok (.isub, 1) := by decide +kernel
theorem dL_divide_7 : decode cL_divide 7 = .ok (.if_icmp .le 5, 3) := by decide +kernel
theorem dL_divide_10 : decode cL_divide 10 = .ok (.iconst (-1), 1) := by decide +kernel
theorem dL_divide_11 : decode cL_divide 11 = .ok (.ireturn, 1) := by decide +kernel
theorem dL_divide_12 : decode cL_divide 12 = .ok (.aload_n 0, 1) := by decide +kernel
theorem dL_divide_13 : decode cL_divide 13 = .ok (.iload 4, 2) := by decide +kernel
theorem dL_divide_15 : decode cL_divide 15 = .ok (.iconst 1, 1) := by decide +kernel
theorem dL_divide_16 : decode cL_divide 16 = .ok (.iadd, 1) := by decide +kernel
theorem dL_divide_17 : decode cL_divide 17 = .ok (.iaload, 1) := by decide +kernel
theorem dL_divide_18 : decode cL_divide 18 = .ok (.aload_n 0, 1) := by decide +kernel
theorem dL_divide_19 : decode cL_divide 19 = .ok (.iload 4, 2) := by decide +kernel
theorem dL_divide_21 : decode cL_divide 21 = .ok (.iaload, 1) := by decide +kernel
theorem dL_divide_22 : decode cL_divide 22 = .ok (.irem, 1) := by decide +kernel
theorem dL_divide_23 : decode cL_divide 23 = .ok (.ifCond .le 6, 3) := by decide +kernel
theorem dL_divide_26 : decode cL_divide 26 = .ok (.bipush (-2), 2) := by decide +kernel
theorem dL_divide_28 : decode cL_divide 28 = .ok (.ireturn, 1) := by decide +kernel
theorem dL_divide_29 : decode cL_divide 29 = .ok (.aload_n 0, 1) := by decide +kernel
theorem dL_divide_30 : decode cL_divide 30 = .ok (.iload 4, 2) := by decide +kernel
theorem dL_divide_32 : decode cL_divide 32 = .ok (.iconst 1, 1) := by decide +kernel
theorem dL_divide_33 : decode cL_divide 33 = .ok (.iadd, 1) := by decide +kernel
theorem dL_divide_34 : decode cL_divide 34 = .ok (.iaload, 1) := by decide +kernel
theorem dL_divide_35 : decode cL_divide 35 = .ok (.aload_n 0, 1) := by decide +kernel
theorem dL_divide_36 : decode cL_divide 36 = .ok (.iload 4, 2) := by decide +kernel
theorem dL_divide_38 : decode cL_divide 38 = .ok (.iaload, 1) := by decide +kernel
theorem dL_divide_39 : decode cL_divide 39 = .ok (.idiv, 1) := by decide +kernel
theorem dL_divide_40 : decode cL_divide 40 = .ok (.istore 5, 2) := by decide +kernel
theorem dL_divide_42 : decode cL_divide 42 = .ok (.aload_n 2, 1) := by decide +kernel
theorem dL_divide_43 : decode cL_divide 43 = .ok (.aload_n 3, 1) := by decide +kernel
theorem dL_divide_44 : decode cL_divide 44 = .ok (.aload_n 0, 1) := by decide +kernel
theorem dL_divide_45 : decode cL_divide 45 = .ok (.iload 4, 2) := by decide +kernel
theorem dL_divide_47 : decode cL_divide 47 = .ok (.iaload, 1) := by decide +kernel
theorem dL_divide_48 : decode cL_divide 48 = .ok (.iconst 1, 1) := by decide +kernel
theorem dL_divide_49 : decode cL_divide 49 = .ok (.invokestatic 30, 3) := by decide +kernel
theorem dL_divide_52 : decode cL_divide 52 = .ok (.aload_n 0, 1) := by decide +kernel
theorem dL_divide_53 : decode cL_divide 53 = .ok (.iload 4, 2) := by decide +kernel
theorem dL_divide_55 : decode cL_divide 55 = .ok (.iconst 1, 1) := by decide +kernel
theorem dL_divide_56 : decode cL_divide 56 = .ok (.iadd, 1) := by decide +kernel
theorem dL_divide_57 : decode cL_divide 57 = .ok (.iload 5, 2) := by decide +kernel
theorem dL_divide_59 : decode cL_divide 59 = .ok (.iastore, 1) := by decide +kernel
theorem dL_divide_60 : decode cL_divide 60 = .ok (.aload_n 0, 1) := by decide +kernel
theorem dL_divide_61 : decode cL_divide 61 = .ok (.aload_n 1, 1) := by decide +kernel
theorem dL_divide_62 : decode cL_divide 62 = .ok (.iload 4, 2) := by decide +kernel
theorem dL_divide_64 : decode cL_divide 64 = .ok (.iconst 1, 1) := by decide +kernel
theorem dL_divide_65 : decode cL_divide 65 = .ok (.iadd, 1) := by decide +kernel
theorem dL_divide_66 : decode cL_divide 66 = .ok (.invokestatic 34, 3) := by decide +kernel
theorem dL_divide_69 : decode cL_divide 69 = .ok (.iload 5, 2) := by decide +kernel
theorem dL_divide_71 : decode cL_divide 71 = .ok (.ireturn, 1) := by decide +kernel
set_option maxRecDepth 20000 in
theorem ggL_strike_L_broke : GoodIn wsL_strike wsL_broke := goodIn_r _ [4, 5, 6, 3, 7] (by decide +kernel) (by decide +kernel)
set_option maxRecDepth 20000 in
theorem gL_strike_L_broke : GoodIn wsL_strike (va_wsS RL 34 yL_broke wsL_broke) := goodIn_app (goodIn_of _ (by decide +kernel)) ggL_strike_L_broke
theorem dL_strike_0 : decode cL_strike 0 = .ok (.iload 4, 2) := by decide +kernel
theorem dL_strike_2 : decode cL_strike 2 = .ok (.aload_n 1, 1) := by decide +kernel
theorem dL_strike_3 : decode cL_strike 3 = .ok (.iconst 0, 1) := by decide +kernel
theorem dL_strike_4 : decode cL_strike 4 = .ok (.iaload, 1) := by decide +kernel
theorem dL_strike_5 : decode cL_strike 5 = .ok (.if_icmp .lt 5, 3) := by decide +kernel
theorem dL_strike_8 : decode cL_strike 8 = .ok (.iconst (-1), 1) := by decide +kernel
theorem dL_strike_9 : decode cL_strike 9 = .ok (.ireturn, 1) := by decide +kernel
theorem dL_strike_10 : decode cL_strike 10 = .ok (.aload_n 0, 1) := by decide +kernel
theorem dL_strike_11 : decode cL_strike 11 = .ok (.iload 4, 2) := by decide +kernel
theorem dL_strike_13 : decode cL_strike 13 = .ok (.iaload, 1) := by decide +kernel
theorem dL_strike_14 : decode cL_strike 14 = .ok (.aload_n 3, 1) := by decide +kernel
theorem dL_strike_15 : decode cL_strike 15 = .ok (.iload 5, 2) := by decide +kernel
theorem dL_strike_17 : decode cL_strike 17 = .ok (.iaload, 1) := by decide +kernel
theorem dL_strike_18 : decode cL_strike 18 = .ok (.irem, 1) := by decide +kernel
theorem dL_strike_19 : decode cL_strike 19 = .ok (.ifCond .le 6, 3) := by decide +kernel
theorem dL_strike_22 : decode cL_strike 22 = .ok (.bipush (-2), 2) := by decide +kernel
theorem dL_strike_24 : decode cL_strike 24 = .ok (.ireturn, 1) := by decide +kernel
theorem dL_strike_25 : decode cL_strike 25 = .ok (.aload_n 0, 1) := by decide +kernel
theorem dL_strike_26 : decode cL_strike 26 = .ok (.iload 4, 2) := by decide +kernel
theorem dL_strike_28 : decode cL_strike 28 = .ok (.iaload, 1) := by decide +kernel
theorem dL_strike_29 : decode cL_strike 29 = .ok (.aload_n 3, 1) := by decide +kernel
theorem dL_strike_30 : decode cL_strike 30 = .ok (.iload 5, 2) := by decide +kernel
theorem dL_strike_32 : decode cL_strike 32 = .ok (.iaload, 1) := by decide +kernel
theorem dL_strike_33 : decode cL_strike 33 = .ok (.idiv, 1) := by decide +kernel
theorem dL_strike_34 : decode cL_strike 34 = .ok (.istore 6, 2) := by decide +kernel
theorem dL_strike_36 : decode cL_strike 36 = .ok (.aload_n 0, 1) := by decide +kernel
theorem dL_strike_37 : decode cL_strike 37 = .ok (.iload 4, 2) := by decide +kernel
theorem dL_strike_39 : decode cL_strike 39 = .ok (.iload 6, 2) := by decide +kernel
theorem dL_strike_41 : decode cL_strike 41 = .ok (.iastore, 1) := by decide +kernel
theorem dL_strike_42 : decode cL_strike 42 = .ok (.aload_n 2, 1) := by decide +kernel
theorem dL_strike_43 : decode cL_strike 43 = .ok (.iload 5, 2) := by decide +kernel
theorem dL_strike_45 : decode cL_strike 45 = .ok (.dup2, 1) := by decide +kernel
theorem dL_strike_46 : decode cL_strike 46 = .ok (.iaload, 1) := by decide +kernel
theorem dL_strike_47 : decode cL_strike 47 = .ok (.iconst 1, 1) := by decide +kernel
theorem dL_strike_48 : decode cL_strike 48 = .ok (.iadd, 1) := by decide +kernel
theorem dL_strike_49 : decode cL_strike 49 = .ok (.iastore, 1) := by decide +kernel
theorem dL_strike_50 : decode cL_strike 50 = .ok (.aload_n 0, 1) := by decide +kernel
theorem dL_strike_51 : decode cL_strike 51 = .ok (.aload_n 1, 1) := by decide +kernel
theorem dL_strike_52 : decode cL_strike 52 = .ok (.iload 4, 2) := by decide +kernel
theorem dL_strike_54 : decode cL_strike 54 = .ok (.invokestatic 34, 3) := by decide +kernel
theorem dL_strike_57 : decode cL_strike 57 = .ok (.iload 6, 2) := by decide +kernel
theorem dL_strike_59 : decode cL_strike 59 = .ok (.ireturn, 1) := by decide +kernel
theorem dL_isSettled_0 : decode cL_isSettled 0 = .ok (.iconst 1, 1) := by decide +kernel
theorem dL_isSettled_1 : decode cL_isSettled 1 = .ok (.istore_n 2, 1) := by decide +kernel
theorem dL_isSettled_2 : decode cL_isSettled 2 = .ok (.iconst 1, 1) := by decide +kernel
theorem dL_isSettled_3 : decode cL_isSettled 3 = .ok (.istore_n 3, 1) := by decide +kernel
theorem dL_isSettled_4 : decode cL_isSettled 4 = .ok (.iload_n 3, 1) := by decide +kernel
theorem dL_isSettled_5 : decode cL_isSettled 5 = .ok (.aload_n 1, 1) := by decide +kernel
theorem dL_isSettled_6 : decode cL_isSettled 6 = .ok (.iconst 0, 1) := by decide +kernel
theorem dL_isSettled_7 : decode cL_isSettled 7 = .ok (.iaload, 1) := by decide +kernel
theorem dL_isSettled_8 : decode cL_isSettled 8 = .ok (.if_icmp .ge 31, 3) := by decide +kernel
theorem dL_isSettled_11 : decode cL_isSettled 11 = .ok (.iload_n 2, 1) := by decide +kernel
theorem dL_isSettled_12 : decode cL_isSettled 12 = .ok (.ifCond .eq 19, 3) := by decide +kernel
theorem dL_isSettled_15 : decode cL_isSettled 15 = .ok (.aload_n 0, 1) := by decide +kernel
theorem dL_isSettled_16 : decode cL_isSettled 16 = .ok (.iload_n 3, 1) := by decide +kernel
theorem dL_isSettled_17 : decode cL_isSettled 17 = .ok (.iaload, 1) := by decide +kernel
theorem dL_isSettled_18 : decode cL_isSettled 18 = .ok (.aload_n 0, 1) := by decide +kernel
theorem dL_isSettled_19 : decode cL_isSettled 19 = .ok (.iload_n 3, 1) := by decide +kernel
theorem dL_isSettled_20 : decode cL_isSettled 20 = .ok (.iconst 1, 1) := by decide +kernel
theorem dL_isSettled_21 : decode cL_isSettled 21 = .ok (.isub, 1) := by decide +kernel
theorem dL_isSettled_22 : decode cL_isSettled 22 = .ok (.iaload, 1) := by decide +kernel
theorem dL_isSettled_23 : decode cL_isSettled 23 = .ok (.irem, 1) := by decide +kernel
theorem dL_isSettled_24 : decode cL_isSettled 24 = .ok (.ifCond .ne 7, 3) := by decide +kernel
theorem dL_isSettled_27 : decode cL_isSettled 27 = .ok (.iconst 1, 1) := by decide +kernel
theorem dL_isSettled_28 : decode cL_isSettled 28 = .ok (.goto 4, 3) := by decide +kernel
theorem dL_isSettled_31 : decode cL_isSettled 31 = .ok (.iconst 0, 1) := by decide +kernel
theorem dL_isSettled_32 : decode cL_isSettled 32 = .ok (.istore_n 2, 1) := by decide +kernel
theorem dL_isSettled_33 : decode cL_isSettled 33 = .ok (.iinc 3 1, 3) := by decide +kernel
theorem dL_isSettled_36 : decode cL_isSettled 36 = .ok (.goto (-32), 3) := by decide +kernel
theorem dL_isSettled_39 : decode cL_isSettled 39 = .ok (.iload_n 2, 1) := by decide +kernel
theorem dL_isSettled_40 : decode cL_isSettled 40 = .ok (.ireturn, 1) := by decide +kernel
set_option maxRecDepth 20000 in
theorem ggL_settle_L_isSettled : GoodIn wsL_settle wsL_isSettled := goodIn_r _ [5] (by decide +kernel) (by decide +kernel)
set_option maxRecDepth 20000 in
theorem gL_settle_L_isSettled : GoodIn wsL_settle (va_wsS RL 37 yL_isSettled wsL_isSettled) := goodIn_app (goodIn_of _ (by decide +kernel)) ggL_settle_L_isSettled
set_option maxRecDepth 20000 in
theorem ggL_settle_L_share : GoodIn wsL_settle wsL_share := goodIn_r _ [8, 9, 10, 4, 11] (by decide +kernel) (by decide +kernel)
set_option maxRecDepth 20000 in
theorem gL_settle_L_share : GoodIn wsL_settle (va_wsS RL 41 yL_share wsL_share) := goodIn_app (goodIn_of _ (by decide +kernel)) ggL_settle_L_share
theorem dL_settle_0 : decode cL_settle 0 = .ok (.bipush 12, 2) := by decide +kernel
theorem dL_settle_2 : decode cL_settle 2 = .ok (.newarray .int, 2) := by decide +kernel
theorem dL_settle_4 : decode cL_settle 4 = .ok (.astore_n 2, 1) := by decide +kernel
theorem dL_settle_5 : decode cL_settle 5 = .ok (.iconst 0, 1) := by decide +kernel
theorem dL_settle_6 : decode cL_settle 6 = .ok (.istore_n 3, 1) := by decide +kernel
theorem dL_settle_7 : decode cL_settle 7 = .ok (.iload_n 3, 1) := by decide +kernel
theorem dL_settle_8 : decode cL_settle 8 = .ok (.bipush 12, 2) := by decide +kernel
theorem dL_settle_10 : decode cL_settle 10 = .ok (.if_icmp .ge 15, 3) := by decide +kernel
theorem dL_settle_13 : decode cL_settle 13 = .ok (.aload_n 2, 1) := by decide +kernel
theorem dL_settle_14 : decode cL_settle 14 = .ok (.iload_n 3, 1) := by decide +kernel
theorem dL_settle_15 : decode cL_settle 15 = .ok (.aload_n 0, 1) := by decide +kernel
theorem dL_settle_16 : decode cL_settle 16 = .ok (.iload_n 3, 1) := by decide +kernel
theorem dL_settle_17 : decode cL_settle 17 = .ok (.iaload, 1) := by decide +kernel
theorem dL_settle_18 : decode cL_settle 18 = .ok (.iastore, 1) := by decide +kernel
theorem dL_settle_19 : decode cL_settle 19 = .ok (.iinc 3 1, 3) := by decide +kernel
theorem dL_settle_22 : decode cL_settle 22 = .ok (.goto (-15), 3) := by decide +kernel
theorem dL_settle_25 : decode cL_settle 25 = .ok (.iconst 0, 1) := by decide +kernel
theorem dL_settle_26 : decode cL_settle 26 = .ok (.istore_n 3, 1) := by decide +kernel
theorem dL_settle_27 : decode cL_settle 27 = .ok (.aload_n 0, 1) := by decide +kernel
theorem dL_settle_28 : decode cL_settle 28 = .ok (.aload_n 1, 1) := by decide +kernel
theorem dL_settle_29 : decode cL_settle 29 = .ok (.invokestatic 37, 3) := by decide +kernel
theorem dL_settle_32 : decode cL_settle 32 = .ok (.ifCond .ne 65, 3) := by decide +kernel
theorem dL_settle_35 : decode cL_settle 35 = .ok (.iconst 0, 1) := by decide +kernel
theorem dL_settle_36 : decode cL_settle 36 = .ok (.istore 4, 2) := by decide +kernel
theorem dL_settle_38 : decode cL_settle 38 = .ok (.iload 4, 2) := by decide +kernel
theorem dL_settle_40 : decode cL_settle 40 = .ok (.aload_n 1, 1) := by decide +kernel
theorem dL_settle_41 : decode cL_settle 41 = .ok (.iconst 0, 1) := by decide +kernel
theorem dL_settle_42 : decode cL_settle 42 = .ok (.iaload, 1) := by decide +kernel
theorem dL_settle_43 : decode cL_settle 43 = .ok (.iconst 1, 1) := by decide +kernel
theorem dL_settle_44 : decode cL_settle 44 = .ok (.isub, 1) := by decide +kernel
theorem dL_settle_45 : decode cL_settle 45 = .ok (.if_icmp .ge 46, 3) := by decide +kernel
