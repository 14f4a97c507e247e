set_option maxRecDepth 20000 in
theorem gX7_isPrime_X7_leastPrime : GoodIn wsX7_isPrime (va_wsS RX7 9 yX7_leastPrime wsX7_leastPrime) := goodIn_app (goodIn_of _ (by decide +kernel)) ggX7_isPrime_X7_leastPrime
theorem dX7_isPrime_0 : decode cX7_isPrime 0 = .ok (.iload_n 0, 1) := by decide +kernel
theorem dX7_isPrime_1 : decode cX7_isPrime 1 = .ok (.iconst 2, 1) := by decide +kernel
theorem dX7_isPrime_2 : decode cX7_isPrime 2 = .ok (.if_icmp .lt 22, 3) := by decide +kernel
theorem dX7_isPrime_5 : decode cX7_isPrime 5 = .ok (.iload_n 0, 1) := by decide +kernel
theorem dX7_isPrime_6 : decode cX7_isPrime 6 = .ok (.sipush 9999, 3) := by decide +kernel
theorem dX7_isPrime_9 : decode cX7_isPrime 9 = .ok (.if_icmp .gt 15, 3) := by decide +kernel
theorem dX7_isPrime_12 : decode cX7_isPrime 12 = .ok (.iload_n 0, 1) := by decide +kernel
theorem dX7_isPrime_13 : decode cX7_isPrime 13 = .ok (.invokestatic 9, 3) := by decide +kernel
theorem dX7_isPrime_16 : decode cX7_isPrime 16 = .ok (.iload_n 0, 1) := by decide +kernel
theorem dX7_isPrime_17 : decode cX7_isPrime 17 = .ok (.if_icmp .ne 7, 3) := by decide +kernel
theorem dX7_isPrime_20 : decode cX7_isPrime 20 = .ok (.iconst 1, 1) := by decide +kernel
theorem dX7_isPrime_21 : decode cX7_isPrime 21 = .ok (.goto 4, 3) := by decide +kernel
theorem dX7_isPrime_24 : decode cX7_isPrime 24 = .ok (.iconst 0, 1) := by decide +kernel
theorem dX7_isPrime_25 : decode cX7_isPrime 25 = .ok (.ireturn, 1) := by decide +kernel
theorem dX7_divides_0 : decode cX7_divides 0 = .ok (.iload_n 0, 1) := by decide +kernel
theorem dX7_divides_1 : decode cX7_divides 1 = .ok (.ifCond .le 13, 3) := by decide +kernel
theorem dX7_divides_4 : decode cX7_divides 4 = .ok (.iload_n 1, 1) := by decide +kernel
theorem dX7_divides_5 : decode cX7_divides 5 = .ok (.iload_n 0, 1) := by decide +kernel
theorem dX7_divides_6 : decode cX7_divides 6 = .ok (.irem, 1) := by decide +kernel
theorem dX7_divides_7 : decode cX7_divides 7 = .ok (.ifCond .ne 7, 3) := by decide +kernel
theorem dX7_divides_10 : decode cX7_divides 10 = .ok (.iconst 1, 1) := by decide +kernel
theorem dX7_divides_11 : decode cX7_divides 11 = .ok (.goto 4, 3) := by decide +kernel
theorem dX7_divides_14 : decode cX7_divides 14 = .ok (.iconst 0, 1) := by decide +kernel
theorem dX7_divides_15 : decode cX7_divides 15 = .ok (.ireturn, 1) := by decide +kernel
theorem dX7_quotient_0 : decode cX7_quotient 0 = .ok (.iload_n 1, 1) := by decide +kernel
theorem dX7_quotient_1 : decode cX7_quotient 1 = .ok (.ifCond .le 9, 3) := by decide +kernel
theorem dX7_quotient_4 : decode cX7_quotient 4 = .ok (.iload_n 0, 1) := by decide +kernel
theorem dX7_quotient_5 : decode cX7_quotient 5 = .ok (.iload_n 1, 1) := by decide +kernel
theorem dX7_quotient_6 : decode cX7_quotient 6 = .ok (.idiv, 1) := by decide +kernel
theorem dX7_quotient_7 : decode cX7_quotient 7 = .ok (.goto 4, 3) := by decide +kernel
theorem dX7_quotient_10 : decode cX7_quotient 10 = .ok (.iload_n 0, 1) := by decide +kernel
theorem dX7_quotient_11 : decode cX7_quotient 11 = .ok (.ireturn, 1) := by decide +kernel
set_option maxRecDepth 20000 in
theorem ggX7_leastPrime_X7_divides : GoodIn wsX7_leastPrime wsX7_divides := goodIn_r _ [4] (by decide +kernel) (by decide +kernel)
set_option maxRecDepth 20000 in
theorem gX7_leastPrime_X7_divides : GoodIn wsX7_leastPrime (va_wsS RX7 15 yX7_divides wsX7_divides) := goodIn_app (goodIn_of _ (by decide +kernel)) ggX7_leastPrime_X7_divides
theorem dX7_leastPrime_0 : decode cX7_leastPrime 0 = .ok (.iconst 2, 1) := by decide +kernel
theorem dX7_leastPrime_1 : decode cX7_leastPrime 1 = .ok (.istore_n 1, 1) := by decide +kernel
theorem dX7_leastPrime_2 : decode cX7_leastPrime 2 = .ok (.iload_n 1, 1) := by decide +kernel
theorem dX7_leastPrime_3 : decode cX7_leastPrime 3 = .ok (.bipush 100, 2) := by decide +kernel
theorem dX7_leastPrime_5 : decode cX7_leastPrime 5 = .ok (.if_icmp .ge 26, 3) := by decide +kernel
theorem dX7_leastPrime_8 : decode cX7_leastPrime 8 = .ok (.iload_n 1, 1) := by decide +kernel
theorem dX7_leastPrime_9 : decode cX7_leastPrime 9 = .ok (.iload_n 1, 1) := by decide +kernel
theorem dX7_leastPrime_10 : decode cX7_leastPrime 10 = .ok (.imul, 1) := by decide +kernel
theorem dX7_leastPrime_11 : decode cX7_leastPrime 11 = .ok (.iload_n 0, 1) := by decide +kernel
theorem dX7_leastPrime_12 : decode cX7_leastPrime 12 = .ok (.if_icmp .gt 19, 3) := by decide +kernel
theorem dX7_leastPrime_15 : decode cX7_leastPrime 15 = .ok (.iload_n 1, 1) := by decide +kernel
theorem dX7_leastPrime_16 : decode cX7_leastPrime 16 = .ok (.iload_n 0, 1) := by decide +kernel
theorem dX7_leastPrime_17 : decode cX7_leastPrime 17 = .ok (.invokestatic 15, 3) := by decide +kernel
theorem dX7_leastPrime_20 : decode cX7_leastPrime 20 = .ok (.ifCond .eq 5, 3) := by decide +kernel
theorem dX7_leastPrime_23 : decode cX7_leastPrime 23 = .ok (.iload_n 1, 1) := by decide +kernel
theorem dX7_leastPrime_24 : decode cX7_leastPrime 24 = .ok (.ireturn, 1) := by decide +kernel
theorem dX7_leastPrime_25 : decode cX7_leastPrime 25 = .ok (.iinc 1 1, 3) := by decide +kernel
theorem dX7_leastPrime_28 : decode cX7_leastPrime 28 = .ok (.goto (-26), 3) := by decide +kernel
theorem dX7_leastPrime_31 : decode cX7_leastPrime 31 = .ok (.iload_n 0, 1) := by decide +kernel
theorem dX7_leastPrime_32 : decode cX7_leastPrime 32 = .ok (.ireturn, 1) := by decide +kernel
set_option maxRecDepth 20000 in
theorem ggX7_greatestPrime_X7_leastPrime : GoodIn wsX7_greatestPrime wsX7_leastPrime := goodIn_r _ [4, 5, 6, 3, 7] (by decide +kernel) (by decide +kernel)
set_option maxRecDepth 20000 in
theorem gX7_greatestPrime_X7_leastPrime : GoodIn wsX7_greatestPrime (va_wsS RX7 9 yX7_leastPrime wsX7_leastPrime) := goodIn_app (goodIn_of _ (by decide +kernel)) ggX7_greatestPrime_X7_leastPrime
set_option maxRecDepth 20000 in
theorem ggX7_greatestPrime_X7_withoutPrime : GoodIn wsX7_greatestPrime wsX7_withoutPrime := goodIn_r _ [10, 11, 12, 3, 13, 5, 6, 7, 14, 15, 16] (by decide +kernel) (by decide +kernel)
set_option maxRecDepth 20000 in
theorem gX7_greatestPrime_X7_withoutPrime : GoodIn wsX7_greatestPrime (va_wsS RX7 19 yX7_withoutPrime wsX7_withoutPrime) := goodIn_app (goodIn_of _ (by decide +kernel)) ggX7_greatestPrime_X7_withoutPrime
theorem dX7_greatestPrime_0 : decode cX7_greatestPrime 0 = .ok (.iload_n 0, 1) := by decide +kernel
theorem dX7_greatestPrime_1 : decode cX7_greatestPrime 1 = .ok (.istore_n 1, 1) := by decide +kernel
theorem dX7_greatestPrime_2 : decode cX7_greatestPrime 2 = .ok (.iconst 1, 1) := by decide +kernel
theorem dX7_greatestPrime_3 : decode cX7_greatestPrime 3 = .ok (.istore_n 2, 1) := by decide +kernel
theorem dX7_greatestPrime_4 : decode cX7_greatestPrime 4 = .ok (.iconst 0, 1) := by decide +kernel
theorem dX7_greatestPrime_5 : decode cX7_greatestPrime 5 = .ok (.istore_n 3, 1) := by decide +kernel
theorem dX7_greatestPrime_6 : decode cX7_greatestPrime 6 = .ok (.iload_n 3, 1) := by decide +kernel
theorem dX7_greatestPrime_7 : decode cX7_greatestPrime 7 = .ok (.bipush 13, 2) := by decide +kernel
theorem dX7_greatestPrime_9 : decode cX7_greatestPrime 9 = .ok (.if_icmp .ge 25, 3) := by decide +kernel
theorem dX7_greatestPrime_12 : decode cX7_greatestPrime 12 = .ok (.iload_n 1, 1) := by decide +kernel
theorem dX7_greatestPrime_13 : decode cX7_greatestPrime 13 = .ok (.iconst 1, 1) := by decide +kernel
theorem dX7_greatestPrime_14 : decode cX7_greatestPrime 14 = .ok (.if_icmp .le 20, 3) := by decide +kernel
theorem dX7_greatestPrime_17 : decode cX7_greatestPrime 17 = .ok (.iload_n 1, 1) := by decide +kernel
theorem dX7_greatestPrime_18 : decode cX7_greatestPrime 18 = .ok (.invokestatic 9, 3) := by decide +kernel
theorem dX7_greatestPrime_21 : decode cX7_greatestPrime 21 = .ok (.istore_n 2, 1) := by decide +kernel
theorem dX7_greatestPrime_22 : decode cX7_greatestPrime 22 = .ok (.iload_n 1, 1) := by decide +kernel
theorem dX7_greatestPrime_23 : decode cX7_greatestPrime 23 = .ok (.iload_n 2, 1) := by decide +kernel
theorem dX7_greatestPrime_24 : decode cX7_greatestPrime 24 = .ok (.invokestatic 19, 3) := by decide +kernel
theorem dX7_greatestPrime_27 : decode cX7_greatestPrime 27 = .ok (.istore_n 1, 1) := by decide +kernel
theorem dX7_greatestPrime_28 : decode cX7_greatestPrime 28 = .ok (.iinc 3 1, 3) := by decide +kernel
theorem dX7_greatestPrime_31 : decode cX7_greatestPrime 31 = .ok (.goto (-25), 3) := by decide +kernel
theorem dX7_greatestPrime_34 : decode cX7_greatestPrime 34 = .ok (.iload_n 2, 1) := by decide +kernel
theorem dX7_greatestPrime_35 : decode cX7_greatestPrime 35 = .ok (.ireturn, 1) := by decide +kernel
set_option maxRecDepth 20000 in
theorem ggX7_exponent_X7_divides : GoodIn wsX7_exponent wsX7_divides := goodIn_r _ [4] (by decide +kernel) (by decide +kernel)
set_option maxRecDepth 20000 in
theorem gX7_exponent_X7_divides : GoodIn wsX7_exponent (va_wsS RX7 15 yX7_divides wsX7_divides) := goodIn_app (goodIn_of _ (by decide +kernel)) ggX7_exponent_X7_divides
set_option maxRecDepth 20000 in
theorem ggX7_exponent_X7_quotient : GoodIn wsX7_exponent wsX7_quotient := goodIn_r _ [7] (by decide +kernel) (by decide +kernel)
set_option maxRecDepth 20000 in
theorem gX7_exponent_X7_quotient : GoodIn wsX7_exponent (va_wsS RX7 23 yX7_quotient wsX7_quotient) := goodIn_app (goodIn_of _ (by decide +kernel)) ggX7_exponent_X7_quotient
theorem dX7_exponent_0 : decode cX7_exponent 0 = .ok (.iload_n 0, 1) := by decide +kernel
theorem dX7_exponent_1 : decode cX7_exponent 1 = .ok (.istore_n 2, 1) := by decide +kernel
theorem dX7_exponent_2 : decode cX7_exponent 2 = .ok (.iconst 0, 1) := by decide +kernel
theorem dX7_exponent_3 : decode cX7_exponent 3 = .ok (.istore_n 3, 1) := by decide +kernel
theorem dX7_exponent_4 : decode cX7_exponent 4 = .ok (.iconst 0, 1) := by decide +kernel
theorem dX7_exponent_5 : decode cX7_exponent 5 = .ok (.istore 4, 2) := by decide +kernel
theorem dX7_exponent_7 : decode cX7_exponent 7 = .ok (.iload 4, 2) := by decide +kernel
theorem dX7_exponent_9 : decode cX7_exponent 9 = .ok (.bipush 13, 2) := by decide +kernel
theorem dX7_exponent_11 : decode cX7_exponent 11 = .ok (.if_icmp .ge 31, 3) := by decide +kernel
theorem dX7_exponent_14 : decode cX7_exponent 14 = .ok (.iload_n 1, 1) := by decide +kernel
theorem dX7_exponent_15 : decode cX7_exponent 15 = .ok (.iconst 1, 1) := by decide +kernel
theorem dX7_exponent_16 : decode cX7_exponent 16 = .ok (.if_icmp .le 26, 3) := by decide +kernel
theorem dX7_exponent_19 : decode cX7_exponent 19 = .ok (.iload_n 1, 1) := by decide +kernel
theorem dX7_exponent_20 : decode cX7_exponent 20 = .ok (.iload_n 2, 1) := by decide +kernel
theorem dX7_exponent_21 : decode cX7_exponent 21 = .ok (.invokestatic 15, 3) := by decide +kernel
theorem dX7_exponent_24 : decode cX7_exponent 24 = .ok (.ifCond .eq 18, 3) := by decide +kernel
theorem dX7_exponent_27 : decode cX7_exponent 27 = .ok (.iload_n 2, 1) := by decide +kernel
theorem dX7_exponent_28 : decode cX7_exponent 28 = .ok (.iload_n 1, 1) := by decide +kernel
theorem dX7_exponent_29 : decode cX7_exponent 29 = .ok (.invokestatic 23, 3) := by decide +kernel
theorem dX7_exponent_32 : decode cX7_exponent 32 = .ok (.istore_n 2, 1) := by decide +kernel
theorem dX7_exponent_33 : decode cX7_exponent 33 = .ok (.iinc 3 1, 3) := by decide +kernel
theorem dX7_exponent_36 : decode cX7_exponent 36 = .ok (.iinc 4 1, 3) := by decide +kernel
theorem dX7_exponent_39 : decode cX7_exponent 39 = .ok (.goto (-32), 3) := by decide +kernel
theorem dX7_exponent_42 : decode cX7_exponent 42 = .ok (.iload_n 3, 1) := by decide +kernel
theorem dX7_exponent_43 : decode cX7_exponent 43 = .ok (.ireturn, 1) := by decide +kernel
set_option maxRecDepth 20000 in
theorem ggX7_withoutPrime_X7_exponent : GoodIn wsX7_withoutPrime wsX7_exponent := goodIn_r _ [4, 5, 6, 3, 7, 8, 9, 10] (by decide +kernel) (by decide +kernel)
set_option maxRecDepth 20000 in
theorem gX7_withoutPrime_X7_exponent : GoodIn wsX7_withoutPrime (va_wsS RX7 26 yX7_exponent wsX7_exponent) := goodIn_app (goodIn_of _ (by decide +kernel)) ggX7_withoutPrime_X7_exponent
set_option maxRecDepth 20000 in
theorem ggX7_withoutPrime_X7_quotient : GoodIn wsX7_withoutPrime wsX7_quotient := goodIn_r _ [10] (by decide +kernel) (by decide +kernel)
set_option maxRecDepth 20000 in
theorem gX7_withoutPrime_X7_quotient : GoodIn wsX7_withoutPrime (va_wsS RX7 23 yX7_quotient wsX7_quotient) := goodIn_app (goodIn_of _ (by decide +kernel)) ggX7_withoutPrime_X7_quotient
theorem dX7_withoutPrime_0 : decode cX7_withoutPrime 0 = .ok (.iload_n 0, 1) := by decide +kernel
theorem dX7_withoutPrime_1 : decode cX7_withoutPrime 1 = .ok (.istore_n 2, 1) := by decide +kernel
theorem dX7_withoutPrime_2 : decode cX7_withoutPrime 2 = .ok (.iload_n 0, 1) := by decide +kernel
theorem dX7_withoutPrime_3 : decode cX7_withoutPrime 3 = .ok (.iload_n 1, 1) := by decide +kernel
theorem dX7_withoutPrime_4 : decode cX7_withoutPrime 4 = .ok (.invokestatic 26, 3) := by decide +kernel
theorem dX7_withoutPrime_7 : decode cX7_withoutPrime 7 = .ok (.istore_n 3, 1) := by decide +kernel
theorem dX7_withoutPrime_8 : decode cX7_withoutPrime 8 = .ok (.iload_n 3, 1) := by decide +kernel
theorem dX7_withoutPrime_9 : decode cX7_withoutPrime 9 = .ok (.ifCond .le 15, 3) := by decide +kernel
theorem dX7_withoutPrime_12 : decode cX7_withoutPrime 12 = .ok (.iload_n 2, 1) := by decide +kernel
theorem dX7_withoutPrime_13 : decode cX7_withoutPrime 13 = .ok (.iload_n 1, 1) := by decide +kernel
theorem dX7_withoutPrime_14 : decode cX7_withoutPrime 14 = .ok (.invokestatic 23, 3) := by decide +kernel
theorem dX7_withoutPrime_17 : decode cX7_withoutPrime 17 = .ok (.istore_n 2, 1) := by decide +kernel
theorem dX7_withoutPrime_18 : decode cX7_withoutPrime 18 = .ok (.iinc 3 (-1), 3) := by decide +kernel
theorem dX7_withoutPrime_21 : decode cX7_withoutPrime 21 = .ok (.goto (-13), 3) := by decide +kernel
theorem dX7_withoutPrime_24 : decode cX7_withoutPrime 24 = .ok (.iload_n 2, 1) := by decide +kernel
theorem dX7_withoutPrime_25 : decode cX7_withoutPrime 25 = .ok (.ireturn, 1) := by decide +kernel
set_option maxRecDepth 20000 in
theorem ggX7_factors_X7_leastPrime : GoodIn wsX7_factors wsX7_leastPrime := goodIn_r _ [4, 5, 6, 3, 7] (by decide +kernel) (by decide +kernel)
set_option maxRecDepth 20000 in
theorem gX7_factors_X7_leastPrime : GoodIn wsX7_factors (va_wsS RX7 9 yX7_leastPrime wsX7_leastPrime) := goodIn_app (goodIn_of _ (by decide +kernel)) ggX7_factors_X7_leastPrime
set_option maxRecDepth 20000 in
theorem ggX7_factors_X7_quotient : GoodIn wsX7_factors wsX7_quotient := goodIn_r _ [10] (by decide +kernel) (by decide +kernel)
set_option maxRecDepth 20000 in
theorem gX7_factors_X7_quotient : GoodIn wsX7_factors (va_wsS RX7 23 yX7_quotient wsX7_quotient) := goodIn_app (goodIn_of _ (by decide +kernel)) ggX7_factors_X7_quotient
theorem dX7_factors_0 : decode cX7_factors 0 = .ok (.iload_n 0, 1) := by decide +kernel
theorem dX7_factors_1 : decode cX7_factors 1 = .ok (.istore_n 1, 1) := by decide +kernel
theorem dX7_factors_2 : decode cX7_factors 2 = .ok (.iconst 0, 1) := by decide +kernel
theorem dX7_factors_3 : decode cX7_factors 3 = .ok (.istore_n 2, 1) := by decide +kernel
theorem dX7_factors_4 : decode cX7_factors 4 = .ok (.iconst 0, 1) := by decide +kernel
theorem dX7_factors_5 : decode cX7_factors 5 = .ok (.istore_n 3, 1) := by decide +kernel
theorem dX7_factors_6 : decode cX7_factors 6 = .ok (.iload_n 3, 1) := by decide +kernel
theorem dX7_factors_7 : decode cX7_factors 7 = .ok (.bipush 13, 2) := by decide +kernel
theorem dX7_factors_9 : decode cX7_factors 9 = .ok (.if_icmp .ge 26, 3) := by decide +kernel
theorem dX7_factors_12 : decode cX7_factors 12 = .ok (.iload_n 1, 1) := by decide +kernel
theorem dX7_factors_13 : decode cX7_factors 13 = .ok (.iconst 1, 1) := by decide +kernel
theorem dX7_factors_14 : decode cX7_factors 14 = .ok (.if_icmp .le 21, 3) := by decide +kernel
theorem dX7_factors_17 : decode cX7_factors 17 = .ok (.iload_n 1, 1) := by decide +kernel
theorem dX7_factors_18 : decode cX7_factors 18 = .ok (.iload_n 1, 1) := by decide +kernel
theorem dX7_factors_19 : decode cX7_factors 19 = .ok (.invokestatic 9, 3) := by decide +kernel
theorem dX7_factors_22 : decode cX7_factors 22 = .ok (.invokestatic 23, 3) := by decide +kernel
theorem dX7_factors_25 : decode cX7_factors 25 = .ok (.istore_n 1, 1) := by decide +kernel
theorem dX7_factors_26 : decode cX7_factors 26 = .ok (.iinc 2 1, 3) := by decide +kernel
theorem dX7_factors_29 : decode cX7_factors 29 = .ok (.iinc 3 1, 3) := by decide +kernel
theorem dX7_factors_32 : decode cX7_factors 32 = .ok (.goto (-26), 3) := by decide +kernel
theorem dX7_factors_35 : decode cX7_factors 35 = .ok (.iload_n 2, 1) := by decide +kernel
theorem dX7_factors_36 : decode cX7_factors 36 = .ok (.ireturn, 1) := by decide +kernel
set_option maxRecDepth 20000 in
theorem ggX7_differentFactors_X7_leastPrime : GoodIn wsX7_differentFactors wsX7_leastPrime := goodIn_r _ [4, 5, 6, 3, 7] (by decide +kernel) (by decide +kernel)
set_option maxRecDepth 20000 in
theorem gX7_differentFactors_X7_leastPrime : GoodIn wsX7_differentFactors (va_wsS RX7 9 yX7_leastPrime wsX7_leastPrime) := goodIn_app (goodIn_of _ (by decide +kernel)) ggX7_differentFactors_X7_leastPrime
set_option maxRecDepth 20000 in
theorem ggX7_differentFactors_X7_withoutPrime : GoodIn wsX7_differentFactors wsX7_withoutPrime := goodIn_r _ [10, 11, 12, 3, 13, 5, 6, 7, 14, 15, 16] (by decide +kernel) (by decide +kernel)
set_option maxRecDepth 20000 in
theorem gX7_differentFactors_X7_withoutPrime : GoodIn wsX7_differentFactors (va_wsS RX7 19 yX7_withoutPrime wsX7_withoutPrime) := goodIn_app (goodIn_of _ (by decide +kernel)) ggX7_differentFactors_X7_withoutPrime
theorem dX7_differentFactors_0 : decode cX7_differentFactors 0 = .ok (.iload_n 0, 1) := by decide +kernel
theorem dX7_differentFactors_1 : decode cX7_differentFactors 1 = .ok (.istore_n 1, 1) := by decide +kernel
theorem dX7_differentFactors_2 : decode cX7_differentFactors 2 = .ok (.iconst 0, 1) := by decide +kernel
theorem dX7_differentFactors_3 : decode cX7_differentFactors 3 = .ok (.istore_n 2, 1) := by decide +kernel
theorem dX7_differentFactors_4 : decode cX7_differentFactors 4 = .ok (.iconst 0, 1) := by decide +kernel
theorem dX7_differentFactors_5 : decode cX7_differentFactors 5 = .ok (.istore_n 3, 1) := by decide +kernel
theorem dX7_differentFactors_6 : decode cX7_differentFactors 6 = .ok (.iload_n 3, 1) := by decide +kernel
theorem dX7_differentFactors_7 : decode cX7_differentFactors 7 = .ok (.bipush 13, 2) := by decide +kernel
theorem dX7_differentFactors_9 : decode cX7_differentFactors 9 = .ok (.if_icmp .ge 26, 3) := by decide +kernel
theorem dX7_differentFactors_12 : decode cX7_differentFactors 12 = .ok (.iload_n 1, 1) := by decide +kernel
theorem dX7_differentFactors_13 : decode cX7_differentFactors 13 = .ok (.iconst 1, 1) := by decide +kernel
theorem dX7_differentFactors_14 : decode cX7_differentFactors 14 = .ok (.if_icmp .le 21, 3) := by decide +kernel
theorem dX7_differentFactors_17 : decode cX7_differentFactors 17 = .ok (.iload_n 1, 1) := by decide +kernel
theorem dX7_differentFactors_18 : decode cX7_differentFactors 18 = .ok (.iload_n 1, 1) := by decide +kernel
theorem dX7_differentFactors_19 : decode cX7_differentFactors 19 = .ok (.invokestatic 9, 3) := by decide +kernel
theorem dX7_differentFactors_22 : decode cX7_differentFactors 22 = .ok (.invokestatic 19, 3) := by decide +kernel
theorem dX7_differentFactors_25 : decode cX7_differentFactors 25 = .ok (.istore_n 1, 1) := by decide +kernel
theorem dX7_differentFactors_26 : decode cX7_differentFactors 26 = .ok (.iinc 2 1, 3) := by decide +kernel
theorem dX7_differentFactors_29 : decode cX7_differentFactors 29 = .ok (.iinc 3 1, 3) := by decide +kernel
theorem dX7_differentFactors_32 : decode cX7_differentFactors 32 = .ok (.goto (-26), 3) := by decide +kernel
theorem dX7_differentFactors_35 : decode cX7_differentFactors 35 = .ok (.iload_n 2, 1) := by decide +kernel
theorem dX7_differentFactors_36 : decode cX7_differentFactors 36 = .ok (.ireturn, 1) := by decide +kernel
set_option maxRecDepth 20000 in
theorem ggX7_factorAt_X7_leastPrime : GoodIn wsX7_factorAt wsX7_leastPrime := goodIn_r _ [4, 5, 6, 3, 7] (by decide +kernel) (by decide +kernel)
set_option maxRecDepth 20000 in
theorem gX7_factorAt_X7_leastPrime : GoodIn wsX7_factorAt (va_wsS RX7 9 yX7_leastPrime wsX7_leastPrime) := goodIn_app (goodIn_of _ (by decide +kernel)) ggX7_factorAt_X7_leastPrime
set_option maxRecDepth 20000 in
theorem ggX7_factorAt_X7_quotient : GoodIn wsX7_factorAt wsX7_quotient := goodIn_r _ [10] (by decide +kernel) (by decide +kernel)
set_option maxRecDepth 20000 in
theorem gX7_factorAt_X7_quotient : GoodIn wsX7_factorAt (va_wsS RX7 23 yX7_quotient wsX7_quotient) := goodIn_app (goodIn_of _ (by decide +kernel)) ggX7_factorAt_X7_quotient
theorem dX7_factorAt_0 : decode cX7_factorAt 0 = .ok (.iload_n 0, 1) := by decide +kernel
theorem dX7_factorAt_1 : decode cX7_factorAt 1 = .ok (.istore_n 2, 1) := by decide +kernel
theorem dX7_factorAt_2 : decode cX7_factorAt 2 = .ok (.iconst 0, 1) := by decide +kernel
theorem dX7_factorAt_3 : decode cX7_factorAt 3 = .ok (.istore_n 3, 1) := by decide +kernel
theorem dX7_factorAt_4 : decode cX7_factorAt 4 = .ok (.iload_n 3, 1) := by decide +kernel
theorem dX7_factorAt_5 : decode cX7_factorAt 5 = .ok (.bipush 13, 2) := by decide +kernel
theorem dX7_factorAt_7 : decode cX7_factorAt 7 = .ok (.if_icmp .ge 35, 3) := by decide +kernel
theorem dX7_factorAt_10 : decode cX7_factorAt 10 = .ok (.iload_n 2, 1) := by decide +kernel
theorem dX7_factorAt_11 : decode cX7_factorAt 11 = .ok (.iconst 1, 1) := by decide +kernel
theorem dX7_factorAt_12 : decode cX7_factorAt 12 = .ok (.if_icmp .le 30, 3) := by decide +kernel
theorem dX7_factorAt_15 : decode cX7_factorAt 15 = .ok (.iload_n 2, 1) := by decide +kernel
theorem dX7_factorAt_16 : decode cX7_factorAt 16 = .ok (.invokestatic 9, 3) := by decide +kernel
theorem dX7_factorAt_19 : decode cX7_factorAt 19 = .ok (.istore 4, 2) := by decide +kernel
theorem dX7_factorAt_21 : decode cX7_factorAt 21 = .ok (.iload_n 3, 1) := by decide +kernel
theorem dX7_factorAt_22 : decode cX7_factorAt 22 = .ok (.iload_n 1, 1) := by decide +kernel
theorem dX7_factorAt_23 : decode cX7_factorAt 23 = .ok (.if_icmp .ne 6, 3) := by decide +kernel
theorem dX7_factorAt_26 : decode cX7_factorAt 26 = .ok (.iload 4, 2) := by decide +kernel
theorem dX7_factorAt_28 : decode cX7_factorAt 28 = .ok (.ireturn, 1) := by decide +kernel
theorem dX7_factorAt_29 : decode cX7_factorAt 29 = .ok (.iload_n 2, 1) := by decide +kernel
theorem dX7_factorAt_30 : decode cX7_factorAt 30 = .ok (.iload 4, 2) := by decide +kernel
theorem dX7_factorAt_32 : decode cX7_factorAt 32 = .ok (.invokestatic 23, 3) := by decide +kernel
theorem dX7_factorAt_35 : decode cX7_factorAt 35 = .ok (.istore_n 2, 1) := by decide +kernel
theorem dX7_factorAt_36 : decode cX7_factorAt 36 = .ok (.iinc 3 1, 3) := by decide +kernel
theorem dX7_factorAt_39 : decode cX7_factorAt 39 = .ok (.goto (-35), 3) := by decide +kernel
theorem dX7_factorAt_42 : decode cX7_factorAt 42 = .ok (.iconst (-1), 1) := by decide +kernel
theorem dX7_factorAt_43 : decode cX7_factorAt 43 = .ok (.ireturn, 1) := by decide +kernel
theorem dX7_divisorByRemainders_0 : decode cX7_divisorByRemainders 0 = .ok (.iload_n 0, 1) := by decide +kernel
theorem dX7_divisorByRemainders_1 : decode cX7_divisorByRemainders 1 = .ok (.istore_n 2, 1) := by decide +kernel
theorem dX7_divisorByRemainders_2 : decode cX7_divisorByRemainders 2 = .ok (.iload_n 1, 1) := by decide +kernel
theorem dX7_divisorByRemainders_3 : decode cX7_divisorByRemainders 3 = .ok (.istore_n 3, 1) := by decide +kernel
theorem dX7_divisorByRemainders_4 : decode cX7_divisorByRemainders 4 = .ok (.iconst 0, 1) := by decide +kernel
theorem dX7_divisorByRemainders_5 : decode cX7_divisorByRemainders 5 = .ok (.istore 4, 2) := by decide +kernel
theorem dX7_divisorByRemainders_7 : decode cX7_divisorByRemainders 7 = .ok (.iload 4, 2) := by decide +kernel
theorem dX7_divisorByRemainders_9 : decode cX7_divisorByRemainders 9 = .ok (.bipush 64, 2) := by decide +kernel
theorem dX7_divisorByRemainders_11 : decode cX7_divisorByRemainders 11 = .ok (.if_icmp .ge 23, 3) := by decide +kernel
theorem dX7_divisorByRemainders_14 : decode cX7_divisorByRemainders 14 = .ok (.iload_n 3, 1) := by decide +kernel
theorem dX7_divisorByRemainders_15 : decode cX7_divisorByRemainders 15 = .ok (.ifCond .eq 19, 3) := by decide +kernel
theorem dX7_divisorByRemainders_18 : decode cX7_divisorByRemainders 18 = .ok (.iload_n 2, 1) := by decide +kernel
theorem dX7_divisorByRemainders_19 : decode cX7_divisorByRemainders 19 = .ok (.iload_n 3, 1) := by decide +kernel
theorem dX7_divisorByRemainders_20 : decode cX7_divisorByRemainders 20 = .ok (.irem, 1) := by decide +kernel
theorem dX7_divisorByRemainders_21 : decode cX7_divisorByRemainders 21 = .ok (.istore 5, 2) := by decide +kernel
theorem dX7_divisorByRemainders_23 : decode cX7_divisorByRemainders 23 = .ok (.iload_n 3, 1) := by decide +kernel
theorem dX7_divisorByRemainders_24 : decode cX7_divisorByRemainders 24 = .ok (.istore_n 2, 1) := by decide +kernel
theorem dX7_divisorByRemainders_25 : decode cX7_divisorByRemainders 25 = .ok (.iload 5, 2) := by decide +kernel
theorem dX7_divisorByRemainders_27 : decode cX7_divisorByRemainders 27 = .ok (.istore_n 3, 1) := by decide +kernel
theorem dX7_divisorByRemainders_28 : decode cX7_divisorByRemainders 28 = .ok (.iinc 4 1, 3) := by decide +kernel
theorem dX7_divisorByRemainders_31 : decode cX7_divisorByRemainders 31 = .ok (.goto (-24), 3) := by decide +kernel
theorem dX7_divisorByRemainders_34 : decode cX7_divisorByRemainders 34 = .ok (.iload_n 2, 1) := by decide +kernel
theorem dX7_divisorByRemainders_35 : decode cX7_divisorByRemainders 35 = .ok (.ireturn, 1) := by decide +kernel
set_option maxRecDepth 20000 in
theorem ggX7_divisorByFactors_X7_leastPrime : GoodIn wsX7_divisorByFactors wsX7_leastPrime := goodIn_r _ [4, 5, 6, 3, 7] (by decide +kernel) (by decide +kernel)
set_option maxRecDepth 20000 in
theorem gX7_divisorByFactors_X7_leastPrime : GoodIn wsX7_divisorByFactors (va_wsS RX7 9 yX7_leastPrime wsX7_leastPrime) := goodIn_app (goodIn_of _ (by decide +kernel)) ggX7_divisorByFactors_X7_leastPrime
set_option maxRecDepth 20000 in
theorem ggX7_divisorByFactors_X7_quotient : GoodIn wsX7_divisorByFactors wsX7_quotient := goodIn_r _ [10] (by decide +kernel) (by decide +kernel)
set_option maxRecDepth 20000 in
theorem gX7_divisorByFactors_X7_quotient : GoodIn wsX7_divisorByFactors (va_wsS RX7 23 yX7_quotient wsX7_quotient) := goodIn_app (goodIn_of _ (by decide +kernel)) ggX7_divisorByFactors_X7_quotient
set_option maxRecDepth 20000 in
theorem ggX7_divisorByFactors_X7_divides : GoodIn wsX7_divisorByFactors wsX7_divides := goodIn_r _ [7] (by decide +kernel) (by decide +kernel)
set_option maxRecDepth 20000 in
theorem gX7_divisorByFactors_X7_divides : GoodIn wsX7_divisorByFactors (va_wsS RX7 15 yX7_divides wsX7_divides) := goodIn_app (goodIn_of _ (by decide +kernel)) ggX7_divisorByFactors_X7_divides
theorem dX7_divisorByFactors_0 : decode cX7_divisorByFactors 0 = .ok (.iload_n 0, 1) := by decide +kernel
theorem dX7_divisorByFactors_1 : decode cX7_divisorByFactors 1 = .ok (.istore_n 2, 1) := by decide +kernel
theorem dX7_divisorByFactors_2 : decode cX7_divisorByFactors 2 = .ok (.iload_n 1, 1) := by decide +kernel
theorem dX7_divisorByFactors_3 : decode cX7_divisorByFactors 3 = .ok (.istore_n 3, 1) := by decide +kernel
theorem dX7_divisorByFactors_4 : decode cX7_divisorByFactors 4 = .ok (.iconst 1, 1) := by decide +kernel
theorem dX7_divisorByFactors_5 : decode cX7_divisorByFactors 5 = .ok (.istore 4, 2) := by decide +kernel
theorem dX7_divisorByFactors_7 : decode cX7_divisorByFactors 7 = .ok (.iconst 0, 1) := by decide +kernel
theorem dX7_divisorByFactors_8 : decode cX7_divisorByFactors 8 = .ok (.istore 5, 2) := by decide +kernel
theorem dX7_divisorByFactors_10 : decode cX7_divisorByFactors 10 = .ok (.iload 5, 2) := by decide +kernel
theorem dX7_divisorByFactors_12 : decode cX7_divisorByFactors 12 = .ok (.bipush 13, 2) := by decide +kernel
theorem dX7_divisorByFactors_14 : decode cX7_divisorByFactors 14 = .ok (.if_icmp .ge 50, 3) := by decide +kernel
theorem dX7_divisorByFactors_17 : decode cX7_divisorByFactors 17 = .ok (.iload_n 2, 1) := by decide +kernel
theorem dX7_divisorByFactors_18 : decode cX7_divisorByFactors 18 = .ok (.iconst 1, 1) := by decide +kernel
theorem dX7_divisorByFactors_19 : decode cX7_divisorByFactors 19 = .ok (.if_icmp .le 45, 3) := by decide +kernel
theorem dX7_divisorByFactors_22 : decode cX7_divisorByFactors 22 = .ok (.iload_n 2, 1) := by decide +kernel
theorem dX7_divisorByFactors_23 : decode cX7_divisorByFactors 23 = .ok (.invokestatic 9, 3) := by decide +kernel
theorem dX7_divisorByFactors_26 : decode cX7_divisorByFactors 26 = .ok (.istore 6, 2) := by decide +kernel
theorem dX7_divisorByFactors_28 : decode cX7_divisorByFactors 28 = .ok (.iload_n 2, 1) := by decide +kernel
theorem dX7_divisorByFactors_29 : decode cX7_divisorByFactors 29 = .ok (.iload 6, 2) := by decide +kernel
theorem dX7_divisorByFactors_31 : decode cX7_divisorByFactors 31 = .ok (.invokestatic 23, 3) := by decide +kernel
theorem dX7_divisorByFactors_34 : decode cX7_divisorByFactors 34 = .ok (.istore_n 2, 1) := by decide +kernel
theorem dX7_divisorByFactors_35 : decode cX7_divisorByFactors 35 = .ok (.iload 6, 2) := by decide +kernel
theorem dX7_divisorByFactors_37 : decode cX7_divisorByFactors 37 = .ok (.iload_n 3, 1) := by decide +kernel
theorem dX7_divisorByFactors_38 : decode cX7_divisorByFactors 38 = .ok (.invokestatic 15, 3) := by decide +kernel
theorem dX7_divisorByFactors_41 : decode cX7_divisorByFactors 41 = .ok (.ifCond .eq 17, 3) := by decide +kernel
theorem dX7_divisorByFactors_44 : decode cX7_divisorByFactors 44 = .ok (.iload_n 3, 1) := by decide +kernel
theorem dX7_divisorByFactors_45 : decode cX7_divisorByFactors 45 = .ok (.iload 6, 2) := by decide +kernel
theorem dX7_divisorByFactors_47 : decode cX7_divisorByFactors 47 = .ok (.invokestatic 23, 3) := by decide +kernel
theorem dX7_divisorByFactors_50 : decode cX7_divisorByFactors 50 = .ok (.istore_n 3, 1) := by decide +kernel
theorem dX7_divisorByFactors_51 : decode cX7_divisorByFactors 51 = .ok (.iload 4, 2) := by decide +kernel
theorem dX7_divisorByFactors_53 : decode cX7_divisorByFactors 53 = .ok (.iload 6, 2) := by decide +kernel
theorem dX7_divisorByFactors_55 : decode cX7_divisorByFactors 55 = .ok (.imul, 1) := by decide +kernel
theorem dX7_divisorByFactors_56 : decode cX7_divisorByFactors 56 = .ok (.istore 4, 2) := by decide +kernel
theorem dX7_divisorByFactors_58 : decode cX7_divisorByFactors 58 = .ok (.iinc 5 1, 3) := by decide +kernel
theorem dX7_divisorByFactors_61 : decode cX7_divisorByFactors 61 = .ok (.goto (-51), 3) := by decide +kernel
theorem dX7_divisorByFactors_64 : decode cX7_divisorByFactors 64 = .ok (.iload 4, 2) := by decide +kernel
theorem dX7_divisorByFactors_66 : decode cX7_divisorByFactors 66 = .ok (.ireturn, 1) := by decide +kernel
set_option maxRecDepth 20000 in
theorem ggX7_multiple_X7_divisorByRemainders : GoodIn wsX7_multiple wsX7_divisorByRemainders := goodIn_r _ [4] (by decide +kernel) (by decide +kernel)
set_option maxRecDepth 20000 in
theorem gX7_multiple_X7_divisorByRemainders : GoodIn wsX7_multiple (va_wsS RX7 29 yX7_divisorByRemainders wsX7_divisorByRemainders) := goodIn_app (goodIn_of _ (by decide +kernel)) ggX7_multiple_X7_divisorByRemainders
set_option maxRecDepth 20000 in
theorem ggX7_multiple_X7_quotient : GoodIn wsX7_multiple wsX7_quotient := goodIn_r _ [7] (by decide +kernel) (by decide +kernel)
set_option maxRecDepth 20000 in
theorem gX7_multiple_X7_quotient : GoodIn wsX7_multiple (va_wsS RX7 23 yX7_quotient wsX7_quotient) := goodIn_app (goodIn_of _ (by decide +kernel)) ggX7_multiple_X7_quotient
theorem dX7_multiple_0 : decode cX7_multiple 0 = .ok (.iload_n 0, 1) := by decide +kernel
theorem dX7_multiple_1 : decode cX7_multiple 1 = .ok (.iload_n 0, 1) := by decide +kernel
theorem dX7_multiple_2 : decode cX7_multiple 2 = .ok (.iload_n 1, 1) := by decide +kernel
theorem dX7_multiple_3 : decode cX7_multiple 3 = .ok (.invokestatic 29, 3) := by decide +kernel
theorem dX7_multiple_6 : decode cX7_multiple 6 = .ok (.invokestatic 23, 3) := by decide +kernel
theorem dX7_multiple_9 : decode cX7_multiple 9 = .ok (.iload_n 1, 1) := by decide +kernel
theorem dX7_multiple_10 : decode cX7_multiple 10 = .ok (.imul, 1) := by decide +kernel
theorem dX7_multiple_11 : decode cX7_multiple 11 = .ok (.ireturn, 1) := by decide +kernel
set_option maxRecDepth 20000 in
theorem ggX8_init_X6_init : GoodIn wsX8_init wsX6_init := goodIn_r _ [28, 29, 2, 3, 30, 31, 32, 33, 34, 35, 36, 37, 38, 39, 40, 41, 42, 43, 69, 70, 71, 72, 73, 74, 108, 109, 110, 111] (by decide +kernel) (by decide +kernel)
set_option maxRecDepth 20000 in
theorem gX8_init_X6_init : GoodIn wsX8_init (wsX6_init) := ggX8_init_X6_init
set_option maxRecDepth 20000 in
theorem ggX8_init_X3_init : GoodIn wsX8_init wsX3_init := goodIn_r _ [46, 47, 2, 3, 48, 49, 5, 6, 50, 27, 28, 29, 30, 31, 32, 33, 34, 35, 36, 37, 38, 39, 40, 41, 42, 43, 86, 87, 88, 69, 70, 71, 72, 73, 74, 108, 109, 110, 111] (by decide +kernel) (by decide +kernel)
set_option maxRecDepth 20000 in
theorem gX8_init_X3_init : GoodIn wsX8_init (wsX3_init) := ggX8_init_X3_init
set_option maxRecDepth 20000 in
theorem ggX8_init_X4_init : GoodIn wsX8_init wsX4_init := goodIn_r _ [53, 54, 2, 3, 30, 55, 89, 90, 91, 92, 93, 94, 95, 96, 97] (by decide +kernel) (by decide +kernel)
set_option maxRecDepth 20000 in
theorem gX8_init_X4_init : GoodIn wsX8_init (wsX4_init) := ggX8_init_X4_init
set_option maxRecDepth 20000 in
theorem ggX8_init_X2_init : GoodIn wsX8_init wsX2_init := goodIn_r _ [58, 59, 2, 3, 30, 60, 98, 99] (by decide +kernel) (by decide +kernel)
set_option maxRecDepth 20000 in
theorem gX8_init_X2_init : GoodIn wsX8_init (wsX2_init) := ggX8_init_X2_init
set_option maxRecDepth 20000 in
theorem ggX8_init_X1_init : GoodIn wsX8_init wsX1_init := goodIn_r _ [63, 64, 2, 3, 30, 65, 66, 67, 68, 100, 101, 102, 103, 104, 105, 106, 107] (by decide +kernel) (by decide +kernel)
set_option maxRecDepth 20000 in
theorem gX8_init_X1_init : GoodIn wsX8_init (wsX1_init) := ggX8_init_X1_init
theorem dX8_init_0 : decode cX8_init 0 = .ok (.aload_n 0, 1) := by decide +kernel
theorem dX8_init_1 : decode cX8_init 1 = .ok (.invokespecial 1, 3) := by decide +kernel
theorem dX8_init_4 : decode cX8_init 4 = .ok (.aload_n 0, 1) := by decide +kernel
theorem dX8_init_5 : decode cX8_init 5 = .ok (.new 7, 3) := by decide +kernel
theorem dX8_init_8 : decode cX8_init 8 = .ok (.dup, 1) := by decide +kernel
theorem dX8_init_9 : decode cX8_init 9 = .ok (.invokespecial 9, 3) := by decide +kernel
theorem dX8_init_12 : decode cX8_init 12 = .ok (.putfield 10, 3) := by decide +kernel
theorem dX8_init_15 : decode cX8_init 15 = .ok (.aload_n 0, 1) := by decide +kernel
theorem dX8_init_16 : decode cX8_init 16 = .ok (.new 7, 3) := by decide +kernel
theorem dX8_init_19 : decode cX8_init 19 = .ok (.dup, 1) := by decide +kernel
theorem dX8_init_20 : decode cX8_init 20 = .ok (.invokespecial 9, 3) := by decide +kernel
theorem dX8_init_23 : decode cX8_init 23 = .ok (.putfield 16, 3) := by decide +kernel
theorem dX8_init_26 : decode cX8_init 26 = .ok (.aload_n 0, 1) := by decide +kernel
theorem dX8_init_27 : decode cX8_init 27 = .ok (.new 7, 3) := by decide +kernel
theorem dX8_init_30 : decode cX8_init 30 = .ok (.dup, 1) := by decide +kernel
theorem dX8_init_31 : decode cX8_init 31 = .ok (.invokespecial 9, 3) := by decide +kernel
theorem dX8_init_34 : decode cX8_init 34 = .ok (.putfield 19, 3) := by decide +kernel
theorem dX8_init_37 : decode cX8_init 37 = .ok (.aload_n 0, 1) := by decide +kernel
theorem dX8_init_38 : decode cX8_init 38 = .ok (.new 22, 3) := by decide +kernel
theorem dX8_init_41 : decode cX8_init 41 = .ok (.dup, 1) := by decide +kernel
theorem dX8_init_42 : decode cX8_init 42 = .ok (.invokespecial 24, 3) := by decide +kernel
theorem dX8_init_45 : decode cX8_init 45 = .ok (.putfield 25, 3) := by decide +kernel
theorem dX8_init_48 : decode cX8_init 48 = .ok (.aload_n 0, 1) := by decide +kernel
theorem dX8_init_49 : decode cX8_init 49 = .ok (.new 29, 3) := by decide +kernel
theorem dX8_init_52 : decode cX8_init 52 = .ok (.dup, 1) := by decide +kernel
theorem dX8_init_53 : decode cX8_init 53 = .ok (.invokespecial 31, 3) := by decide +kernel
theorem dX8_init_56 : decode cX8_init 56 = .ok (.putfield 32, 3) := by decide +kernel
theorem dX8_init_59 : decode cX8_init 59 = .ok (.aload_n 0, 1) := by decide +kernel
theorem dX8_init_60 : decode cX8_init 60 = .ok (.new 36, 3) := by decide +kernel
theorem dX8_init_63 : decode cX8_init 63 = .ok (.dup, 1) := by decide +kernel
theorem dX8_init_64 : decode cX8_init 64 = .ok (.invokespecial 38, 3) := by decide +kernel
theorem dX8_init_67 : decode cX8_init 67 = .ok (.putfield 39, 3) := by decide +kernel
theorem dX8_init_70 : decode cX8_init 70 = .ok (.aload_n 0, 1) := by decide +kernel
theorem dX8_init_71 : decode cX8_init 71 = .ok (.new 43, 3) := by decide +kernel
theorem dX8_init_74 : decode cX8_init 74 = .ok (.dup, 1) := by decide +kernel
theorem dX8_init_75 : decode cX8_init 75 = .ok (.invokespecial 45, 3) := by decide +kernel
theorem dX8_init_78 : decode cX8_init 78 = .ok (.putfield 46, 3) := by decide +kernel
theorem dX8_init_81 : decode cX8_init 81 = .ok (.return_, 1) := by decide +kernel
set_option maxRecDepth 20000 in
theorem ggX8_add_X3_prepare : GoodIn wsX8_add wsX3_prepare := goodIn_r _ [7, 8, 9, 10, 11, 6, 12, 13, 14, 15, 16, 17, 18, 19, 20, 21, 22, 23, 24, 25, 26, 27, 28, 29, 30, 31, 32, 33, 34, 35, 36, 37, 38, 39, 40, 41, 42, 43, 44, 45, 46, 47, 48, 49, 50, 51, 52, 53, 54, 55, 56, 57, 58, 59, 60, 109, 110, 111, 112, 113, 114, 115, 116, 117, 118, 119, 120, 121] (by decide +kernel) (by decide +kernel)
set_option maxRecDepth 20000 in
theorem gX8_add_X3_prepare : GoodIn wsX8_add (wsV RX8 50 RX3 yX3_prepare wsX3_prepare) := goodIn_app (goodIn_of _ (by decide +kernel)) ggX8_add_X3_prepare
set_option maxRecDepth 20000 in
theorem ggX8_add_X6_putIn : GoodIn wsX8_add wsX6_putIn := goodIn_r _ [64, 20, 24, 25, 65, 66, 67, 68, 69, 31, 28, 32, 70, 34, 35, 71, 72, 73, 39, 74, 41, 43, 44, 45, 46, 47, 48, 42, 49, 50, 51, 52, 53, 54, 55, 56, 57, 58, 59, 75, 76, 77, 78, 79, 80, 81, 82, 83, 84, 85, 86, 87, 88, 89, 90, 91, 92, 93, 112, 113, 114, 115, 116, 117, 118, 119, 120, 121] (by decide +kernel) (by decide +kernel)
set_option maxRecDepth 20000 in
theorem gX8_add_X6_putIn : GoodIn wsX8_add (wsV RX8 54 RX6 yX6_putIn wsX6_putIn) := goodIn_app (goodIn_of _ (by decide +kernel)) ggX8_add_X6_putIn
set_option maxRecDepth 20000 in
theorem ggX8_add_X3_keep : GoodIn wsX8_add wsX3_keep := goodIn_r _ [97, 8, 13, 109, 110, 111] (by decide +kernel) (by decide +kernel)
set_option maxRecDepth 20000 in
theorem gX8_add_X3_keep : GoodIn wsX8_add (wsV RX8 58 RX3 yX3_keep wsX3_keep) := goodIn_app (goodIn_of _ (by decide +kernel)) ggX8_add_X3_keep
theorem dX8_add_0 : decode cX8_add 0 = .ok (.aload_n 0, 1) := by decide +kernel
theorem dX8_add_1 : decode cX8_add 1 = .ok (.getfield 25, 3) := by decide +kernel
theorem dX8_add_4 : decode cX8_add 4 = .ok (.aload_n 0, 1) := by decide +kernel
theorem dX8_add_5 : decode cX8_add 5 = .ok (.getfield 10, 3) := by decide +kernel
theorem dX8_add_8 : decode cX8_add 8 = .ok (.invokevirtual 50, 3) := by decide +kernel
theorem dX8_add_11 : decode cX8_add 11 = .ok (.aload_n 0, 1) := by decide +kernel
theorem dX8_add_12 : decode cX8_add 12 = .ok (.getfield 25, 3) := by decide +kernel
theorem dX8_add_15 : decode cX8_add 15 = .ok (.aload_n 0, 1) := by decide +kernel
theorem dX8_add_16 : decode cX8_add 16 = .ok (.getfield 10, 3) := by decide +kernel
theorem dX8_add_19 : decode cX8_add 19 = .ok (.iload_n 1, 1) := by decide +kernel
theorem dX8_add_20 : decode cX8_add 20 = .ok (.iload_n 2, 1) := by decide +kernel
theorem dX8_add_21 : decode cX8_add 21 = .ok (.invokevirtual 54, 3) := by decide +kernel
theorem dX8_add_24 : decode cX8_add 24 = .ok (.invokevirtual 58, 3) := by decide +kernel
theorem dX8_add_27 : decode cX8_add 27 = .ok (.ireturn, 1) := by decide +kernel
set_option maxRecDepth 20000 in
theorem ggX8_take_X3_prepare : GoodIn wsX8_take wsX3_prepare := goodIn_r _ [7, 8, 9, 10, 11, 6, 12, 13, 14, 15, 16, 17, 18, 19, 20, 21, 22, 23, 24, 25, 26, 27, 28, 29, 30, 31, 32, 33, 34, 35, 36, 37, 38, 39, 40, 41, 42, 43, 44, 45, 46, 47, 48, 49, 50, 51, 52, 53, 54, 55, 56, 57, 58, 59, 60, 118, 119, 120, 121, 122, 123, 124, 125, 126, 127, 128, 129, 130] (by decide +kernel) (by decide +kernel)
set_option maxRecDepth 20000 in
theorem gX8_take_X3_prepare : GoodIn wsX8_take (wsV RX8 50 RX3 yX3_prepare wsX3_prepare) := goodIn_app (goodIn_of _ (by decide +kernel)) ggX8_take_X3_prepare
set_option maxRecDepth 20000 in
theorem ggX8_take_X6_takeOff : GoodIn wsX8_take wsX6_takeOff := goodIn_r _ [64, 25, 65, 66, 67, 18, 68, 20, 69, 70, 71, 72, 24, 73, 74, 75, 39, 76, 41, 43, 44, 45, 46, 47, 48, 42, 49, 50, 51, 52, 53, 54, 55, 56, 57, 28, 58, 59, 77, 78, 79, 80, 81, 82, 83, 84, 85, 86, 87, 88, 31, 32, 89, 90, 91, 92, 93, 34, 35, 94, 95, 96, 97, 98, 99, 100, 101, 102, 121, 122, 123, 124, 125, 126, 127, 128, 129, 130] (by decide +kernel) (by decide +kernel)
set_option maxRecDepth 20000 in
theorem gX8_take_X6_takeOff : GoodIn wsX8_take (wsV RX8 62 RX6 yX6_takeOff wsX6_takeOff) := goodIn_app (goodIn_of _ (by decide +kernel)) ggX8_take_X6_takeOff
set_option maxRecDepth 20000 in
theorem ggX8_take_X3_keep : GoodIn wsX8_take wsX3_keep := goodIn_r _ [106, 8, 13, 118, 119, 120] (by decide +kernel) (by decide +kernel)
set_option maxRecDepth 20000 in
theorem gX8_take_X3_keep : GoodIn wsX8_take (wsV RX8 58 RX3 yX3_keep wsX3_keep) := goodIn_app (goodIn_of _ (by decide +kernel)) ggX8_take_X3_keep
theorem dX8_take_0 : decode cX8_take 0 = .ok (.aload_n 0, 1) := by decide +kernel
theorem dX8_take_1 : decode cX8_take 1 = .ok (.getfield 25, 3) := by decide +kernel
theorem dX8_take_4 : decode cX8_take 4 = .ok (.aload_n 0, 1) := by decide +kernel
theorem dX8_take_5 : decode cX8_take 5 = .ok (.getfield 10, 3) := by decide +kernel
theorem dX8_take_8 : decode cX8_take 8 = .ok (.invokevirtual 50, 3) := by decide +kernel
theorem dX8_take_11 : decode cX8_take 11 = .ok (.aload_n 0, 1) := by decide +kernel
theorem dX8_take_12 : decode cX8_take 12 = .ok (.getfield 25, 3) := by decide +kernel
theorem dX8_take_15 : decode cX8_take 15 = .ok (.aload_n 0, 1) := by decide +kernel
theorem dX8_take_16 : decode cX8_take 16 = .ok (.getfield 10, 3) := by decide +kernel
theorem dX8_take_19 : decode cX8_take 19 = .ok (.iload_n 1, 1) := by decide +kernel
theorem dX8_take_20 : decode cX8_take 20 = .ok (.invokevirtual 62, 3) := by decide +kernel
theorem dX8_take_23 : decode cX8_take 23 = .ok (.invokevirtual 58, 3) := by decide +kernel
theorem dX8_take_26 : decode cX8_take 26 = .ok (.ireturn, 1) := by decide +kernel
set_option maxRecDepth 20000 in
theorem ggX8_share_X3_prepare : GoodIn wsX8_share wsX3_prepare := goodIn_r _ [7, 8, 9, 10, 11, 6, 12, 13, 14, 15, 16, 17, 18, 19, 20, 21, 22, 23, 24, 25, 26, 27, 28, 29, 30, 31, 32, 33, 34, 35, 36, 37, 38, 39, 40, 41, 42, 43, 44, 45, 46, 47, 48, 49, 50, 51, 52, 53, 54, 55, 56, 57, 58, 59, 60, 100, 101, 102, 103, 104, 105, 106, 107, 108, 109, 110, 111, 112] (by decide +kernel) (by decide +kernel)
set_option maxRecDepth 20000 in
theorem gX8_share_X3_prepare : GoodIn wsX8_share (wsV RX8 50 RX3 yX3_prepare wsX3_prepare) := goodIn_app (goodIn_of _ (by decide +kernel)) ggX8_share_X3_prepare
set_option maxRecDepth 20000 in
theorem ggX8_share_X6_shareAt : GoodIn wsX8_share wsX6_shareAt := goodIn_r _ [64, 24, 65, 66, 67, 18, 68, 20, 69, 70, 71, 72, 73, 74, 75, 76, 77, 78, 79, 80, 81, 82, 83, 84, 34, 28, 35, 103, 104, 105, 106, 107, 108] (by decide +kernel) (by decide +kernel)
set_option maxRecDepth 20000 in
theorem gX8_share_X6_shareAt : GoodIn wsX8_share (wsV RX8 65 RX6 yX6_shareAt wsX6_shareAt) := goodIn_app (goodIn_of _ (by decide +kernel)) ggX8_share_X6_shareAt
set_option maxRecDepth 20000 in
theorem ggX8_share_X3_keep : GoodIn wsX8_share wsX3_keep := goodIn_r _ [88, 8, 13, 100, 101, 102] (by decide +kernel) (by decide +kernel)
set_option maxRecDepth 20000 in
theorem gX8_share_X3_keep : GoodIn wsX8_share (wsV RX8 58 RX3 yX3_keep wsX3_keep) := goodIn_app (goodIn_of _ (by decide +kernel)) ggX8_share_X3_keep
theorem dX8_share_0 : decode cX8_share 0 = .ok (.aload_n 0, 1) := by decide +kernel
theorem dX8_share_1 : decode cX8_share 1 = .ok (.getfield 25, 3) := by decide +kernel
theorem dX8_share_4 : decode cX8_share 4 = .ok (.aload_n 0, 1) := by decide +kernel
theorem dX8_share_5 : decode cX8_share 5 = .ok (.getfield 10, 3) := by decide +kernel
theorem dX8_share_8 : decode cX8_share 8 = .ok (.invokevirtual 50, 3) := by decide +kernel
theorem dX8_share_11 : decode cX8_share 11 = .ok (.aload_n 0, 1) := by decide +kernel
theorem dX8_share_12 : decode cX8_share 12 = .ok (.getfield 25, 3) := by decide +kernel
theorem dX8_share_15 : decode cX8_share 15 = .ok (.aload_n 0, 1) := by decide +kernel
theorem dX8_share_16 : decode cX8_share 16 = .ok (.getfield 10, 3) := by decide +kernel
theorem dX8_share_19 : decode cX8_share 19 = .ok (.iload_n 1, 1) := by decide +kernel
theorem dX8_share_20 : decode cX8_share 20 = .ok (.invokevirtual 65, 3) := by decide +kernel
theorem dX8_share_23 : decode cX8_share 23 = .ok (.invokevirtual 58, 3) := by decide +kernel
theorem dX8_share_26 : decode cX8_share 26 = .ok (.ireturn, 1) := by decide +kernel
set_option maxRecDepth 20000 in
theorem ggX8_divide_X3_prepare : GoodIn wsX8_divide wsX3_prepare := goodIn_r _ [7, 8, 9, 10, 11, 6, 12, 13, 14, 15, 16, 17, 18, 19, 20, 21, 22, 23, 24, 25, 26, 27, 28, 29, 30, 31, 32, 33, 34, 35, 36, 37, 38, 39, 40, 41, 42, 43, 44, 45, 46, 47, 48, 49, 50, 51, 52, 53, 54, 55, 56, 57, 58, 59, 60, 124, 125, 126, 127, 128, 129, 130, 131, 132, 133, 134, 135, 136] (by decide +kernel) (by decide +kernel)
set_option maxRecDepth 20000 in
theorem gX8_divide_X3_prepare : GoodIn wsX8_divide (wsV RX8 50 RX3 yX3_prepare wsX3_prepare) := goodIn_app (goodIn_of _ (by decide +kernel)) ggX8_divide_X3_prepare
set_option maxRecDepth 20000 in
theorem ggX8_divide_X6_divideAt : GoodIn wsX8_divide wsX6_divideAt := goodIn_r _ [64, 65, 66, 67, 18, 68, 20, 69, 70, 71, 72, 24, 73, 74, 75, 76, 77, 78, 79, 80, 25, 23, 81, 82, 83, 84, 85, 86, 39, 87, 41, 43, 44, 45, 46, 47, 48, 42, 49, 50, 51, 52, 53, 54, 55, 56, 57, 28, 58, 59, 88, 89, 90, 91, 92, 93, 94, 95, 96, 31, 32, 97, 98, 99, 100, 101, 34, 35, 102, 103, 104, 105, 106, 107, 108, 127, 128, 129, 130, 131, 132, 133, 134, 135, 136] (by decide +kernel) (by decide +kernel)
set_option maxRecDepth 20000 in
theorem gX8_divide_X6_divideAt : GoodIn wsX8_divide (wsV RX8 68 RX6 yX6_divideAt wsX6_divideAt) := goodIn_app (goodIn_of _ (by decide +kernel)) ggX8_divide_X6_divideAt
set_option maxRecDepth 20000 in
theorem ggX8_divide_X3_keep : GoodIn wsX8_divide wsX3_keep := goodIn_r _ [112, 8, 13, 124, 125, 126] (by decide +kernel) (by decide +kernel)
set_option maxRecDepth 20000 in
theorem gX8_divide_X3_keep : GoodIn wsX8_divide (wsV RX8 58 RX3 yX3_keep wsX3_keep) := goodIn_app (goodIn_of _ (by decide +kernel)) ggX8_divide_X3_keep
theorem dX8_divide_0 : decode cX8_divide 0 = .ok (.aload_n 0, 1) := by decide +kernel
theorem dX8_divide_1 : decode cX8_divide 1 = .ok (.getfield 25, 3) := by decide +kernel
theorem dX8_divide_4 : decode cX8_divide 4 = .ok (.aload_n 0, 1) := by decide +kernel
theorem dX8_divide_5 : decode cX8_divide 5 = .ok (.getfield 10, 3) := by decide +kernel
theorem dX8_divide_8 : decode cX8_divide 8 = .ok (.invokevirtual 50, 3) := by decide +kernel
theorem dX8_divide_11 : decode cX8_divide 11 = .ok (.aload_n 0, 1) := by decide +kernel
theorem dX8_divide_12 : decode cX8_divide 12 = .ok (.getfield 25, 3) := by decide +kernel
theorem dX8_divide_15 : decode cX8_divide 15 = .ok (.aload_n 0, 1) := by decide +kernel
theorem dX8_divide_16 : decode cX8_divide 16 = .ok (.getfield 10, 3) := by decide +kernel
theorem dX8_divide_19 : decode cX8_divide 19 = .ok (.iload_n 1, 1) := by decide +kernel
theorem dX8_divide_20 : decode cX8_divide 20 = .ok (.invokevirtual 68, 3) := by decide +kernel
theorem dX8_divide_23 : decode cX8_divide 23 = .ok (.invokevirtual 58, 3) := by decide +kernel
theorem dX8_divide_26 : decode cX8_divide 26 = .ok (.ireturn, 1) := by decide +kernel
set_option maxRecDepth 20000 in
theorem ggX8_strike_X3_prepare : GoodIn wsX8_strike wsX3_prepare := goodIn_r _ [7, 8, 9, 10, 11, 6, 12, 13, 14, 15, 16, 17, 18, 19, 20, 21, 22, 23, 24, 25, 26, 27, 28, 29, 30, 31, 32, 33, 34, 35, 36, 37, 38, 39, 40, 41, 42, 43, 44, 45, 46, 47, 48, 49, 50, 51, 52, 53, 54, 55, 56, 57, 58, 59, 60, 128, 129, 130, 131, 132, 133, 134, 135, 136, 137, 138, 139, 140] (by decide +kernel) (by decide +kernel)
set_option maxRecDepth 20000 in
theorem gX8_strike_X3_prepare : GoodIn wsX8_strike (wsV RX8 50 RX3 yX3_prepare wsX3_prepare) := goodIn_app (goodIn_of _ (by decide +kernel)) ggX8_strike_X3_prepare
set_option maxRecDepth 20000 in
theorem ggX8_strike_X6_strikeBy : GoodIn wsX8_strike wsX6_strikeBy := goodIn_r _ [64, 65, 66, 67, 18, 68, 20, 69, 70, 71, 72, 73, 74, 75, 76, 77, 78, 79, 80, 81, 82, 24, 83, 84, 85, 86, 87, 25, 23, 88, 89, 90, 91, 92, 93, 39, 94, 41, 43, 44, 45, 46, 47, 48, 42, 49, 50, 51, 52, 53, 54, 55, 56, 57, 28, 58, 59, 95, 96, 97, 98, 99, 100, 31, 32, 101, 102, 103, 104, 105, 34, 35, 106, 107, 108, 109, 110, 111, 112, 131, 132, 133, 134, 135, 136, 137, 138, 139, 140] (by decide +kernel) (by decide +kernel)
set_option maxRecDepth 20000 in
theorem gX8_strike_X6_strikeBy : GoodIn wsX8_strike (wsV RX8 71 RX6 yX6_strikeBy wsX6_strikeBy) := goodIn_app (goodIn_of _ (by decide +kernel)) ggX8_strike_X6_strikeBy
set_option maxRecDepth 20000 in
theorem ggX8_strike_X3_keep : GoodIn wsX8_strike wsX3_keep := goodIn_r _ [116, 8, 13, 128, 129, 130] (by decide +kernel) (by decide +kernel)
set_option maxRecDepth 20000 in
theorem gX8_strike_X3_keep : GoodIn wsX8_strike (wsV RX8 58 RX3 yX3_keep wsX3_keep) := goodIn_app (goodIn_of _ (by decide +kernel)) ggX8_strike_X3_keep
theorem dX8_strike_0 : decode cX8_strike 0 = .ok (.aload_n 0, 1) := by decide +kernel
theorem dX8_strike_1 : decode cX8_strike 1 = .ok (.getfield 25, 3) := by decide +kernel
theorem dX8_strike_4 : decode cX8_strike 4 = .ok (.aload_n 0, 1) := by decide +kernel
theorem dX8_strike_5 : decode cX8_strike 5 = .ok (.getfield 10, 3) := by decide +kernel
theorem dX8_strike_8 : decode cX8_strike 8 = .ok (.invokevirtual 50, 3) := by decide +kernel
theorem dX8_strike_11 : decode cX8_strike 11 = .ok (.aload_n 0, 1) := by decide +kernel
theorem dX8_strike_12 : decode cX8_strike 12 = .ok (.getfield 25, 3) := by decide +kernel
theorem dX8_strike_15 : decode cX8_strike 15 = .ok (.aload_n 0, 1) := by decide +kernel
theorem dX8_strike_16 : decode cX8_strike 16 = .ok (.getfield 10, 3) := by decide +kernel
theorem dX8_strike_19 : decode cX8_strike 19 = .ok (.iload_n 1, 1) := by decide +kernel
theorem dX8_strike_20 : decode cX8_strike 20 = .ok (.iload_n 2, 1) := by decide +kernel
theorem dX8_strike_21 : decode cX8_strike 21 = .ok (.invokevirtual 71, 3) := by decide +kernel
theorem dX8_strike_24 : decode cX8_strike 24 = .ok (.invokevirtual 58, 3) := by decide +kernel
theorem dX8_strike_27 : decode cX8_strike 27 = .ok (.ireturn, 1) := by decide +kernel
set_option maxRecDepth 20000 in
theorem ggX8_settle_X6_copyFrom : GoodIn wsX8_settle wsX6_copyFrom := goodIn_r _ [8, 9, 10, 11, 12, 13, 14, 15, 16, 17, 18, 19, 20, 21, 22, 23, 24, 25, 26, 27, 28, 29, 30, 31, 32, 33, 34, 35, 36, 37, 38, 39, 40, 41, 42, 43, 44, 45, 46, 47, 48, 49, 113, 114, 115, 116, 117, 118, 119, 120, 121, 122] (by decide +kernel) (by decide +kernel)
set_option maxRecDepth 20000 in
theorem gX8_settle_X6_copyFrom : GoodIn wsX8_settle (wsV RX8 74 RX6 yX6_copyFrom wsX6_copyFrom) := goodIn_app (goodIn_of _ (by decide +kernel)) ggX8_settle_X6_copyFrom
set_option maxRecDepth 20000 in
theorem ggX8_settle_X6_shareInRounds : GoodIn wsX8_settle wsX6_shareInRounds := goodIn_r _ [53, 9, 54, 55, 56, 7, 57, 58, 59, 60, 61, 13, 62, 63, 64, 65, 66, 67, 68, 69, 70, 71, 72, 73, 74, 75, 76, 77, 78, 79, 80, 81, 82, 83, 84, 23, 17, 24, 113, 114, 115, 116, 117, 118] (by decide +kernel) (by decide +kernel)
set_option maxRecDepth 20000 in
theorem gX8_settle_X6_shareInRounds : GoodIn wsX8_settle (wsV RX8 77 RX6 yX6_shareInRounds wsX6_shareInRounds) := goodIn_app (goodIn_of _ (by decide +kernel)) ggX8_settle_X6_shareInRounds
set_option maxRecDepth 20000 in
theorem ggX8_settle_X3_prepare : GoodIn wsX8_settle wsX3_prepare := goodIn_r _ [89, 90, 91, 92, 93, 88, 94, 95, 96, 97, 5, 6, 7, 8, 9, 10, 11, 12, 13, 14, 15, 16, 17, 18, 19, 20, 21, 22, 23, 24, 25, 26, 27, 28, 29, 30, 31, 32, 33, 34, 35, 36, 37, 38, 39, 40, 41, 42, 43, 44, 45, 46, 47, 48, 49, 123, 124, 125, 113, 114, 115, 116, 117, 118, 119, 120, 121, 122] (by decide +kernel) (by decide +kernel)
set_option maxRecDepth 20000 in
theorem gX8_settle_X3_prepare : GoodIn wsX8_settle (wsV RX8 50 RX3 yX3_prepare wsX3_prepare) := goodIn_app (goodIn_of _ (by decide +kernel)) ggX8_settle_X3_prepare
set_option maxRecDepth 20000 in
theorem ggX8_settle_X3_keep : GoodIn wsX8_settle wsX3_keep := goodIn_r _ [101, 90, 95, 123, 124, 125] (by decide +kernel) (by decide +kernel)
set_option maxRecDepth 20000 in
theorem gX8_settle_X3_keep : GoodIn wsX8_settle (wsV RX8 58 RX3 yX3_keep wsX3_keep) := goodIn_app (goodIn_of _ (by decide +kernel)) ggX8_settle_X3_keep
theorem dX8_settle_0 : decode cX8_settle 0 = .ok (.aload_n 0, 1) := by decide +kernel
theorem dX8_settle_1 : decode cX8_settle 1 = .ok (.getfield 16, 3) := by decide +kernel
theorem dX8_settle_4 : decode cX8_settle 4 = .ok (.aload_n 0, 1) := by decide +kernel
theorem dX8_settle_5 : decode cX8_settle 5 = .ok (.getfield 10, 3) := by decide +kernel
theorem dX8_settle_8 : decode cX8_settle 8 = .ok (.invokevirtual 74, 3) := by decide +kernel
theorem dX8_settle_11 : decode cX8_settle 11 = .ok (.aload_n 0, 1) := by decide +kernel
theorem dX8_settle_12 : decode cX8_settle 12 = .ok (.getfield 16, 3) := by decide +kernel
