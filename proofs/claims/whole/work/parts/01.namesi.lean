theorem dX9_climbAt_24 : decode cX9_climbAt 24 = .ok (.ireturn, 1) := by decide +kernel
theorem dX9_climbAt_25 : decode cX9_climbAt 25 = .ok (.aload_n 0, 1) := by decide +kernel
theorem dX9_climbAt_26 : decode cX9_climbAt 26 = .ok (.iload_n 1, 1) := by decide +kernel
theorem dX9_climbAt_27 : decode cX9_climbAt 27 = .ok (.iload_n 2, 1) := by decide +kernel
theorem dX9_climbAt_28 : decode cX9_climbAt 28 = .ok (.iload_n 3, 1) := by decide +kernel
theorem dX9_climbAt_29 : decode cX9_climbAt 29 = .ok (.invokevirtual 196, 3) := by decide +kernel
theorem dX9_climbAt_32 : decode cX9_climbAt 32 = .ok (.ifCond .eq 15, 3) := by decide +kernel
theorem dX9_climbAt_35 : decode cX9_climbAt 35 = .ok (.iload 4, 2) := by decide +kernel
theorem dX9_climbAt_37 : decode cX9_climbAt 37 = .ok (.aload_n 0, 1) := by decide +kernel
theorem dX9_climbAt_38 : decode cX9_climbAt 38 = .ok (.iload_n 1, 1) := by decide +kernel
theorem dX9_climbAt_39 : decode cX9_climbAt 39 = .ok (.iload_n 2, 1) := by decide +kernel
theorem dX9_climbAt_40 : decode cX9_climbAt 40 = .ok (.iconst 0, 1) := by decide +kernel
theorem dX9_climbAt_41 : decode cX9_climbAt 41 = .ok (.invokevirtual 199, 3) := by decide +kernel
theorem dX9_climbAt_44 : decode cX9_climbAt 44 = .ok (.if_icmp .lt 6, 3) := by decide +kernel
theorem dX9_climbAt_47 : decode cX9_climbAt 47 = .ok (.bipush (-4), 2) := by decide +kernel
theorem dX9_climbAt_49 : decode cX9_climbAt 49 = .ok (.ireturn, 1) := by decide +kernel
theorem dX9_climbAt_50 : decode cX9_climbAt 50 = .ok (.iload_n 1, 1) := by decide +kernel
theorem dX9_climbAt_51 : decode cX9_climbAt 51 = .ok (.istore 5, 2) := by decide +kernel
theorem dX9_climbAt_53 : decode cX9_climbAt 53 = .ok (.iconst 0, 1) := by decide +kernel
theorem dX9_climbAt_54 : decode cX9_climbAt 54 = .ok (.istore 6, 2) := by decide +kernel
theorem dX9_climbAt_56 : decode cX9_climbAt 56 = .ok (.iload 6, 2) := by decide +kernel
theorem dX9_climbAt_58 : decode cX9_climbAt 58 = .ok (.iload 4, 2) := by decide +kernel
theorem dX9_climbAt_60 : decode cX9_climbAt 60 = .ok (.if_icmp .ge 18, 3) := by decide +kernel
theorem dX9_climbAt_63 : decode cX9_climbAt 63 = .ok (.aload_n 0, 1) := by decide +kernel
theorem dX9_climbAt_64 : decode cX9_climbAt 64 = .ok (.getfield 40, 3) := by decide +kernel
theorem dX9_climbAt_67 : decode cX9_climbAt 67 = .ok (.iload 5, 2) := by decide +kernel
theorem dX9_climbAt_69 : decode cX9_climbAt 69 = .ok (.iaload, 1) := by decide +kernel
theorem dX9_climbAt_70 : decode cX9_climbAt 70 = .ok (.istore 5, 2) := by decide +kernel
theorem dX9_climbAt_72 : decode cX9_climbAt 72 = .ok (.iinc 6 1, 3) := by decide +kernel
theorem dX9_climbAt_75 : decode cX9_climbAt 75 = .ok (.goto (-19), 3) := by decide +kernel
theorem dX9_climbAt_78 : decode cX9_climbAt 78 = .ok (.iload 5, 2) := by decide +kernel
theorem dX9_climbAt_80 : decode cX9_climbAt 80 = .ok (.ireturn, 1) := by decide +kernel
set_option maxRecDepth 20000 in
theorem ggX9_crown_X9_kinOf : GoodIn wsX9_crown wsX9_kinOf := goodIn_r _ [6, 1, 7, 8, 9, 5, 10, 11, 12, 13, 14, 15, 16, 17, 18, 19, 20, 21, 22, 23, 24, 25, 26, 27, 28, 29, 30, 31, 32, 33, 34, 35] (by decide +kernel) (by decide +kernel)
set_option maxRecDepth 20000 in
theorem gX9_crown_X9_kinOf : GoodIn wsX9_crown (wsV RX9 70 RX9 yX9_kinOf wsX9_kinOf) := goodIn_app (goodIn_of _ (by decide +kernel)) ggX9_crown_X9_kinOf
set_option maxRecDepth 20000 in
theorem ggX9_crown_X9_of : GoodIn wsX9_crown wsX9_of := goodIn_r _ [14, 1, 18, 19, 20, 21, 22, 23, 24, 25, 26, 27, 28, 29, 30, 31, 32, 33, 34, 35] (by decide +kernel) (by decide +kernel)
set_option maxRecDepth 20000 in
theorem gX9_crown_X9_of : GoodIn wsX9_crown (wsV RX9 59 RX9 yX9_of wsX9_of) := goodIn_app (goodIn_of _ (by decide +kernel)) ggX9_crown_X9_of
theorem dX9_crown_0 : decode cX9_crown 0 = .ok (.bipush (-4), 2) := by decide +kernel
theorem dX9_crown_2 : decode cX9_crown 2 = .ok (.istore_n 1, 1) := by decide +kernel
theorem dX9_crown_3 : decode cX9_crown 3 = .ok (.iconst 0, 1) := by decide +kernel
theorem dX9_crown_4 : decode cX9_crown 4 = .ok (.istore_n 2, 1) := by decide +kernel
theorem dX9_crown_5 : decode cX9_crown 5 = .ok (.iload_n 2, 1) := by decide +kernel
theorem dX9_crown_6 : decode cX9_crown 6 = .ok (.aload_n 0, 1) := by decide +kernel
theorem dX9_crown_7 : decode cX9_crown 7 = .ok (.getfield 7, 3) := by decide +kernel
theorem dX9_crown_10 : decode cX9_crown 10 = .ok (.iconst 2, 1) := by decide +kernel
theorem dX9_crown_11 : decode cX9_crown 11 = .ok (.iaload, 1) := by decide +kernel
theorem dX9_crown_12 : decode cX9_crown 12 = .ok (.if_icmp .ge 68, 3) := by decide +kernel
theorem dX9_crown_15 : decode cX9_crown 15 = .ok (.iload_n 1, 1) := by decide +kernel
theorem dX9_crown_16 : decode cX9_crown 16 = .ok (.ifCond .lt 42, 3) := by decide +kernel
theorem dX9_crown_19 : decode cX9_crown 19 = .ok (.aload_n 0, 1) := by decide +kernel
theorem dX9_crown_20 : decode cX9_crown 20 = .ok (.iload_n 2, 1) := by decide +kernel
theorem dX9_crown_21 : decode cX9_crown 21 = .ok (.invokevirtual 70, 3) := by decide +kernel
theorem dX9_crown_24 : decode cX9_crown 24 = .ok (.aload_n 0, 1) := by decide +kernel
theorem dX9_crown_25 : decode cX9_crown 25 = .ok (.iload_n 1, 1) := by decide +kernel
theorem dX9_crown_26 : decode cX9_crown 26 = .ok (.invokevirtual 70, 3) := by decide +kernel
theorem dX9_crown_29 : decode cX9_crown 29 = .ok (.if_icmp .gt 29, 3) := by decide +kernel
theorem dX9_crown_32 : decode cX9_crown 32 = .ok (.aload_n 0, 1) := by decide +kernel
theorem dX9_crown_33 : decode cX9_crown 33 = .ok (.iload_n 2, 1) := by decide +kernel
theorem dX9_crown_34 : decode cX9_crown 34 = .ok (.invokevirtual 70, 3) := by decide +kernel
theorem dX9_crown_37 : decode cX9_crown 37 = .ok (.aload_n 0, 1) := by decide +kernel
theorem dX9_crown_38 : decode cX9_crown 38 = .ok (.iload_n 1, 1) := by decide +kernel
theorem dX9_crown_39 : decode cX9_crown 39 = .ok (.invokevirtual 70, 3) := by decide +kernel
theorem dX9_crown_42 : decode cX9_crown 42 = .ok (.if_icmp .ne 20, 3) := by decide +kernel
theorem dX9_crown_45 : decode cX9_crown 45 = .ok (.aload_n 0, 1) := by decide +kernel
theorem dX9_crown_46 : decode cX9_crown 46 = .ok (.iload_n 2, 1) := by decide +kernel
theorem dX9_crown_47 : decode cX9_crown 47 = .ok (.invokevirtual 59, 3) := by decide +kernel
theorem dX9_crown_50 : decode cX9_crown 50 = .ok (.aload_n 0, 1) := by decide +kernel
theorem dX9_crown_51 : decode cX9_crown 51 = .ok (.iload_n 1, 1) := by decide +kernel
theorem dX9_crown_52 : decode cX9_crown 52 = .ok (.invokevirtual 59, 3) := by decide +kernel
theorem dX9_crown_55 : decode cX9_crown 55 = .ok (.if_icmp .le 7, 3) := by decide +kernel
theorem dX9_crown_58 : decode cX9_crown 58 = .ok (.iconst 1, 1) := by decide +kernel
theorem dX9_crown_59 : decode cX9_crown 59 = .ok (.goto 4, 3) := by decide +kernel
theorem dX9_crown_62 : decode cX9_crown 62 = .ok (.iconst 0, 1) := by decide +kernel
theorem dX9_crown_63 : decode cX9_crown 63 = .ok (.istore_n 3, 1) := by decide +kernel
theorem dX9_crown_64 : decode cX9_crown 64 = .ok (.iload_n 3, 1) := by decide +kernel
theorem dX9_crown_65 : decode cX9_crown 65 = .ok (.ifCond .eq 7, 3) := by decide +kernel
theorem dX9_crown_68 : decode cX9_crown 68 = .ok (.iload_n 2, 1) := by decide +kernel
theorem dX9_crown_69 : decode cX9_crown 69 = .ok (.goto 4, 3) := by decide +kernel
theorem dX9_crown_72 : decode cX9_crown 72 = .ok (.iload_n 1, 1) := by decide +kernel
theorem dX9_crown_73 : decode cX9_crown 73 = .ok (.istore_n 1, 1) := by decide +kernel
theorem dX9_crown_74 : decode cX9_crown 74 = .ok (.iinc 2 1, 3) := by decide +kernel
theorem dX9_crown_77 : decode cX9_crown 77 = .ok (.goto (-72), 3) := by decide +kernel
theorem dX9_crown_80 : decode cX9_crown 80 = .ok (.iload_n 1, 1) := by decide +kernel
theorem dX9_crown_81 : decode cX9_crown 81 = .ok (.ireturn, 1) := by decide +kernel
set_option maxRecDepth 20000 in
theorem ggX9_exponents_X9_of : GoodIn wsX9_exponents wsX9_of := goodIn_r _ [6, 1, 10, 11, 12, 13, 14, 15, 16, 17, 18, 19, 20, 21, 22, 23, 24, 25, 26, 27] (by decide +kernel) (by decide +kernel)
set_option maxRecDepth 20000 in
theorem gX9_exponents_X9_of : GoodIn wsX9_exponents (wsV RX9 59 RX9 yX9_of wsX9_of) := goodIn_app (goodIn_of _ (by decide +kernel)) ggX9_exponents_X9_of
set_option maxRecDepth 20000 in
theorem ggX9_exponents_X9_exponent : GoodIn wsX9_exponents wsX9_exponent := goodIn_r _ [9] (by decide +kernel) (by decide +kernel)
set_option maxRecDepth 20000 in
theorem gX9_exponents_X9_exponent : GoodIn wsX9_exponents (va_wsS RX9 203 yX9_exponent wsX9_exponent) := goodIn_app (goodIn_of _ (by decide +kernel)) ggX9_exponents_X9_exponent
theorem dX9_exponents_0 : decode cX9_exponents 0 = .ok (.iconst 0, 1) := by decide +kernel
theorem dX9_exponents_1 : decode cX9_exponents 1 = .ok (.istore_n 2, 1) := by decide +kernel
theorem dX9_exponents_2 : decode cX9_exponents 2 = .ok (.iconst 0, 1) := by decide +kernel
theorem dX9_exponents_3 : decode cX9_exponents 3 = .ok (.istore_n 3, 1) := by decide +kernel
theorem dX9_exponents_4 : decode cX9_exponents 4 = .ok (.iload_n 3, 1) := by decide +kernel
theorem dX9_exponents_5 : decode cX9_exponents 5 = .ok (.aload_n 0, 1) := by decide +kernel
theorem dX9_exponents_6 : decode cX9_exponents 6 = .ok (.getfield 7, 3) := by decide +kernel
theorem dX9_exponents_9 : decode cX9_exponents 9 = .ok (.iconst 2, 1) := by decide +kernel
theorem dX9_exponents_10 : decode cX9_exponents 10 = .ok (.iaload, 1) := by decide +kernel
theorem dX9_exponents_11 : decode cX9_exponents 11 = .ok (.if_icmp .ge 21, 3) := by decide +kernel
theorem dX9_exponents_14 : decode cX9_exponents 14 = .ok (.iload_n 2, 1) := by decide +kernel
theorem dX9_exponents_15 : decode cX9_exponents 15 = .ok (.aload_n 0, 1) := by decide +kernel
theorem dX9_exponents_16 : decode cX9_exponents 16 = .ok (.iload_n 3, 1) := by decide +kernel
theorem dX9_exponents_17 : decode cX9_exponents 17 = .ok (.invokevirtual 59, 3) := by decide +kernel
theorem dX9_exponents_20 : decode cX9_exponents 20 = .ok (.iload_n 1, 1) := by decide +kernel
theorem dX9_exponents_21 : decode cX9_exponents 21 = .ok (.invokestatic 203, 3) := by decide +kernel
theorem dX9_exponents_24 : decode cX9_exponents 24 = .ok (.iadd, 1) := by decide +kernel
theorem dX9_exponents_25 : decode cX9_exponents 25 = .ok (.istore_n 2, 1) := by decide +kernel
theorem dX9_exponents_26 : decode cX9_exponents 26 = .ok (.iinc 3 1, 3) := by decide +kernel
theorem dX9_exponents_29 : decode cX9_exponents 29 = .ok (.goto (-25), 3) := by decide +kernel
theorem dX9_exponents_32 : decode cX9_exponents 32 = .ok (.iload_n 2, 1) := by decide +kernel
theorem dX9_exponents_33 : decode cX9_exponents 33 = .ok (.ireturn, 1) := by decide +kernel
set_option maxRecDepth 20000 in
theorem ggX9_greatestExponent_X9_of : GoodIn wsX9_greatestExponent wsX9_of := goodIn_r _ [6, 1, 10, 11, 12, 13, 14, 15, 16, 17, 18, 19, 20, 21, 22, 23, 24, 25, 26, 27] (by decide +kernel) (by decide +kernel)
set_option maxRecDepth 20000 in
theorem gX9_greatestExponent_X9_of : GoodIn wsX9_greatestExponent (wsV RX9 59 RX9 yX9_of wsX9_of) := goodIn_app (goodIn_of _ (by decide +kernel)) ggX9_greatestExponent_X9_of
set_option maxRecDepth 20000 in
theorem ggX9_greatestExponent_X9_exponent : GoodIn wsX9_greatestExponent wsX9_exponent := goodIn_r _ [9] (by decide +kernel) (by decide +kernel)
set_option maxRecDepth 20000 in
theorem gX9_greatestExponent_X9_exponent : GoodIn wsX9_greatestExponent (va_wsS RX9 203 yX9_exponent wsX9_exponent) := goodIn_app (goodIn_of _ (by decide +kernel)) ggX9_greatestExponent_X9_exponent
theorem dX9_greatestExponent_0 : decode cX9_greatestExponent 0 = .ok (.iconst 0, 1) := by decide +kernel
theorem dX9_greatestExponent_1 : decode cX9_greatestExponent 1 = .ok (.istore_n 2, 1) := by decide +kernel
theorem dX9_greatestExponent_2 : decode cX9_greatestExponent 2 = .ok (.iconst 0, 1) := by decide +kernel
theorem dX9_greatestExponent_3 : decode cX9_greatestExponent 3 = .ok (.istore_n 3, 1) := by decide +kernel
theorem dX9_greatestExponent_4 : decode cX9_greatestExponent 4 = .ok (.iload_n 3, 1) := by decide +kernel
theorem dX9_greatestExponent_5 : decode cX9_greatestExponent 5 = .ok (.aload_n 0, 1) := by decide +kernel
theorem dX9_greatestExponent_6 : decode cX9_greatestExponent 6 = .ok (.getfield 7, 3) := by decide +kernel
theorem dX9_greatestExponent_9 : decode cX9_greatestExponent 9 = .ok (.iconst 2, 1) := by decide +kernel
theorem dX9_greatestExponent_10 : decode cX9_greatestExponent 10 = .ok (.iaload, 1) := by decide +kernel
theorem dX9_greatestExponent_11 : decode cX9_greatestExponent 11 = .ok (.if_icmp .ge 33, 3) := by decide +kernel
theorem dX9_greatestExponent_14 : decode cX9_greatestExponent 14 = .ok (.aload_n 0, 1) := by decide +kernel
theorem dX9_greatestExponent_15 : decode cX9_greatestExponent 15 = .ok (.iload_n 3, 1) := by decide +kernel
theorem dX9_greatestExponent_16 : decode cX9_greatestExponent 16 = .ok (.invokevirtual 59, 3) := by decide +kernel
theorem dX9_greatestExponent_19 : decode cX9_greatestExponent 19 = .ok (.iload_n 1, 1) := by decide +kernel
theorem dX9_greatestExponent_20 : decode cX9_greatestExponent 20 = .ok (.invokestatic 203, 3) := by decide +kernel
theorem dX9_greatestExponent_23 : decode cX9_greatestExponent 23 = .ok (.istore 4, 2) := by decide +kernel
theorem dX9_greatestExponent_25 : decode cX9_greatestExponent 25 = .ok (.iload 4, 2) := by decide +kernel
theorem dX9_greatestExponent_27 : decode cX9_greatestExponent 27 = .ok (.iload_n 2, 1) := by decide +kernel
theorem dX9_greatestExponent_28 : decode cX9_greatestExponent 28 = .ok (.if_icmp .le 8, 3) := by decide +kernel
theorem dX9_greatestExponent_31 : decode cX9_greatestExponent 31 = .ok (.iload 4, 2) := by decide +kernel
theorem dX9_greatestExponent_33 : decode cX9_greatestExponent 33 = .ok (.goto 4, 3) := by decide +kernel
theorem dX9_greatestExponent_36 : decode cX9_greatestExponent 36 = .ok (.iload_n 2, 1) := by decide +kernel
theorem dX9_greatestExponent_37 : decode cX9_greatestExponent 37 = .ok (.istore_n 2, 1) := by decide +kernel
theorem dX9_greatestExponent_38 : decode cX9_greatestExponent 38 = .ok (.iinc 3 1, 3) := by decide +kernel
theorem dX9_greatestExponent_41 : decode cX9_greatestExponent 41 = .ok (.goto (-37), 3) := by decide +kernel
theorem dX9_greatestExponent_44 : decode cX9_greatestExponent 44 = .ok (.iload_n 2, 1) := by decide +kernel
theorem dX9_greatestExponent_45 : decode cX9_greatestExponent 45 = .ok (.ireturn, 1) := by decide +kernel
set_option maxRecDepth 20000 in
theorem ggX9_divided_X9_of : GoodIn wsX9_divided wsX9_of := goodIn_r _ [6, 1, 7, 8, 9, 10, 11, 12, 13, 14, 15, 16, 17, 18, 19, 20, 21, 22, 23, 24] (by decide +kernel) (by decide +kernel)
set_option maxRecDepth 20000 in
theorem gX9_divided_X9_of : GoodIn wsX9_divided (wsV RX9 59 RX9 yX9_of wsX9_of) := goodIn_app (goodIn_of _ (by decide +kernel)) ggX9_divided_X9_of
theorem dX9_divided_0 : decode cX9_divided 0 = .ok (.iconst 0, 1) := by decide +kernel
theorem dX9_divided_1 : decode cX9_divided 1 = .ok (.istore_n 2, 1) := by decide +kernel
theorem dX9_divided_2 : decode cX9_divided 2 = .ok (.iconst 0, 1) := by decide +kernel
theorem dX9_divided_3 : decode cX9_divided 3 = .ok (.istore_n 3, 1) := by decide +kernel
theorem dX9_divided_4 : decode cX9_divided 4 = .ok (.iload_n 3, 1) := by decide +kernel
theorem dX9_divided_5 : decode cX9_divided 5 = .ok (.aload_n 0, 1) := by decide +kernel
theorem dX9_divided_6 : decode cX9_divided 6 = .ok (.getfield 7, 3) := by decide +kernel
theorem dX9_divided_9 : decode cX9_divided 9 = .ok (.iconst 2, 1) := by decide +kernel
theorem dX9_divided_10 : decode cX9_divided 10 = .ok (.iaload, 1) := by decide +kernel
theorem dX9_divided_11 : decode cX9_divided 11 = .ok (.if_icmp .ge 27, 3) := by decide +kernel
theorem dX9_divided_14 : decode cX9_divided 14 = .ok (.iload_n 2, 1) := by decide +kernel
theorem dX9_divided_15 : decode cX9_divided 15 = .ok (.aload_n 0, 1) := by decide +kernel
theorem dX9_divided_16 : decode cX9_divided 16 = .ok (.iload_n 3, 1) := by decide +kernel
theorem dX9_divided_17 : decode cX9_divided 17 = .ok (.invokevirtual 59, 3) := by decide +kernel
theorem dX9_divided_20 : decode cX9_divided 20 = .ok (.iload_n 1, 1) := by decide +kernel
theorem dX9_divided_21 : decode cX9_divided 21 = .ok (.irem, 1) := by decide +kernel
theorem dX9_divided_22 : decode cX9_divided 22 = .ok (.ifCond .ne 7, 3) := by decide +kernel
theorem dX9_divided_25 : decode cX9_divided 25 = .ok (.iconst 1, 1) := by decide +kernel
theorem dX9_divided_26 : decode cX9_divided 26 = .ok (.goto 4, 3) := by decide +kernel
theorem dX9_divided_29 : decode cX9_divided 29 = .ok (.iconst 0, 1) := by decide +kernel
theorem dX9_divided_30 : decode cX9_divided 30 = .ok (.iadd, 1) := by decide +kernel
theorem dX9_divided_31 : decode cX9_divided 31 = .ok (.istore_n 2, 1) := by decide +kernel
theorem dX9_divided_32 : decode cX9_divided 32 = .ok (.iinc 3 1, 3) := by decide +kernel
theorem dX9_divided_35 : decode cX9_divided 35 = .ok (.goto (-31), 3) := by decide +kernel
theorem dX9_divided_38 : decode cX9_divided 38 = .ok (.iload_n 2, 1) := by decide +kernel
theorem dX9_divided_39 : decode cX9_divided 39 = .ok (.ireturn, 1) := by decide +kernel
set_option maxRecDepth 20000 in
theorem ggX9_prime_X9_rank : GoodIn wsX9_prime wsX9_rank := goodIn_r _ [6, 7, 30, 31, 32, 33, 34, 35, 36, 37, 38, 39, 40, 41, 42, 43, 44, 45, 46, 47] (by decide +kernel) (by decide +kernel)
set_option maxRecDepth 20000 in
theorem gX9_prime_X9_rank : GoodIn wsX9_prime (wsV RX9 103 RX9 yX9_rank wsX9_rank) := goodIn_app (goodIn_of _ (by decide +kernel)) ggX9_prime_X9_rank
set_option maxRecDepth 20000 in
theorem ggX9_prime_X9_in : GoodIn wsX9_prime wsX9_in := goodIn_r _ [10] (by decide +kernel) (by decide +kernel)
set_option maxRecDepth 20000 in
theorem gX9_prime_X9_in : GoodIn wsX9_prime (va_wsS RX9 51 yX9_in wsX9_in) := goodIn_app (goodIn_of _ (by decide +kernel)) ggX9_prime_X9_in
set_option maxRecDepth 20000 in
theorem ggX9_prime_X9_exponents : GoodIn wsX9_prime wsX9_exponents := goodIn_r _ [14, 1, 15, 16, 17, 5, 18, 19, 20, 21, 30, 31, 32, 33, 34, 35, 36, 37, 38, 39, 40, 41, 42, 43, 44, 45, 46, 47] (by decide +kernel) (by decide +kernel)
set_option maxRecDepth 20000 in
theorem gX9_prime_X9_exponents : GoodIn wsX9_prime (wsV RX9 206 RX9 yX9_exponents wsX9_exponents) := goodIn_app (goodIn_of _ (by decide +kernel)) ggX9_prime_X9_exponents
set_option maxRecDepth 20000 in
theorem ggX9_prime_X9_greatestExponent : GoodIn wsX9_prime wsX9_greatestExponent := goodIn_r _ [25, 1, 15, 16, 17, 5, 18, 19, 20, 21, 30, 31, 32, 33, 34, 35, 36, 37, 38, 39, 40, 41, 42, 43, 44, 45, 46, 47] (by decide +kernel) (by decide +kernel)
set_option maxRecDepth 20000 in
theorem gX9_prime_X9_greatestExponent : GoodIn wsX9_prime (wsV RX9 209 RX9 yX9_greatestExponent wsX9_greatestExponent) := goodIn_app (goodIn_of _ (by decide +kernel)) ggX9_prime_X9_greatestExponent
set_option maxRecDepth 20000 in
theorem ggX9_prime_X9_divided : GoodIn wsX9_prime wsX9_divided := goodIn_r _ [29, 1, 15, 16, 17, 5, 18, 30, 31, 32, 33, 34, 35, 36, 37, 38, 39, 40, 41, 42, 43, 44, 45, 46, 47] (by decide +kernel) (by decide +kernel)
set_option maxRecDepth 20000 in
theorem gX9_prime_X9_divided : GoodIn wsX9_prime (wsV RX9 212 RX9 yX9_divided wsX9_divided) := goodIn_app (goodIn_of _ (by decide +kernel)) ggX9_prime_X9_divided
theorem dX9_prime_0 : decode cX9_prime 0 = .ok (.aload_n 0, 1) := by decide +kernel
theorem dX9_prime_1 : decode cX9_prime 1 = .ok (.iload_n 1, 1) := by decide +kernel
theorem dX9_prime_2 : decode cX9_prime 2 = .ok (.invokevirtual 103, 3) := by decide +kernel
theorem dX9_prime_5 : decode cX9_prime 5 = .ok (.istore_n 3, 1) := by decide +kernel
theorem dX9_prime_6 : decode cX9_prime 6 = .ok (.iload_n 3, 1) := by decide +kernel
theorem dX9_prime_7 : decode cX9_prime 7 = .ok (.ifCond .lt 12, 3) := by decide +kernel
theorem dX9_prime_10 : decode cX9_prime 10 = .ok (.iload_n 2, 1) := by decide +kernel
theorem dX9_prime_11 : decode cX9_prime 11 = .ok (.iconst 0, 1) := by decide +kernel
theorem dX9_prime_12 : decode cX9_prime 12 = .ok (.iconst 4, 1) := by decide +kernel
theorem dX9_prime_13 : decode cX9_prime 13 = .ok (.invokestatic 51, 3) := by decide +kernel
theorem dX9_prime_16 : decode cX9_prime 16 = .ok (.ifCond .ne 5, 3) := by decide +kernel
theorem dX9_prime_19 : decode cX9_prime 19 = .ok (.iconst (-1), 1) := by decide +kernel
theorem dX9_prime_20 : decode cX9_prime 20 = .ok (.ireturn, 1) := by decide +kernel
theorem dX9_prime_21 : decode cX9_prime 21 = .ok (.iload_n 2, 1) := by decide +kernel
theorem dX9_prime_22 : decode cX9_prime 22 = .ok (.tableswitch 68 0 3 #[30, 40, 56, 62], 30) := by decide +kernel
theorem dX9_prime_52 : decode cX9_prime 52 = .ok (.aload_n 0, 1) := by decide +kernel
theorem dX9_prime_53 : decode cX9_prime 53 = .ok (.getfield 7, 3) := by decide +kernel
theorem dX9_prime_56 : decode cX9_prime 56 = .ok (.bipush 16, 2) := by decide +kernel
theorem dX9_prime_58 : decode cX9_prime 58 = .ok (.iload_n 3, 1) := by decide +kernel
theorem dX9_prime_59 : decode cX9_prime 59 = .ok (.iadd, 1) := by decide +kernel
theorem dX9_prime_60 : decode cX9_prime 60 = .ok (.iaload, 1) := by decide +kernel
theorem dX9_prime_61 : decode cX9_prime 61 = .ok (.ireturn, 1) := by decide +kernel
theorem dX9_prime_62 : decode cX9_prime 62 = .ok (.aload_n 0, 1) := by decide +kernel
theorem dX9_prime_63 : decode cX9_prime 63 = .ok (.getfield 7, 3) := by decide +kernel
theorem dX9_prime_66 : decode cX9_prime 66 = .ok (.bipush 16, 2) := by decide +kernel
theorem dX9_prime_68 : decode cX9_prime 68 = .ok (.iload_n 3, 1) := by decide +kernel
theorem dX9_prime_69 : decode cX9_prime 69 = .ok (.iadd, 1) := by decide +kernel
theorem dX9_prime_70 : decode cX9_prime 70 = .ok (.iaload, 1) := by decide +kernel
theorem dX9_prime_71 : decode cX9_prime 71 = .ok (.aload_n 0, 1) := by decide +kernel
theorem dX9_prime_72 : decode cX9_prime 72 = .ok (.iload_n 1, 1) := by decide +kernel
theorem dX9_prime_73 : decode cX9_prime 73 = .ok (.invokevirtual 206, 3) := by decide +kernel
theorem dX9_prime_76 : decode cX9_prime 76 = .ok (.iadd, 1) := by decide +kernel
theorem dX9_prime_77 : decode cX9_prime 77 = .ok (.ireturn, 1) := by decide +kernel
theorem dX9_prime_78 : decode cX9_prime 78 = .ok (.aload_n 0, 1) := by decide +kernel
theorem dX9_prime_79 : decode cX9_prime 79 = .ok (.iload_n 1, 1) := by decide +kernel
theorem dX9_prime_80 : decode cX9_prime 80 = .ok (.invokevirtual 206, 3) := by decide +kernel
theorem dX9_prime_83 : decode cX9_prime 83 = .ok (.ireturn, 1) := by decide +kernel
theorem dX9_prime_84 : decode cX9_prime 84 = .ok (.aload_n 0, 1) := by decide +kernel
theorem dX9_prime_85 : decode cX9_prime 85 = .ok (.iload_n 1, 1) := by decide +kernel
theorem dX9_prime_86 : decode cX9_prime 86 = .ok (.invokevirtual 209, 3) := by decide +kernel
theorem dX9_prime_89 : decode cX9_prime 89 = .ok (.ireturn, 1) := by decide +kernel
theorem dX9_prime_90 : decode cX9_prime 90 = .ok (.aload_n 0, 1) := by decide +kernel
theorem dX9_prime_91 : decode cX9_prime 91 = .ok (.iload_n 1, 1) := by decide +kernel
theorem dX9_prime_92 : decode cX9_prime 92 = .ok (.invokevirtual 212, 3) := by decide +kernel
theorem dX9_prime_95 : decode cX9_prime 95 = .ok (.ireturn, 1) := by decide +kernel
theorem dX9_chips_0 : decode cX9_chips 0 = .ok (.iconst 0, 1) := by decide +kernel
theorem dX9_chips_1 : decode cX9_chips 1 = .ok (.istore_n 2, 1) := by decide +kernel
theorem dX9_chips_2 : decode cX9_chips 2 = .ok (.iconst 0, 1) := by decide +kernel
theorem dX9_chips_3 : decode cX9_chips 3 = .ok (.istore_n 3, 1) := by decide +kernel
theorem dX9_chips_4 : decode cX9_chips 4 = .ok (.iload_n 3, 1) := by decide +kernel
theorem dX9_chips_5 : decode cX9_chips 5 = .ok (.sipush 1229, 3) := by decide +kernel
theorem dX9_chips_8 : decode cX9_chips 8 = .ok (.if_icmp .ge 45, 3) := by decide +kernel
theorem dX9_chips_11 : decode cX9_chips 11 = .ok (.iload_n 2, 1) := by decide +kernel
theorem dX9_chips_12 : decode cX9_chips 12 = .ok (.iload_n 1, 1) := by decide +kernel
theorem dX9_chips_13 : decode cX9_chips 13 = .ok (.ifCond .eq 15, 3) := by decide +kernel
theorem dX9_chips_16 : decode cX9_chips 16 = .ok (.aload_n 0, 1) := by decide +kernel
theorem dX9_chips_17 : decode cX9_chips 17 = .ok (.getfield 7, 3) := by decide +kernel
theorem dX9_chips_20 : decode cX9_chips 20 = .ok (.bipush 16, 2) := by decide +kernel
theorem dX9_chips_22 : decode cX9_chips 22 = .ok (.iload_n 3, 1) := by decide +kernel
theorem dX9_chips_23 : decode cX9_chips 23 = .ok (.iadd, 1) := by decide +kernel
theorem dX9_chips_24 : decode cX9_chips 24 = .ok (.iaload, 1) := by decide +kernel
theorem dX9_chips_25 : decode cX9_chips 25 = .ok (.goto 20, 3) := by decide +kernel
theorem dX9_chips_28 : decode cX9_chips 28 = .ok (.aload_n 0, 1) := by decide +kernel
theorem dX9_chips_29 : decode cX9_chips 29 = .ok (.getfield 7, 3) := by decide +kernel
theorem dX9_chips_32 : decode cX9_chips 32 = .ok (.bipush 16, 2) := by decide +kernel
theorem dX9_chips_34 : decode cX9_chips 34 = .ok (.iload_n 3, 1) := by decide +kernel
theorem dX9_chips_35 : decode cX9_chips 35 = .ok (.iadd, 1) := by decide +kernel
theorem dX9_chips_36 : decode cX9_chips 36 = .ok (.iaload, 1) := by decide +kernel
theorem dX9_chips_37 : decode cX9_chips 37 = .ok (.ifCond .le 7, 3) := by decide +kernel
theorem dX9_chips_40 : decode cX9_chips 40 = .ok (.iconst 1, 1) := by decide +kernel
theorem dX9_chips_41 : decode cX9_chips 41 = .ok (.goto 4, 3) := by decide +kernel
theorem dX9_chips_44 : decode cX9_chips 44 = .ok (.iconst 0, 1) := by decide +kernel
theorem dX9_chips_45 : decode cX9_chips 45 = .ok (.iadd, 1) := by decide +kernel
theorem dX9_chips_46 : decode cX9_chips 46 = .ok (.istore_n 2, 1) := by decide +kernel
theorem dX9_chips_47 : decode cX9_chips 47 = .ok (.iinc 3 1, 3) := by decide +kernel
theorem dX9_chips_50 : decode cX9_chips 50 = .ok (.goto (-46), 3) := by decide +kernel
theorem dX9_chips_53 : decode cX9_chips 53 = .ok (.iload_n 2, 1) := by decide +kernel
theorem dX9_chips_54 : decode cX9_chips 54 = .ok (.ireturn, 1) := by decide +kernel
set_option maxRecDepth 20000 in
theorem ggX9_dividing_X9_divided : GoodIn wsX9_dividing wsX9_divided := goodIn_r _ [6, 7, 8, 9, 10, 5, 11, 12, 13, 14, 15, 16, 17, 18, 19, 20, 21, 22, 23, 24, 25, 26, 27, 28, 29] (by decide +kernel) (by decide +kernel)
set_option maxRecDepth 20000 in
theorem gX9_dividing_X9_divided : GoodIn wsX9_dividing (wsV RX9 212 RX9 yX9_divided wsX9_divided) := goodIn_app (goodIn_of _ (by decide +kernel)) ggX9_dividing_X9_divided
theorem dX9_dividing_0 : decode cX9_dividing 0 = .ok (.iconst 0, 1) := by decide +kernel
theorem dX9_dividing_1 : decode cX9_dividing 1 = .ok (.istore_n 1, 1) := by decide +kernel
theorem dX9_dividing_2 : decode cX9_dividing 2 = .ok (.iconst 0, 1) := by decide +kernel
theorem dX9_dividing_3 : decode cX9_dividing 3 = .ok (.istore_n 2, 1) := by decide +kernel
theorem dX9_dividing_4 : decode cX9_dividing 4 = .ok (.iload_n 2, 1) := by decide +kernel
theorem dX9_dividing_5 : decode cX9_dividing 5 = .ok (.sipush 1229, 3) := by decide +kernel
theorem dX9_dividing_8 : decode cX9_dividing 8 = .ok (.if_icmp .ge 30, 3) := by decide +kernel
theorem dX9_dividing_11 : decode cX9_dividing 11 = .ok (.iload_n 1, 1) := by decide +kernel
theorem dX9_dividing_12 : decode cX9_dividing 12 = .ok (.aload_n 0, 1) := by decide +kernel
theorem dX9_dividing_13 : decode cX9_dividing 13 = .ok (.aload_n 0, 1) := by decide +kernel
theorem dX9_dividing_14 : decode cX9_dividing 14 = .ok (.getfield 22, 3) := by decide +kernel
theorem dX9_dividing_17 : decode cX9_dividing 17 = .ok (.iload_n 2, 1) := by decide +kernel
theorem dX9_dividing_18 : decode cX9_dividing 18 = .ok (.iaload, 1) := by decide +kernel
theorem dX9_dividing_19 : decode cX9_dividing 19 = .ok (.invokevirtual 212, 3) := by decide +kernel
theorem dX9_dividing_22 : decode cX9_dividing 22 = .ok (.ifCond .le 7, 3) := by decide +kernel
theorem dX9_dividing_25 : decode cX9_dividing 25 = .ok (.iconst 1, 1) := by decide +kernel
theorem dX9_dividing_26 : decode cX9_dividing 26 = .ok (.goto 4, 3) := by decide +kernel
theorem dX9_dividing_29 : decode cX9_dividing 29 = .ok (.iconst 0, 1) := by decide +kernel
theorem dX9_dividing_30 : decode cX9_dividing 30 = .ok (.iadd, 1) := by decide +kernel
theorem dX9_dividing_31 : decode cX9_dividing 31 = .ok (.istore_n 1, 1) := by decide +kernel
theorem dX9_dividing_32 : decode cX9_dividing 32 = .ok (.iinc 2 1, 3) := by decide +kernel
theorem dX9_dividing_35 : decode cX9_dividing 35 = .ok (.goto (-31), 3) := by decide +kernel
theorem dX9_dividing_38 : decode cX9_dividing 38 = .ok (.iload_n 1, 1) := by decide +kernel
theorem dX9_dividing_39 : decode cX9_dividing 39 = .ok (.ireturn, 1) := by decide +kernel
set_option maxRecDepth 20000 in
theorem ggX9_ones_X9_of : GoodIn wsX9_ones wsX9_of := goodIn_r _ [6, 1, 7, 8, 9, 10, 11, 12, 13, 14, 15, 16, 17, 18, 19, 20, 21, 22, 23, 24] (by decide +kernel) (by decide +kernel)
set_option maxRecDepth 20000 in
theorem gX9_ones_X9_of : GoodIn wsX9_ones (wsV RX9 59 RX9 yX9_of wsX9_of) := goodIn_app (goodIn_of _ (by decide +kernel)) ggX9_ones_X9_of
theorem dX9_ones_0 : decode cX9_ones 0 = .ok (.iconst 0, 1) := by decide +kernel
theorem dX9_ones_1 : decode cX9_ones 1 = .ok (.istore_n 1, 1) := by decide +kernel
theorem dX9_ones_2 : decode cX9_ones 2 = .ok (.iconst 0, 1) := by decide +kernel
theorem dX9_ones_3 : decode cX9_ones 3 = .ok (.istore_n 2, 1) := by decide +kernel
theorem dX9_ones_4 : decode cX9_ones 4 = .ok (.iload_n 2, 1) := by decide +kernel
theorem dX9_ones_5 : decode cX9_ones 5 = .ok (.aload_n 0, 1) := by decide +kernel
theorem dX9_ones_6 : decode cX9_ones 6 = .ok (.getfield 7, 3) := by decide +kernel
theorem dX9_ones_9 : decode cX9_ones 9 = .ok (.iconst 2, 1) := by decide +kernel
theorem dX9_ones_10 : decode cX9_ones 10 = .ok (.iaload, 1) := by decide +kernel
theorem dX9_ones_11 : decode cX9_ones 11 = .ok (.if_icmp .ge 26, 3) := by decide +kernel
theorem dX9_ones_14 : decode cX9_ones 14 = .ok (.iload_n 1, 1) := by decide +kernel
theorem dX9_ones_15 : decode cX9_ones 15 = .ok (.aload_n 0, 1) := by decide +kernel
theorem dX9_ones_16 : decode cX9_ones 16 = .ok (.iload_n 2, 1) := by decide +kernel
theorem dX9_ones_17 : decode cX9_ones 17 = .ok (.invokevirtual 59, 3) := by decide +kernel
theorem dX9_ones_20 : decode cX9_ones 20 = .ok (.iconst 1, 1) := by decide +kernel
theorem dX9_ones_21 : decode cX9_ones 21 = .ok (.if_icmp .ne 7, 3) := by decide +kernel
theorem dX9_ones_24 : decode cX9_ones 24 = .ok (.iconst 1, 1) := by decide +kernel
theorem dX9_ones_25 : decode cX9_ones 25 = .ok (.goto 4, 3) := by decide +kernel
theorem dX9_ones_28 : decode cX9_ones 28 = .ok (.iconst 0, 1) := by decide +kernel
theorem dX9_ones_29 : decode cX9_ones 29 = .ok (.iadd, 1) := by decide +kernel
theorem dX9_ones_30 : decode cX9_ones 30 = .ok (.istore_n 1, 1) := by decide +kernel
theorem dX9_ones_31 : decode cX9_ones 31 = .ok (.iinc 2 1, 3) := by decide +kernel
theorem dX9_ones_34 : decode cX9_ones 34 = .ok (.goto (-30), 3) := by decide +kernel
theorem dX9_ones_37 : decode cX9_ones 37 = .ok (.iload_n 1, 1) := by decide +kernel
theorem dX9_ones_38 : decode cX9_ones 38 = .ok (.ireturn, 1) := by decide +kernel
set_option maxRecDepth 20000 in
theorem ggX9_count_X9_pairs : GoodIn wsX9_count wsX9_pairs := goodIn_r _ [8, 1, 9, 10, 11, 7, 12, 13, 14, 15, 16, 17, 18, 19, 20, 21, 22, 23, 58, 59, 60, 61, 62, 63, 64, 65, 66, 67, 68, 69, 70, 71, 72, 73, 74, 75] (by decide +kernel) (by decide +kernel)
set_option maxRecDepth 20000 in
theorem gX9_count_X9_pairs : GoodIn wsX9_count (wsV RX9 215 RX9 yX9_pairs wsX9_pairs) := goodIn_app (goodIn_of _ (by decide +kernel)) ggX9_count_X9_pairs
set_option maxRecDepth 20000 in
theorem ggX9_count_X9_families : GoodIn wsX9_count wsX9_families := goodIn_r _ [27, 1, 28, 29, 30, 31, 7, 32, 13, 14, 15, 16, 17, 18, 19, 20, 21, 22, 23, 33, 34, 35, 36, 58, 59, 60, 61, 62, 63, 64, 65, 66, 67, 68, 69, 70, 71, 72, 73, 74, 75] (by decide +kernel) (by decide +kernel)
set_option maxRecDepth 20000 in
theorem gX9_count_X9_families : GoodIn wsX9_count (wsV RX9 218 RX9 yX9_families wsX9_families) := goodIn_app (goodIn_of _ (by decide +kernel)) ggX9_count_X9_families
set_option maxRecDepth 20000 in
theorem ggX9_count_X9_isSettled : GoodIn wsX9_count wsX9_isSettled := goodIn_r _ [40, 1, 17, 18, 19, 7, 20, 58, 59, 60, 61, 62, 63, 64, 65, 66, 67, 68, 69, 70, 71, 72, 73, 74, 75] (by decide +kernel) (by decide +kernel)
set_option maxRecDepth 20000 in
theorem gX9_count_X9_isSettled : GoodIn wsX9_count (wsV RX9 118 RX9 yX9_isSettled wsX9_isSettled) := goodIn_app (goodIn_of _ (by decide +kernel)) ggX9_count_X9_isSettled
set_option maxRecDepth 20000 in
theorem ggX9_count_X9_chips : GoodIn wsX9_count wsX9_chips := goodIn_r _ [44, 1, 58, 59, 60, 61, 62, 63, 64, 65, 66, 67, 68, 69, 70, 71, 72, 73, 74, 75] (by decide +kernel) (by decide +kernel)
set_option maxRecDepth 20000 in
theorem gX9_count_X9_chips : GoodIn wsX9_count (wsV RX9 222 RX9 yX9_chips wsX9_chips) := goodIn_app (goodIn_of _ (by decide +kernel)) ggX9_count_X9_chips
set_option maxRecDepth 20000 in
theorem ggX9_count_X9_dividing : GoodIn wsX9_count wsX9_dividing := goodIn_r _ [48, 49, 50, 51, 52, 7, 53, 1, 17, 18, 19, 20, 58, 59, 60, 61, 62, 63, 64, 65, 66, 67, 68, 69, 70, 71, 72, 73, 74, 75] (by decide +kernel) (by decide +kernel)
set_option maxRecDepth 20000 in
theorem gX9_count_X9_dividing : GoodIn wsX9_count (wsV RX9 225 RX9 yX9_dividing wsX9_dividing) := goodIn_app (goodIn_of _ (by decide +kernel)) ggX9_count_X9_dividing
set_option maxRecDepth 20000 in
theorem ggX9_count_X9_ones : GoodIn wsX9_count wsX9_ones := goodIn_r _ [57, 1, 17, 18, 19, 7, 20, 58, 59, 60, 61, 62, 63, 64, 65, 66, 67, 68, 69, 70, 71, 72, 73, 74, 75] (by decide +kernel) (by decide +kernel)
set_option maxRecDepth 20000 in
theorem gX9_count_X9_ones : GoodIn wsX9_count (wsV RX9 228 RX9 yX9_ones wsX9_ones) := goodIn_app (goodIn_of _ (by decide +kernel)) ggX9_count_X9_ones
theorem dX9_count_0 : decode cX9_count 0 = .ok (.iload_n 1, 1) := by decide +kernel
theorem dX9_count_1 : decode cX9_count 1 = .ok (.tableswitch 163 0 13 #[71, 78, 83, 83, 98, 111, 111, 126, 133, 138, 143, 143, 153, 158], 71) := by decide +kernel
theorem dX9_count_72 : decode cX9_count 72 = .ok (.aload_n 0, 1) := by decide +kernel
theorem dX9_count_73 : decode cX9_count 73 = .ok (.getfield 7, 3) := by decide +kernel
theorem dX9_count_76 : decode cX9_count 76 = .ok (.iconst 2, 1) := by decide +kernel
theorem dX9_count_77 : decode cX9_count 77 = .ok (.iaload, 1) := by decide +kernel
theorem dX9_count_78 : decode cX9_count 78 = .ok (.ireturn, 1) := by decide +kernel
theorem dX9_count_79 : decode cX9_count 79 = .ok (.aload_n 0, 1) := by decide +kernel
theorem dX9_count_80 : decode cX9_count 80 = .ok (.invokevirtual 215, 3) := by decide +kernel
theorem dX9_count_83 : decode cX9_count 83 = .ok (.ireturn, 1) := by decide +kernel
theorem dX9_count_84 : decode cX9_count 84 = .ok (.aload_n 0, 1) := by decide +kernel
theorem dX9_count_85 : decode cX9_count 85 = .ok (.iload_n 1, 1) := by decide +kernel
theorem dX9_count_86 : decode cX9_count 86 = .ok (.iconst 3, 1) := by decide +kernel
theorem dX9_count_87 : decode cX9_count 87 = .ok (.if_icmp .ne 7, 3) := by decide +kernel
theorem dX9_count_90 : decode cX9_count 90 = .ok (.iconst 1, 1) := by decide +kernel
theorem dX9_count_91 : decode cX9_count 91 = .ok (.goto 4, 3) := by decide +kernel
theorem dX9_count_94 : decode cX9_count 94 = .ok (.iconst 0, 1) := by decide +kernel
theorem dX9_count_95 : decode cX9_count 95 = .ok (.invokevirtual 218, 3) := by decide +kernel
theorem dX9_count_98 : decode cX9_count 98 = .ok (.ireturn, 1) := by decide +kernel
theorem dX9_count_99 : decode cX9_count 99 = .ok (.aload_n 0, 1) := by decide +kernel
theorem dX9_count_100 : decode cX9_count 100 = .ok (.invokevirtual 118, 3) := by decide +kernel
theorem dX9_count_103 : decode cX9_count 103 = .ok (.ifCond .eq 7, 3) := by decide +kernel
theorem dX9_count_106 : decode cX9_count 106 = .ok (.iconst 1, 1) := by decide +kernel
theorem dX9_count_107 : decode cX9_count 107 = .ok (.goto 4, 3) := by decide +kernel
theorem dX9_count_110 : decode cX9_count 110 = .ok (.iconst 0, 1) := by decide +kernel
theorem dX9_count_111 : decode cX9_count 111 = .ok (.ireturn, 1) := by decide +kernel
theorem dX9_count_112 : decode cX9_count 112 = .ok (.aload_n 0, 1) := by decide +kernel
theorem dX9_count_113 : decode cX9_count 113 = .ok (.iload_n 1, 1) := by decide +kernel
theorem dX9_count_114 : decode cX9_count 114 = .ok (.iconst 5, 1) := by decide +kernel
theorem dX9_count_115 : decode cX9_count 115 = .ok (.if_icmp .ne 7, 3) := by decide +kernel
theorem dX9_count_118 : decode cX9_count 118 = .ok (.iconst 1, 1) := by decide +kernel
theorem dX9_count_119 : decode cX9_count 119 = .ok (.goto 4, 3) := by decide +kernel
theorem dX9_count_122 : decode cX9_count 122 = .ok (.iconst 0, 1) := by decide +kernel
theorem dX9_count_123 : decode cX9_count 123 = .ok (.invokevirtual 222, 3) := by decide +kernel
theorem dX9_count_126 : decode cX9_count 126 = .ok (.ireturn, 1) := by decide +kernel
theorem dX9_count_127 : decode cX9_count 127 = .ok (.aload_n 0, 1) := by decide +kernel
theorem dX9_count_128 : decode cX9_count 128 = .ok (.getfield 7, 3) := by decide +kernel
theorem dX9_count_131 : decode cX9_count 131 = .ok (.iconst 3, 1) := by decide +kernel
theorem dX9_count_132 : decode cX9_count 132 = .ok (.iaload, 1) := by decide +kernel
theorem dX9_count_133 : decode cX9_count 133 = .ok (.ireturn, 1) := by decide +kernel
theorem dX9_count_134 : decode cX9_count 134 = .ok (.aload_n 0, 1) := by decide +kernel
theorem dX9_count_135 : decode cX9_count 135 = .ok (.invokevirtual 225, 3) := by decide +kernel
theorem dX9_count_138 : decode cX9_count 138 = .ok (.ireturn, 1) := by decide +kernel
theorem dX9_count_139 : decode cX9_count 139 = .ok (.aload_n 0, 1) := by decide +kernel
theorem dX9_count_140 : decode cX9_count 140 = .ok (.invokevirtual 228, 3) := by decide +kernel
theorem dX9_count_143 : decode cX9_count 143 = .ok (.ireturn, 1) := by decide +kernel
theorem dX9_count_144 : decode cX9_count 144 = .ok (.aload_n 0, 1) := by decide +kernel
theorem dX9_count_145 : decode cX9_count 145 = .ok (.getfield 7, 3) := by decide +kernel
theorem dX9_count_148 : decode cX9_count 148 = .ok (.iload_n 1, 1) := by decide +kernel
theorem dX9_count_149 : decode cX9_count 149 = .ok (.bipush 10, 2) := by decide +kernel
theorem dX9_count_151 : decode cX9_count 151 = .ok (.isub, 1) := by decide +kernel
theorem dX9_count_152 : decode cX9_count 152 = .ok (.iaload, 1) := by decide +kernel
theorem dX9_count_153 : decode cX9_count 153 = .ok (.ireturn, 1) := by decide +kernel
theorem dX9_count_154 : decode cX9_count 154 = .ok (.aload_n 0, 1) := by decide +kernel
theorem dX9_count_155 : decode cX9_count 155 = .ok (.getfield 132, 3) := by decide +kernel
theorem dX9_count_158 : decode cX9_count 158 = .ok (.ireturn, 1) := by decide +kernel
theorem dX9_count_159 : decode cX9_count 159 = .ok (.aload_n 0, 1) := by decide +kernel
theorem dX9_count_160 : decode cX9_count 160 = .ok (.getfield 47, 3) := by decide +kernel
theorem dX9_count_163 : decode cX9_count 163 = .ok (.ireturn, 1) := by decide +kernel
theorem dX9_count_164 : decode cX9_count 164 = .ok (.iconst (-1), 1) := by decide +kernel
theorem dX9_count_165 : decode cX9_count 165 = .ok (.ireturn, 1) := by decide +kernel
set_option maxRecDepth 20000 in
theorem ggX9_mean_X9_pairs : GoodIn wsX9_mean wsX9_pairs := goodIn_r _ [6, 1, 7, 8, 9, 5, 10, 11, 12, 13, 14, 15, 16, 17, 18, 19, 20, 21, 22, 23, 24, 25, 26, 27, 28, 29, 30, 31, 32, 33, 34, 35, 36, 37, 38, 39] (by decide +kernel) (by decide +kernel)
set_option maxRecDepth 20000 in
theorem gX9_mean_X9_pairs : GoodIn wsX9_mean (wsV RX9 215 RX9 yX9_pairs wsX9_pairs) := goodIn_app (goodIn_of _ (by decide +kernel)) ggX9_mean_X9_pairs
theorem dX9_mean_0 : decode cX9_mean 0 = .ok (.iconst 2, 1) := by decide +kernel
theorem dX9_mean_1 : decode cX9_mean 1 = .ok (.aload_n 0, 1) := by decide +kernel
theorem dX9_mean_2 : decode cX9_mean 2 = .ok (.invokevirtual 215, 3) := by decide +kernel
theorem dX9_mean_5 : decode cX9_mean 5 = .ok (.imul, 1) := by decide +kernel
theorem dX9_mean_6 : decode cX9_mean 6 = .ok (.i2d, 1) := by decide +kernel
theorem dX9_mean_7 : decode cX9_mean 7 = .ok (.dstore_n 1, 1) := by decide +kernel
theorem dX9_mean_8 : decode cX9_mean 8 = .ok (.aload_n 0, 1) := by decide +kernel
theorem dX9_mean_9 : decode cX9_mean 9 = .ok (.getfield 7, 3) := by decide +kernel
theorem dX9_mean_12 : decode cX9_mean 12 = .ok (.iconst 2, 1) := by decide +kernel
theorem dX9_mean_13 : decode cX9_mean 13 = .ok (.iaload, 1) := by decide +kernel
theorem dX9_mean_14 : decode cX9_mean 14 = .ok (.ifCond .ne 7, 3) := by decide +kernel
theorem dX9_mean_17 : decode cX9_mean 17 = .ok (.dconst 0, 1) := by decide +kernel
theorem dX9_mean_18 : decode cX9_mean 18 = .ok (.goto 12, 3) := by decide +kernel
theorem dX9_mean_21 : decode cX9_mean 21 = .ok (.dload_n 1, 1) := by decide +kernel
theorem dX9_mean_22 : decode cX9_mean 22 = .ok (.aload_n 0, 1) := by decide +kernel
theorem dX9_mean_23 : decode cX9_mean 23 = .ok (.getfield 7, 3) := by decide +kernel
theorem dX9_mean_26 : decode cX9_mean 26 = .ok (.iconst 2, 1) := by decide +kernel
theorem dX9_mean_27 : decode cX9_mean 27 = .ok (.iaload, 1) := by decide +kernel
theorem dX9_mean_28 : decode cX9_mean 28 = .ok (.i2d, 1) := by decide +kernel
theorem dX9_mean_29 : decode cX9_mean 29 = .ok (.ddiv, 1) := by decide +kernel
theorem dX9_mean_30 : decode cX9_mean 30 = .ok (.dreturn, 1) := by decide +kernel
set_option maxRecDepth 20000 in
theorem ggX9_longestOf_X9_finds : GoodIn wsX9_longestOf wsX9_finds := goodIn_r _ [6, 7, 8, 9, 10, 11, 5, 12, 1, 13, 14, 15, 16, 17, 18, 19, 20, 21, 22, 23, 28, 29, 30, 31, 32, 33, 34, 35, 36, 37, 38, 39, 40, 41, 42, 43, 44, 45] (by decide +kernel) (by decide +kernel)
set_option maxRecDepth 20000 in
theorem gX9_longestOf_X9_finds : GoodIn wsX9_longestOf (wsV RX9 196 RX9 yX9_finds wsX9_finds) := goodIn_app (goodIn_of _ (by decide +kernel)) ggX9_longestOf_X9_finds
set_option maxRecDepth 20000 in
theorem ggX9_longestOf_X9_measure : GoodIn wsX9_longestOf wsX9_measure := goodIn_r _ [27, 7, 9, 10, 11, 5, 12, 1, 21, 22, 23, 28, 29, 30, 31, 32, 33, 34, 35, 36, 37, 38, 39, 40, 41, 42, 43, 44, 45] (by decide +kernel) (by decide +kernel)
set_option maxRecDepth 20000 in
theorem gX9_longestOf_X9_measure : GoodIn wsX9_longestOf (wsV RX9 199 RX9 yX9_measure wsX9_measure) := goodIn_app (goodIn_of _ (by decide +kernel)) ggX9_longestOf_X9_measure
theorem dX9_longestOf_0 : decode cX9_longestOf 0 = .ok (.iconst 0, 1) := by decide +kernel
theorem dX9_longestOf_1 : decode cX9_longestOf 1 = .ok (.istore_n 1, 1) := by decide +kernel
theorem dX9_longestOf_2 : decode cX9_longestOf 2 = .ok (.iconst 0, 1) := by decide +kernel
theorem dX9_longestOf_3 : decode cX9_longestOf 3 = .ok (.istore_n 2, 1) := by decide +kernel
theorem dX9_longestOf_4 : decode cX9_longestOf 4 = .ok (.iload_n 2, 1) := by decide +kernel
theorem dX9_longestOf_5 : decode cX9_longestOf 5 = .ok (.aload_n 0, 1) := by decide +kernel
theorem dX9_longestOf_6 : decode cX9_longestOf 6 = .ok (.getfield 7, 3) := by decide +kernel
theorem dX9_longestOf_9 : decode cX9_longestOf 9 = .ok (.iconst 2, 1) := by decide +kernel
theorem dX9_longestOf_10 : decode cX9_longestOf 10 = .ok (.iaload, 1) := by decide +kernel
theorem dX9_longestOf_11 : decode cX9_longestOf 11 = .ok (.if_icmp .ge 63, 3) := by decide +kernel
theorem dX9_longestOf_14 : decode cX9_longestOf 14 = .ok (.iload_n 2, 1) := by decide +kernel
theorem dX9_longestOf_15 : decode cX9_longestOf 15 = .ok (.istore_n 3, 1) := by decide +kernel
theorem dX9_longestOf_16 : decode cX9_longestOf 16 = .ok (.iload_n 3, 1) := by decide +kernel
theorem dX9_longestOf_17 : decode cX9_longestOf 17 = .ok (.aload_n 0, 1) := by decide +kernel
theorem dX9_longestOf_18 : decode cX9_longestOf 18 = .ok (.getfield 7, 3) := by decide +kernel
theorem dX9_longestOf_21 : decode cX9_longestOf 21 = .ok (.iconst 2, 1) := by decide +kernel
theorem dX9_longestOf_22 : decode cX9_longestOf 22 = .ok (.iaload, 1) := by decide +kernel
theorem dX9_longestOf_23 : decode cX9_longestOf 23 = .ok (.if_icmp .ge 45, 3) := by decide +kernel
theorem dX9_longestOf_26 : decode cX9_longestOf 26 = .ok (.aload_n 0, 1) := by decide +kernel
theorem dX9_longestOf_27 : decode cX9_longestOf 27 = .ok (.iload_n 2, 1) := by decide +kernel
theorem dX9_longestOf_28 : decode cX9_longestOf 28 = .ok (.iload_n 3, 1) := by decide +kernel
theorem dX9_longestOf_29 : decode cX9_longestOf 29 = .ok (.iconst 0, 1) := by decide +kernel
theorem dX9_longestOf_30 : decode cX9_longestOf 30 = .ok (.invokevirtual 196, 3) := by decide +kernel
theorem dX9_longestOf_33 : decode cX9_longestOf 33 = .ok (.ifCond .eq 13, 3) := by decide +kernel
theorem dX9_longestOf_36 : decode cX9_longestOf 36 = .ok (.aload_n 0, 1) := by decide +kernel
theorem dX9_longestOf_37 : decode cX9_longestOf 37 = .ok (.iload_n 2, 1) := by decide +kernel
theorem dX9_longestOf_38 : decode cX9_longestOf 38 = .ok (.iload_n 3, 1) := by decide +kernel
theorem dX9_longestOf_39 : decode cX9_longestOf 39 = .ok (.iconst 0, 1) := by decide +kernel
theorem dX9_longestOf_40 : decode cX9_longestOf 40 = .ok (.invokevirtual 199, 3) := by decide +kernel
theorem dX9_longestOf_43 : decode cX9_longestOf 43 = .ok (.goto 4, 3) := by decide +kernel
theorem dX9_longestOf_46 : decode cX9_longestOf 46 = .ok (.iconst 0, 1) := by decide +kernel
theorem dX9_longestOf_47 : decode cX9_longestOf 47 = .ok (.istore 4, 2) := by decide +kernel
theorem dX9_longestOf_49 : decode cX9_longestOf 49 = .ok (.iload 4, 2) := by decide +kernel
theorem dX9_longestOf_51 : decode cX9_longestOf 51 = .ok (.iload_n 1, 1) := by decide +kernel
theorem dX9_longestOf_52 : decode cX9_longestOf 52 = .ok (.if_icmp .le 8, 3) := by decide +kernel
theorem dX9_longestOf_55 : decode cX9_longestOf 55 = .ok (.iload 4, 2) := by decide +kernel
theorem dX9_longestOf_57 : decode cX9_longestOf 57 = .ok (.goto 4, 3) := by decide +kernel
theorem dX9_longestOf_60 : decode cX9_longestOf 60 = .ok (.iload_n 1, 1) := by decide +kernel
theorem dX9_longestOf_61 : decode cX9_longestOf 61 = .ok (.istore_n 1, 1) := by decide +kernel
theorem dX9_longestOf_62 : decode cX9_longestOf 62 = .ok (.iinc 3 1, 3) := by decide +kernel
theorem dX9_longestOf_65 : decode cX9_longestOf 65 = .ok (.goto (-49), 3) := by decide +kernel
theorem dX9_longestOf_68 : decode cX9_longestOf 68 = .ok (.iinc 2 1, 3) := by decide +kernel
theorem dX9_longestOf_71 : decode cX9_longestOf 71 = .ok (.goto (-67), 3) := by decide +kernel
theorem dX9_longestOf_74 : decode cX9_longestOf 74 = .ok (.iload_n 1, 1) := by decide +kernel
theorem dX9_longestOf_75 : decode cX9_longestOf 75 = .ok (.ireturn, 1) := by decide +kernel
set_option maxRecDepth 20000 in
theorem ggX9_whyNotDone_X9_whyNotShared : GoodIn wsX9_whyNotDone wsX9_whyNotShared := goodIn_r _ [5, 6, 7, 8, 4, 9, 10, 11, 12, 13, 14, 15, 16, 17, 18, 19, 20, 29, 30, 31, 32, 33, 34, 35, 36, 37, 38, 39, 40, 41, 42, 43, 44, 45, 46] (by decide +kernel) (by decide +kernel)
set_option maxRecDepth 20000 in
theorem gX9_whyNotDone_X9_whyNotShared : GoodIn wsX9_whyNotDone (wsV RX9 97 RX9 yX9_whyNotShared wsX9_whyNotShared) := goodIn_app (goodIn_of _ (by decide +kernel)) ggX9_whyNotDone_X9_whyNotShared
set_option maxRecDepth 20000 in
theorem ggX9_whyNotDone_X9_whyNotDivided : GoodIn wsX9_whyNotDone wsX9_whyNotDivided := goodIn_r _ [24, 6, 7, 8, 4, 9, 14, 15, 16, 17, 29, 30, 31, 32, 33, 34, 35, 36, 37, 38, 39, 40, 41, 42, 43, 44, 45, 46] (by decide +kernel) (by decide +kernel)
set_option maxRecDepth 20000 in
theorem gX9_whyNotDone_X9_whyNotDivided : GoodIn wsX9_whyNotDone (wsV RX9 109 RX9 yX9_whyNotDivided wsX9_whyNotDivided) := goodIn_app (goodIn_of _ (by decide +kernel)) ggX9_whyNotDone_X9_whyNotDivided
set_option maxRecDepth 20000 in
theorem ggX9_whyNotDone_X9_isStep : GoodIn wsX9_whyNotDone wsX9_isStep := goodIn_r _ [28, 6, 7, 8, 4, 9, 29, 30, 31, 32, 33, 34, 35, 36, 37, 38, 39, 40, 41, 42, 43, 44, 45, 46] (by decide +kernel) (by decide +kernel)
set_option maxRecDepth 20000 in
theorem gX9_whyNotDone_X9_isStep : GoodIn wsX9_whyNotDone (wsV RX9 86 RX9 yX9_isStep wsX9_isStep) := goodIn_app (goodIn_of _ (by decide +kernel)) ggX9_whyNotDone_X9_isStep
set_option maxRecDepth 20000 in
theorem ggX9_whyNotDone_X9_of : GoodIn wsX9_whyNotDone wsX9_of := goodIn_r _ [17, 6, 29, 30, 31, 32, 33, 34, 35, 36, 37, 38, 39, 40, 41, 42, 43, 44, 45, 46] (by decide +kernel) (by decide +kernel)
set_option maxRecDepth 20000 in
theorem gX9_whyNotDone_X9_of : GoodIn wsX9_whyNotDone (wsV RX9 59 RX9 yX9_of wsX9_of) := goodIn_app (goodIn_of _ (by decide +kernel)) ggX9_whyNotDone_X9_of
theorem dX9_whyNotDone_0 : decode cX9_whyNotDone 0 = .ok (.iload_n 1, 1) := by decide +kernel
theorem dX9_whyNotDone_1 : decode cX9_whyNotDone 1 = .ok (.iconst 2, 1) := by decide +kernel
theorem dX9_whyNotDone_2 : decode cX9_whyNotDone 2 = .ok (.if_icmp .ge 21, 3) := by decide +kernel
theorem dX9_whyNotDone_5 : decode cX9_whyNotDone 5 = .ok (.iload_n 1, 1) := by decide +kernel
theorem dX9_whyNotDone_6 : decode cX9_whyNotDone 6 = .ok (.ifCond .ne 11, 3) := by decide +kernel
theorem dX9_whyNotDone_9 : decode cX9_whyNotDone 9 = .ok (.aload_n 0, 1) := by decide +kernel
theorem dX9_whyNotDone_10 : decode cX9_whyNotDone 10 = .ok (.iload_n 2, 1) := by decide +kernel
theorem dX9_whyNotDone_11 : decode cX9_whyNotDone 11 = .ok (.invokevirtual 97, 3) := by decide +kernel
theorem dX9_whyNotDone_14 : decode cX9_whyNotDone 14 = .ok (.goto 8, 3) := by decide +kernel
theorem dX9_whyNotDone_17 : decode cX9_whyNotDone 17 = .ok (.aload_n 0, 1) := by decide +kernel
theorem dX9_whyNotDone_18 : decode cX9_whyNotDone 18 = .ok (.iload_n 2, 1) := by decide +kernel
theorem dX9_whyNotDone_19 : decode cX9_whyNotDone 19 = .ok (.invokevirtual 109, 3) := by decide +kernel
theorem dX9_whyNotDone_22 : decode cX9_whyNotDone 22 = .ok (.ireturn, 1) := by decide +kernel
theorem dX9_whyNotDone_23 : decode cX9_whyNotDone 23 = .ok (.aload_n 0, 1) := by decide +kernel
theorem dX9_whyNotDone_24 : decode cX9_whyNotDone 24 = .ok (.iload_n 2, 1) := by decide +kernel
theorem dX9_whyNotDone_25 : decode cX9_whyNotDone 25 = .ok (.invokevirtual 86, 3) := by decide +kernel
theorem dX9_whyNotDone_28 : decode cX9_whyNotDone 28 = .ok (.ifCond .ne 7, 3) := by decide +kernel
theorem dX9_whyNotDone_31 : decode cX9_whyNotDone 31 = .ok (.iconst (-1), 1) := by decide +kernel
theorem dX9_whyNotDone_32 : decode cX9_whyNotDone 32 = .ok (.goto 18, 3) := by decide +kernel
theorem dX9_whyNotDone_35 : decode cX9_whyNotDone 35 = .ok (.aload_n 0, 1) := by decide +kernel
theorem dX9_whyNotDone_36 : decode cX9_whyNotDone 36 = .ok (.iload_n 2, 1) := by decide +kernel
theorem dX9_whyNotDone_37 : decode cX9_whyNotDone 37 = .ok (.invokevirtual 59, 3) := by decide +kernel
theorem dX9_whyNotDone_40 : decode cX9_whyNotDone 40 = .ok (.iconst 1, 1) := by decide +kernel
theorem dX9_whyNotDone_41 : decode cX9_whyNotDone 41 = .ok (.if_icmp .ne 8, 3) := by decide +kernel
theorem dX9_whyNotDone_44 : decode cX9_whyNotDone 44 = .ok (.bipush (-2), 2) := by decide +kernel
theorem dX9_whyNotDone_46 : decode cX9_whyNotDone 46 = .ok (.goto 4, 3) := by decide +kernel
theorem dX9_whyNotDone_49 : decode cX9_whyNotDone 49 = .ok (.iconst 0, 1) := by decide +kernel
theorem dX9_whyNotDone_50 : decode cX9_whyNotDone 50 = .ok (.ireturn, 1) := by decide +kernel
set_option maxRecDepth 20000 in
theorem ggX9_done_X9_shares : GoodIn wsX9_done wsX9_shares := goodIn_r _ [5, 6, 7, 8, 9, 4, 10, 11, 12, 13, 14, 15, 16, 17, 48, 49, 50, 51, 52, 53, 54, 55, 56, 57, 58, 59, 60, 61, 62, 63, 64, 65] (by decide +kernel) (by decide +kernel)
set_option maxRecDepth 20000 in
theorem gX9_done_X9_shares : GoodIn wsX9_done (wsV RX9 100 RX9 yX9_shares wsX9_shares) := goodIn_app (goodIn_of _ (by decide +kernel)) ggX9_done_X9_shares
set_option maxRecDepth 20000 in
theorem ggX9_done_X9_divides : GoodIn wsX9_done wsX9_divides := goodIn_r _ [21, 6, 11, 12, 13, 4, 14, 22, 23, 24, 25, 26, 27, 28, 29, 30, 31, 32, 33, 34, 35, 36, 37, 48, 49, 50, 51, 52, 53, 54, 55, 56, 57, 58, 59, 60, 61, 62, 63, 64, 65] (by decide +kernel) (by decide +kernel)
set_option maxRecDepth 20000 in
theorem gX9_done_X9_divides : GoodIn wsX9_done (wsV RX9 112 RX9 yX9_divides wsX9_divides) := goodIn_app (goodIn_of _ (by decide +kernel)) ggX9_done_X9_divides
set_option maxRecDepth 20000 in
theorem ggX9_done_X9_of : GoodIn wsX9_done wsX9_of := goodIn_r _ [14, 6, 48, 49, 50, 51, 52, 53, 54, 55, 56, 57, 58, 59, 60, 61, 62, 63, 64, 65] (by decide +kernel) (by decide +kernel)
set_option maxRecDepth 20000 in
theorem gX9_done_X9_of : GoodIn wsX9_done (wsV RX9 59 RX9 yX9_of wsX9_of) := goodIn_app (goodIn_of _ (by decide +kernel)) ggX9_done_X9_of
set_option maxRecDepth 20000 in
theorem ggX9_done_X9_factors : GoodIn wsX9_done wsX9_factors := goodIn_r _ [40, 22, 23, 4, 24] (by decide +kernel) (by decide +kernel)
set_option maxRecDepth 20000 in
theorem gX9_done_X9_factors : GoodIn wsX9_done (va_wsS RX9 171 yX9_factors wsX9_factors) := goodIn_app (goodIn_of _ (by decide +kernel)) ggX9_done_X9_factors
set_option maxRecDepth 20000 in
theorem ggX9_done_X9_factorOf : GoodIn wsX9_done wsX9_factorOf := goodIn_r _ [43, 22, 23, 4, 24] (by decide +kernel) (by decide +kernel)
set_option maxRecDepth 20000 in
theorem gX9_done_X9_factorOf : GoodIn wsX9_done (va_wsS RX9 175 yX9_factorOf wsX9_factorOf) := goodIn_app (goodIn_of _ (by decide +kernel)) ggX9_done_X9_factorOf
set_option maxRecDepth 20000 in
theorem ggX9_done_X9_strikes : GoodIn wsX9_done wsX9_strikes := goodIn_r _ [47, 6, 11, 12, 13, 4, 14, 25, 26, 27, 28, 29, 30, 31, 32, 33, 34, 35, 36, 37, 48, 49, 50, 51, 52, 53, 54, 55, 56, 57, 58, 59, 60, 61, 62, 63, 64, 65] (by decide +kernel) (by decide +kernel)
set_option maxRecDepth 20000 in
theorem gX9_done_X9_strikes : GoodIn wsX9_done (wsV RX9 115 RX9 yX9_strikes wsX9_strikes) := goodIn_app (goodIn_of _ (by decide +kernel)) ggX9_done_X9_strikes
theorem dX9_done_0 : decode cX9_done 0 = .ok (.iload_n 1, 1) := by decide +kernel
theorem dX9_done_1 : decode cX9_done 1 = .ok (.ifCond .ne 11, 3) := by decide +kernel
theorem dX9_done_4 : decode cX9_done 4 = .ok (.aload_n 0, 1) := by decide +kernel
theorem dX9_done_5 : decode cX9_done 5 = .ok (.iload_n 2, 1) := by decide +kernel
theorem dX9_done_6 : decode cX9_done 6 = .ok (.invokevirtual 100, 3) := by decide +kernel
theorem dX9_done_9 : decode cX9_done 9 = .ok (.goto 40, 3) := by decide +kernel
theorem dX9_done_12 : decode cX9_done 12 = .ok (.iload_n 1, 1) := by decide +kernel
theorem dX9_done_13 : decode cX9_done 13 = .ok (.iconst 1, 1) := by decide +kernel
theorem dX9_done_14 : decode cX9_done 14 = .ok (.if_icmp .ne 11, 3) := by decide +kernel
theorem dX9_done_17 : decode cX9_done 17 = .ok (.aload_n 0, 1) := by decide +kernel
theorem dX9_done_18 : decode cX9_done 18 = .ok (.iload_n 2, 1) := by decide +kernel
theorem dX9_done_19 : decode cX9_done 19 = .ok (.invokevirtual 112, 3) := by decide +kernel
theorem dX9_done_22 : decode cX9_done 22 = .ok (.goto 27, 3) := by decide +kernel
theorem dX9_done_25 : decode cX9_done 25 = .ok (.aload_n 0, 1) := by decide +kernel
theorem dX9_done_26 : decode cX9_done 26 = .ok (.iload_n 2, 1) := by decide +kernel
theorem dX9_done_27 : decode cX9_done 27 = .ok (.aload_n 0, 1) := by decide +kernel
theorem dX9_done_28 : decode cX9_done 28 = .ok (.iload_n 2, 1) := by decide +kernel
theorem dX9_done_29 : decode cX9_done 29 = .ok (.invokevirtual 59, 3) := by decide +kernel
theorem dX9_done_32 : decode cX9_done 32 = .ok (.aload_n 0, 1) := by decide +kernel
theorem dX9_done_33 : decode cX9_done 33 = .ok (.iload_n 2, 1) := by decide +kernel
theorem dX9_done_34 : decode cX9_done 34 = .ok (.invokevirtual 59, 3) := by decide +kernel
theorem dX9_done_37 : decode cX9_done 37 = .ok (.iconst 1, 1) := by decide +kernel
theorem dX9_done_38 : decode cX9_done 38 = .ok (.invokestatic 171, 3) := by decide +kernel
theorem dX9_done_41 : decode cX9_done 41 = .ok (.iconst 1, 1) := by decide +kernel
theorem dX9_done_42 : decode cX9_done 42 = .ok (.isub, 1) := by decide +kernel
theorem dX9_done_43 : decode cX9_done 43 = .ok (.invokestatic 175, 3) := by decide +kernel
theorem dX9_done_46 : decode cX9_done 46 = .ok (.invokevirtual 115, 3) := by decide +kernel
theorem dX9_done_49 : decode cX9_done 49 = .ok (.ireturn, 1) := by decide +kernel
set_option maxRecDepth 20000 in
theorem ggX9_ifDone_X9_in : GoodIn wsX9_ifDone wsX9_in := goodIn_r _ [5] (by decide +kernel) (by decide +kernel)
set_option maxRecDepth 20000 in
theorem gX9_ifDone_X9_in : GoodIn wsX9_ifDone (va_wsS RX9 51 yX9_in wsX9_in) := goodIn_app (goodIn_of _ (by decide +kernel)) ggX9_ifDone_X9_in
set_option maxRecDepth 20000 in
theorem ggX9_ifDone_X9_whyNotDone : GoodIn wsX9_ifDone wsX9_whyNotDone := goodIn_r _ [9, 10, 11, 12, 4, 13, 1, 2, 3, 5, 14, 15, 16, 17, 18, 19, 20, 21, 22, 23, 24, 25, 26, 27, 28, 29, 30, 31, 32, 123, 124, 125, 126, 127, 128, 129, 130, 131, 132, 133, 134, 135, 136, 137, 138, 139, 140] (by decide +kernel) (by decide +kernel)
set_option maxRecDepth 20000 in
theorem gX9_ifDone_X9_whyNotDone : GoodIn wsX9_ifDone (wsV RX9 231 RX9 yX9_whyNotDone wsX9_whyNotDone) := goodIn_app (goodIn_of _ (by decide +kernel)) ggX9_ifDone_X9_whyNotDone
set_option maxRecDepth 20000 in
theorem ggX9_ifDone_X9_putsAside : GoodIn wsX9_ifDone wsX9_putsAside := goodIn_r _ [36, 37, 1, 123, 124, 125, 126, 127, 128, 129, 130, 131, 132, 133, 134, 135, 136, 137, 138, 139, 140] (by decide +kernel) (by decide +kernel)
set_option maxRecDepth 20000 in
theorem gX9_ifDone_X9_putsAside : GoodIn wsX9_ifDone (wsV RX9 122 RX9 yX9_putsAside wsX9_putsAside) := goodIn_app (goodIn_of _ (by decide +kernel)) ggX9_ifDone_X9_putsAside
set_option maxRecDepth 20000 in
theorem ggX9_ifDone_X9_done : GoodIn wsX9_ifDone wsX9_done := goodIn_r _ [41, 42, 43, 44, 4, 45, 1, 14, 15, 16, 17, 18, 19, 20, 21, 22, 23, 24, 46, 47, 48, 49, 50, 51, 52, 53, 54, 55, 56, 57, 58, 59, 60, 61, 62, 63, 64, 65, 66, 67, 68, 69, 70, 71, 72, 73, 74, 75, 123, 124, 125, 126, 127, 128, 129, 130, 131, 132, 133, 134, 135, 136, 137, 138, 139, 140] (by decide +kernel) (by decide +kernel)
set_option maxRecDepth 20000 in
theorem gX9_ifDone_X9_done : GoodIn wsX9_ifDone (wsV RX9 234 RX9 yX9_done wsX9_done) := goodIn_app (goodIn_of _ (by decide +kernel)) ggX9_ifDone_X9_done
set_option maxRecDepth 20000 in
theorem ggX9_ifDone_X9_pairs : GoodIn wsX9_ifDone wsX9_pairs := goodIn_r _ [79, 1, 80, 81, 82, 4, 83, 84, 85, 86, 87, 18, 19, 20, 21, 22, 23, 24, 123, 124, 125, 126, 127, 128, 129, 130, 131, 132, 133, 134, 135, 136, 137, 138, 139, 140] (by decide +kernel) (by decide +kernel)
set_option maxRecDepth 20000 in
theorem gX9_ifDone_X9_pairs : GoodIn wsX9_ifDone (wsV RX9 215 RX9 yX9_pairs wsX9_pairs) := goodIn_app (goodIn_of _ (by decide +kernel)) ggX9_ifDone_X9_pairs
set_option maxRecDepth 20000 in
theorem ggX9_ifDone_X9_families : GoodIn wsX9_ifDone wsX9_families := goodIn_r _ [91, 1, 92, 93, 94, 95, 4, 96, 84, 85, 86, 87, 18, 19, 20, 21, 22, 23, 24, 97, 98, 99, 100, 123, 124, 125, 126, 127, 128, 129, 130, 131, 132, 133, 134, 135, 136, 137, 138, 139, 140] (by decide +kernel) (by decide +kernel)
set_option maxRecDepth 20000 in
theorem gX9_ifDone_X9_families : GoodIn wsX9_ifDone (wsV RX9 218 RX9 yX9_families wsX9_families) := goodIn_app (goodIn_of _ (by decide +kernel)) ggX9_ifDone_X9_families
set_option maxRecDepth 20000 in
theorem ggX9_ifDone_X9_longestOf : GoodIn wsX9_ifDone wsX9_longestOf := goodIn_r _ [104, 1, 105, 106, 107, 4, 108, 109, 110, 18, 19, 20, 21, 111, 112, 113, 114, 84, 85, 86, 87, 22, 23, 24, 115, 116, 117, 118, 123, 124, 125, 126, 127, 128, 129, 130, 131, 132, 133, 134, 135, 136, 137, 138, 139, 140] (by decide +kernel) (by decide +kernel)
set_option maxRecDepth 20000 in
theorem gX9_ifDone_X9_longestOf : GoodIn wsX9_ifDone (wsV RX9 237 RX9 yX9_longestOf wsX9_longestOf) := goodIn_app (goodIn_of _ (by decide +kernel)) ggX9_ifDone_X9_longestOf
set_option maxRecDepth 20000 in
theorem ggX9_ifDone_X9_putsBack : GoodIn wsX9_ifDone wsX9_putsBack := goodIn_r _ [122, 1, 37, 123, 124, 125, 126, 127, 128, 129, 130, 131, 132, 133, 134, 135, 136, 137, 138, 139, 140] (by decide +kernel) (by decide +kernel)
set_option maxRecDepth 20000 in
theorem gX9_ifDone_X9_putsBack : GoodIn wsX9_ifDone (wsV RX9 129 RX9 yX9_putsBack wsX9_putsBack) := goodIn_app (goodIn_of _ (by decide +kernel)) ggX9_ifDone_X9_putsBack
theorem dX9_ifDone_0 : decode cX9_ifDone 0 = .ok (.iload_n 1, 1) := by decide +kernel
theorem dX9_ifDone_1 : decode cX9_ifDone 1 = .ok (.iconst 0, 1) := by decide +kernel
theorem dX9_ifDone_2 : decode cX9_ifDone 2 = .ok (.iconst 2, 1) := by decide +kernel
theorem dX9_ifDone_3 : decode cX9_ifDone 3 = .ok (.invokestatic 51, 3) := by decide +kernel
theorem dX9_ifDone_6 : decode cX9_ifDone 6 = .ok (.ifCond .eq 12, 3) := by decide +kernel
theorem dX9_ifDone_9 : decode cX9_ifDone 9 = .ok (.iload_n 3, 1) := by decide +kernel
theorem dX9_ifDone_10 : decode cX9_ifDone 10 = .ok (.iconst 0, 1) := by decide +kernel
theorem dX9_ifDone_11 : decode cX9_ifDone 11 = .ok (.iconst 3, 1) := by decide +kernel
theorem dX9_ifDone_12 : decode cX9_ifDone 12 = .ok (.invokestatic 51, 3) := by decide +kernel
theorem dX9_ifDone_15 : decode cX9_ifDone 15 = .ok (.ifCond .ne 5, 3) := by decide +kernel
theorem dX9_ifDone_18 : decode cX9_ifDone 18 = .ok (.iconst (-1), 1) := by decide +kernel
theorem dX9_ifDone_19 : decode cX9_ifDone 19 = .ok (.ireturn, 1) := by decide +kernel
theorem dX9_ifDone_20 : decode cX9_ifDone 20 = .ok (.aload_n 0, 1) := by decide +kernel
theorem dX9_ifDone_21 : decode cX9_ifDone 21 = .ok (.iload_n 1, 1) := by decide +kernel
theorem dX9_ifDone_22 : decode cX9_ifDone 22 = .ok (.iload_n 2, 1) := by decide +kernel
theorem dX9_ifDone_23 : decode cX9_ifDone 23 = .ok (.invokevirtual 231, 3) := by decide +kernel
theorem dX9_ifDone_26 : decode cX9_ifDone 26 = .ok (.istore 4, 2) := by decide +kernel
theorem dX9_ifDone_28 : decode cX9_ifDone 28 = .ok (.iload 4, 2) := by decide +kernel
theorem dX9_ifDone_30 : decode cX9_ifDone 30 = .ok (.ifCond .ge 6, 3) := by decide +kernel
theorem dX9_ifDone_33 : decode cX9_ifDone 33 = .ok (.iload 4, 2) := by decide +kernel
theorem dX9_ifDone_35 : decode cX9_ifDone 35 = .ok (.ireturn, 1) := by decide +kernel
theorem dX9_ifDone_36 : decode cX9_ifDone 36 = .ok (.aload_n 0, 1) := by decide +kernel
theorem dX9_ifDone_37 : decode cX9_ifDone 37 = .ok (.invokevirtual 122, 3) := by decide +kernel
theorem dX9_ifDone_40 : decode cX9_ifDone 40 = .ok (.aload_n 0, 1) := by decide +kernel
theorem dX9_ifDone_41 : decode cX9_ifDone 41 = .ok (.iload_n 1, 1) := by decide +kernel
theorem dX9_ifDone_42 : decode cX9_ifDone 42 = .ok (.iload_n 2, 1) := by decide +kernel
theorem dX9_ifDone_43 : decode cX9_ifDone 43 = .ok (.invokevirtual 234, 3) := by decide +kernel
theorem dX9_ifDone_46 : decode cX9_ifDone 46 = .ok (.istore 5, 2) := by decide +kernel
theorem dX9_ifDone_48 : decode cX9_ifDone 48 = .ok (.iload_n 3, 1) := by decide +kernel
theorem dX9_ifDone_49 : decode cX9_ifDone 49 = .ok (.ifCond .ne 10, 3) := by decide +kernel
theorem dX9_ifDone_52 : decode cX9_ifDone 52 = .ok (.aload_n 0, 1) := by decide +kernel
theorem dX9_ifDone_53 : decode cX9_ifDone 53 = .ok (.invokevirtual 215, 3) := by decide +kernel
theorem dX9_ifDone_56 : decode cX9_ifDone 56 = .ok (.goto 34, 3) := by decide +kernel
theorem dX9_ifDone_59 : decode cX9_ifDone 59 = .ok (.iload_n 3, 1) := by decide +kernel
theorem dX9_ifDone_60 : decode cX9_ifDone 60 = .ok (.iconst 1, 1) := by decide +kernel
theorem dX9_ifDone_61 : decode cX9_ifDone 61 = .ok (.if_icmp .ne 11, 3) := by decide +kernel
theorem dX9_ifDone_64 : decode cX9_ifDone 64 = .ok (.aload_n 0, 1) := by decide +kernel
theorem dX9_ifDone_65 : decode cX9_ifDone 65 = .ok (.iconst 0, 1) := by decide +kernel
theorem dX9_ifDone_66 : decode cX9_ifDone 66 = .ok (.invokevirtual 218, 3) := by decide +kernel
theorem dX9_ifDone_69 : decode cX9_ifDone 69 = .ok (.goto 21, 3) := by decide +kernel
theorem dX9_ifDone_72 : decode cX9_ifDone 72 = .ok (.iload_n 3, 1) := by decide +kernel
theorem dX9_ifDone_73 : decode cX9_ifDone 73 = .ok (.iconst 2, 1) := by decide +kernel
theorem dX9_ifDone_74 : decode cX9_ifDone 74 = .ok (.if_icmp .ne 10, 3) := by decide +kernel
theorem dX9_ifDone_77 : decode cX9_ifDone 77 = .ok (.aload_n 0, 1) := by decide +kernel
theorem dX9_ifDone_78 : decode cX9_ifDone 78 = .ok (.invokevirtual 237, 3) := by decide +kernel
theorem dX9_ifDone_81 : decode cX9_ifDone 81 = .ok (.goto 9, 3) := by decide +kernel
theorem dX9_ifDone_84 : decode cX9_ifDone 84 = .ok (.aload_n 0, 1) := by decide +kernel
theorem dX9_ifDone_85 : decode cX9_ifDone 85 = .ok (.getfield 7, 3) := by decide +kernel
theorem dX9_ifDone_88 : decode cX9_ifDone 88 = .ok (.iconst 2, 1) := by decide +kernel
theorem dX9_ifDone_89 : decode cX9_ifDone 89 = .ok (.iaload, 1) := by decide +kernel
theorem dX9_ifDone_90 : decode cX9_ifDone 90 = .ok (.istore 5, 2) := by decide +kernel
theorem dX9_ifDone_92 : decode cX9_ifDone 92 = .ok (.aload_n 0, 1) := by decide +kernel
theorem dX9_ifDone_93 : decode cX9_ifDone 93 = .ok (.invokevirtual 129, 3) := by decide +kernel
theorem dX9_ifDone_96 : decode cX9_ifDone 96 = .ok (.iload 5, 2) := by decide +kernel
theorem dX9_ifDone_98 : decode cX9_ifDone 98 = .ok (.ireturn, 1) := by decide +kernel
set_option maxRecDepth 20000 in
theorem ggX9_longest_X9_in : GoodIn wsX9_longest wsX9_in := goodIn_r _ [5] (by decide +kernel) (by decide +kernel)
set_option maxRecDepth 20000 in
theorem gX9_longest_X9_in : GoodIn wsX9_longest (va_wsS RX9 51 yX9_in wsX9_in) := goodIn_app (goodIn_of _ (by decide +kernel)) ggX9_longest_X9_in
set_option maxRecDepth 20000 in
theorem ggX9_longest_X9_longestOf : GoodIn wsX9_longest wsX9_longestOf := goodIn_r _ [9, 1, 10, 11, 12, 4, 13, 14, 15, 16, 17, 18, 19, 20, 21, 22, 23, 24, 25, 26, 27, 28, 29, 30, 31, 32, 33, 34, 35, 36, 37, 38, 39, 40, 41, 42, 43, 44, 45, 46, 47, 48, 49, 50, 51, 52] (by decide +kernel) (by decide +kernel)
set_option maxRecDepth 20000 in
theorem gX9_longest_X9_longestOf : GoodIn wsX9_longest (wsV RX9 237 RX9 yX9_longestOf wsX9_longestOf) := goodIn_app (goodIn_of _ (by decide +kernel)) ggX9_longest_X9_longestOf
set_option maxRecDepth 20000 in
theorem ggX9_longest_X9_finds : GoodIn wsX9_longest wsX9_finds := goodIn_r _ [13, 14, 15, 16, 17, 18, 4, 19, 1, 20, 21, 22, 23, 24, 25, 26, 27, 28, 29, 30, 35, 36, 37, 38, 39, 40, 41, 42, 43, 44, 45, 46, 47, 48, 49, 50, 51, 52] (by decide +kernel) (by decide +kernel)
set_option maxRecDepth 20000 in
theorem gX9_longest_X9_finds : GoodIn wsX9_longest (wsV RX9 196 RX9 yX9_finds wsX9_finds) := goodIn_app (goodIn_of _ (by decide +kernel)) ggX9_longest_X9_finds
set_option maxRecDepth 20000 in
theorem ggX9_longest_X9_measure : GoodIn wsX9_longest wsX9_measure := goodIn_r _ [34, 14, 16, 17, 18, 4, 19, 1, 28, 29, 30, 35, 36, 37, 38, 39, 40, 41, 42, 43, 44, 45, 46, 47, 48, 49, 50, 51, 52] (by decide +kernel) (by decide +kernel)
set_option maxRecDepth 20000 in
theorem gX9_longest_X9_measure : GoodIn wsX9_longest (wsV RX9 199 RX9 yX9_measure wsX9_measure) := goodIn_app (goodIn_of _ (by decide +kernel)) ggX9_longest_X9_measure
theorem dX9_longest_0 : decode cX9_longest 0 = .ok (.iload_n 1, 1) := by decide +kernel
theorem dX9_longest_1 : decode cX9_longest 1 = .ok (.iconst 0, 1) := by decide +kernel
theorem dX9_longest_2 : decode cX9_longest 2 = .ok (.iconst 2, 1) := by decide +kernel
theorem dX9_longest_3 : decode cX9_longest 3 = .ok (.invokestatic 51, 3) := by decide +kernel
theorem dX9_longest_6 : decode cX9_longest 6 = .ok (.ifCond .ne 5, 3) := by decide +kernel
theorem dX9_longest_9 : decode cX9_longest 9 = .ok (.iconst (-1), 1) := by decide +kernel
theorem dX9_longest_10 : decode cX9_longest 10 = .ok (.ireturn, 1) := by decide +kernel
theorem dX9_longest_11 : decode cX9_longest 11 = .ok (.aload_n 0, 1) := by decide +kernel
theorem dX9_longest_12 : decode cX9_longest 12 = .ok (.invokevirtual 237, 3) := by decide +kernel
theorem dX9_longest_15 : decode cX9_longest 15 = .ok (.istore_n 2, 1) := by decide +kernel
theorem dX9_longest_16 : decode cX9_longest 16 = .ok (.iconst 0, 1) := by decide +kernel
theorem dX9_longest_17 : decode cX9_longest 17 = .ok (.istore_n 3, 1) := by decide +kernel
theorem dX9_longest_18 : decode cX9_longest 18 = .ok (.iload_n 3, 1) := by decide +kernel
theorem dX9_longest_19 : decode cX9_longest 19 = .ok (.aload_n 0, 1) := by decide +kernel
theorem dX9_longest_20 : decode cX9_longest 20 = .ok (.getfield 7, 3) := by decide +kernel
theorem dX9_longest_23 : decode cX9_longest 23 = .ok (.iconst 2, 1) := by decide +kernel
theorem dX9_longest_24 : decode cX9_longest 24 = .ok (.iaload, 1) := by decide +kernel
theorem dX9_longest_25 : decode cX9_longest 25 = .ok (.if_icmp .ge 72, 3) := by decide +kernel
theorem dX9_longest_28 : decode cX9_longest 28 = .ok (.iload_n 3, 1) := by decide +kernel
theorem dX9_longest_29 : decode cX9_longest 29 = .ok (.istore 4, 2) := by decide +kernel
theorem dX9_longest_31 : decode cX9_longest 31 = .ok (.iload 4, 2) := by decide +kernel
theorem dX9_longest_33 : decode cX9_longest 33 = .ok (.aload_n 0, 1) := by decide +kernel
theorem dX9_longest_34 : decode cX9_longest 34 = .ok (.getfield 7, 3) := by decide +kernel
theorem dX9_longest_37 : decode cX9_longest 37 = .ok (.iconst 2, 1) := by decide +kernel
theorem dX9_longest_38 : decode cX9_longest 38 = .ok (.iaload, 1) := by decide +kernel
theorem dX9_longest_39 : decode cX9_longest 39 = .ok (.if_icmp .ge 52, 3) := by decide +kernel
theorem dX9_longest_42 : decode cX9_longest 42 = .ok (.aload_n 0, 1) := by decide +kernel
theorem dX9_longest_43 : decode cX9_longest 43 = .ok (.iload_n 3, 1) := by decide +kernel
theorem dX9_longest_44 : decode cX9_longest 44 = .ok (.iload 4, 2) := by decide +kernel
theorem dX9_longest_46 : decode cX9_longest 46 = .ok (.iconst 0, 1) := by decide +kernel
theorem dX9_longest_47 : decode cX9_longest 47 = .ok (.invokevirtual 196, 3) := by decide +kernel
theorem dX9_longest_50 : decode cX9_longest 50 = .ok (.ifCond .eq 35, 3) := by decide +kernel
theorem dX9_longest_53 : decode cX9_longest 53 = .ok (.aload_n 0, 1) := by decide +kernel
theorem dX9_longest_54 : decode cX9_longest 54 = .ok (.iload_n 3, 1) := by decide +kernel
theorem dX9_longest_55 : decode cX9_longest 55 = .ok (.iload 4, 2) := by decide +kernel
theorem dX9_longest_57 : decode cX9_longest 57 = .ok (.iconst 0, 1) := by decide +kernel
theorem dX9_longest_58 : decode cX9_longest 58 = .ok (.invokevirtual 199, 3) := by decide +kernel
theorem dX9_longest_61 : decode cX9_longest 61 = .ok (.iload_n 2, 1) := by decide +kernel
theorem dX9_longest_62 : decode cX9_longest 62 = .ok (.if_icmp .ne 23, 3) := by decide +kernel
theorem dX9_longest_65 : decode cX9_longest 65 = .ok (.iload_n 1, 1) := by decide +kernel
theorem dX9_longest_66 : decode cX9_longest 66 = .ok (.ifCond .ne 7, 3) := by decide +kernel
theorem dX9_longest_69 : decode cX9_longest 69 = .ok (.iload_n 2, 1) := by decide +kernel
theorem dX9_longest_70 : decode cX9_longest 70 = .ok (.goto 14, 3) := by decide +kernel
theorem dX9_longest_73 : decode cX9_longest 73 = .ok (.iload_n 1, 1) := by decide +kernel
theorem dX9_longest_74 : decode cX9_longest 74 = .ok (.iconst 1, 1) := by decide +kernel
theorem dX9_longest_75 : decode cX9_longest 75 = .ok (.if_icmp .ne 7, 3) := by decide +kernel
theorem dX9_longest_78 : decode cX9_longest 78 = .ok (.iload_n 3, 1) := by decide +kernel
theorem dX9_longest_79 : decode cX9_longest 79 = .ok (.goto 5, 3) := by decide +kernel
theorem dX9_longest_82 : decode cX9_longest 82 = .ok (.iload 4, 2) := by decide +kernel
theorem dX9_longest_84 : decode cX9_longest 84 = .ok (.ireturn, 1) := by decide +kernel
theorem dX9_longest_85 : decode cX9_longest 85 = .ok (.iinc 4 1, 3) := by decide +kernel
theorem dX9_longest_88 : decode cX9_longest 88 = .ok (.goto (-57), 3) := by decide +kernel
theorem dX9_longest_91 : decode cX9_longest 91 = .ok (.iinc 3 1, 3) := by decide +kernel
theorem dX9_longest_94 : decode cX9_longest 94 = .ok (.goto (-76), 3) := by decide +kernel
theorem dX9_longest_97 : decode cX9_longest 97 = .ok (.bipush (-4), 2) := by decide +kernel
theorem dX9_longest_99 : decode cX9_longest 99 = .ok (.ireturn, 1) := by decide +kernel
set_option maxRecDepth 20000 in
theorem ggX9_pairsWithout_X9_putsAside : GoodIn wsX9_pairsWithout wsX9_putsAside := goodIn_r _ [5, 6, 7, 48, 49, 50, 51, 52, 53, 54, 55, 56, 57, 58, 59, 60, 61, 62, 63, 64, 65] (by decide +kernel) (by decide +kernel)
set_option maxRecDepth 20000 in
theorem gX9_pairsWithout_X9_putsAside : GoodIn wsX9_pairsWithout (wsV RX9 122 RX9 yX9_putsAside wsX9_putsAside) := goodIn_app (goodIn_of _ (by decide +kernel)) ggX9_pairsWithout_X9_putsAside
set_option maxRecDepth 20000 in
theorem ggX9_pairsWithout_X9_strikes : GoodIn wsX9_pairsWithout wsX9_strikes := goodIn_r _ [11, 7, 12, 13, 14, 4, 15, 16, 17, 18, 19, 20, 21, 22, 23, 24, 25, 26, 27, 28, 48, 49, 50, 51, 52, 53, 54, 55, 56, 57, 58, 59, 60, 61, 62, 63, 64, 65] (by decide +kernel) (by decide +kernel)
set_option maxRecDepth 20000 in
theorem gX9_pairsWithout_X9_strikes : GoodIn wsX9_pairsWithout (wsV RX9 115 RX9 yX9_strikes wsX9_strikes) := goodIn_app (goodIn_of _ (by decide +kernel)) ggX9_pairsWithout_X9_strikes
set_option maxRecDepth 20000 in
theorem ggX9_pairsWithout_X9_pairs : GoodIn wsX9_pairsWithout wsX9_pairs := goodIn_r _ [32, 7, 33, 34, 35, 4, 36, 37, 38, 39, 40, 12, 13, 14, 15, 41, 42, 43, 48, 49, 50, 51, 52, 53, 54, 55, 56, 57, 58, 59, 60, 61, 62, 63, 64, 65] (by decide +kernel) (by decide +kernel)
set_option maxRecDepth 20000 in
theorem gX9_pairsWithout_X9_pairs : GoodIn wsX9_pairsWithout (wsV RX9 215 RX9 yX9_pairs wsX9_pairs) := goodIn_app (goodIn_of _ (by decide +kernel)) ggX9_pairsWithout_X9_pairs
set_option maxRecDepth 20000 in
theorem ggX9_pairsWithout_X9_putsBack : GoodIn wsX9_pairsWithout wsX9_putsBack := goodIn_r _ [47, 7, 6, 48, 49, 50, 51, 52, 53, 54, 55, 56, 57, 58, 59, 60, 61, 62, 63, 64, 65] (by decide +kernel) (by decide +kernel)
set_option maxRecDepth 20000 in
theorem gX9_pairsWithout_X9_putsBack : GoodIn wsX9_pairsWithout (wsV RX9 129 RX9 yX9_putsBack wsX9_putsBack) := goodIn_app (goodIn_of _ (by decide +kernel)) ggX9_pairsWithout_X9_putsBack
theorem dX9_pairsWithout_0 : decode cX9_pairsWithout 0 = .ok (.aload_n 0, 1) := by decide +kernel
theorem dX9_pairsWithout_1 : decode cX9_pairsWithout 1 = .ok (.invokevirtual 122, 3) := by decide +kernel
theorem dX9_pairsWithout_4 : decode cX9_pairsWithout 4 = .ok (.aload_n 0, 1) := by decide +kernel
theorem dX9_pairsWithout_5 : decode cX9_pairsWithout 5 = .ok (.iload_n 1, 1) := by decide +kernel
theorem dX9_pairsWithout_6 : decode cX9_pairsWithout 6 = .ok (.iload_n 2, 1) := by decide +kernel
theorem dX9_pairsWithout_7 : decode cX9_pairsWithout 7 = .ok (.invokevirtual 115, 3) := by decide +kernel
theorem dX9_pairsWithout_10 : decode cX9_pairsWithout 10 = .ok (.istore_n 3, 1) := by decide +kernel
theorem dX9_pairsWithout_11 : decode cX9_pairsWithout 11 = .ok (.iload_n 3, 1) := by decide +kernel
theorem dX9_pairsWithout_12 : decode cX9_pairsWithout 12 = .ok (.iconst 1, 1) := by decide +kernel
theorem dX9_pairsWithout_13 : decode cX9_pairsWithout 13 = .ok (.if_icmp .ge 7, 3) := by decide +kernel
theorem dX9_pairsWithout_16 : decode cX9_pairsWithout 16 = .ok (.iload_n 3, 1) := by decide +kernel
theorem dX9_pairsWithout_17 : decode cX9_pairsWithout 17 = .ok (.goto 7, 3) := by decide +kernel
theorem dX9_pairsWithout_20 : decode cX9_pairsWithout 20 = .ok (.aload_n 0, 1) := by decide +kernel
theorem dX9_pairsWithout_21 : decode cX9_pairsWithout 21 = .ok (.invokevirtual 215, 3) := by decide +kernel
theorem dX9_pairsWithout_24 : decode cX9_pairsWithout 24 = .ok (.istore 4, 2) := by decide +kernel
theorem dX9_pairsWithout_26 : decode cX9_pairsWithout 26 = .ok (.aload_n 0, 1) := by decide +kernel
theorem dX9_pairsWithout_27 : decode cX9_pairsWithout 27 = .ok (.invokevirtual 129, 3) := by decide +kernel
theorem dX9_pairsWithout_30 : decode cX9_pairsWithout 30 = .ok (.iload 4, 2) := by decide +kernel
theorem dX9_pairsWithout_32 : decode cX9_pairsWithout 32 = .ok (.ireturn, 1) := by decide +kernel
set_option maxRecDepth 20000 in
theorem ggX9_bestStrike_X9_of : GoodIn wsX9_bestStrike wsX9_of := goodIn_r _ [6, 1, 61, 62, 63, 64, 65, 66, 67, 68, 69, 70, 71, 72, 73, 74, 75, 76, 77, 78] (by decide +kernel) (by decide +kernel)
set_option maxRecDepth 20000 in
theorem gX9_bestStrike_X9_of : GoodIn wsX9_bestStrike (wsV RX9 59 RX9 yX9_of wsX9_of) := goodIn_app (goodIn_of _ (by decide +kernel)) ggX9_bestStrike_X9_of
set_option maxRecDepth 20000 in
theorem ggX9_bestStrike_X9_factors : GoodIn wsX9_bestStrike wsX9_factors := goodIn_r _ [9, 10, 11, 5, 12] (by decide +kernel) (by decide +kernel)
set_option maxRecDepth 20000 in
theorem gX9_bestStrike_X9_factors : GoodIn wsX9_bestStrike (va_wsS RX9 171 yX9_factors wsX9_factors) := goodIn_app (goodIn_of _ (by decide +kernel)) ggX9_bestStrike_X9_factors
set_option maxRecDepth 20000 in
theorem ggX9_bestStrike_X9_factorOf : GoodIn wsX9_bestStrike wsX9_factorOf := goodIn_r _ [15, 10, 11, 5, 12] (by decide +kernel) (by decide +kernel)
set_option maxRecDepth 20000 in
theorem gX9_bestStrike_X9_factorOf : GoodIn wsX9_bestStrike (va_wsS RX9 175 yX9_factorOf wsX9_factorOf) := goodIn_app (goodIn_of _ (by decide +kernel)) ggX9_bestStrike_X9_factorOf
set_option maxRecDepth 20000 in
theorem ggX9_bestStrike_X9_pairsWithout : GoodIn wsX9_bestStrike wsX9_pairsWithout := goodIn_r _ [19, 20, 21, 22, 5, 23, 24, 1, 25, 26, 27, 28, 2, 3, 4, 6, 29, 30, 31, 32, 33, 34, 35, 36, 37, 38, 39, 40, 41, 42, 43, 44, 45, 46, 47, 48, 49, 50, 51, 52, 53, 54, 55, 56, 57, 58, 59, 60, 61, 62, 63, 64, 65, 66, 67, 68, 69, 70, 71, 72, 73, 74, 75, 76, 77, 78] (by decide +kernel) (by decide +kernel)
set_option maxRecDepth 20000 in
theorem gX9_bestStrike_X9_pairsWithout : GoodIn wsX9_bestStrike (wsV RX9 240 RX9 yX9_pairsWithout wsX9_pairsWithout) := goodIn_app (goodIn_of _ (by decide +kernel)) ggX9_bestStrike_X9_pairsWithout
theorem dX9_bestStrike_0 : decode cX9_bestStrike 0 = .ok (.bipush (-4), 2) := by decide +kernel
theorem dX9_bestStrike_2 : decode cX9_bestStrike 2 = .ok (.istore_n 1, 1) := by decide +kernel
theorem dX9_bestStrike_3 : decode cX9_bestStrike 3 = .ok (.iconst 0, 1) := by decide +kernel
theorem dX9_bestStrike_4 : decode cX9_bestStrike 4 = .ok (.istore_n 2, 1) := by decide +kernel
theorem dX9_bestStrike_5 : decode cX9_bestStrike 5 = .ok (.iconst 0, 1) := by decide +kernel
theorem dX9_bestStrike_6 : decode cX9_bestStrike 6 = .ok (.istore_n 3, 1) := by decide +kernel
theorem dX9_bestStrike_7 : decode cX9_bestStrike 7 = .ok (.iload_n 3, 1) := by decide +kernel
theorem dX9_bestStrike_8 : decode cX9_bestStrike 8 = .ok (.aload_n 0, 1) := by decide +kernel
theorem dX9_bestStrike_9 : decode cX9_bestStrike 9 = .ok (.getfield 7, 3) := by decide +kernel
theorem dX9_bestStrike_12 : decode cX9_bestStrike 12 = .ok (.iconst 2, 1) := by decide +kernel
theorem dX9_bestStrike_13 : decode cX9_bestStrike 13 = .ok (.iaload, 1) := by decide +kernel
theorem dX9_bestStrike_14 : decode cX9_bestStrike 14 = .ok (.if_icmp .ge 107, 3) := by decide +kernel
theorem dX9_bestStrike_17 : decode cX9_bestStrike 17 = .ok (.iconst 0, 1) := by decide +kernel
theorem dX9_bestStrike_18 : decode cX9_bestStrike 18 = .ok (.istore 4, 2) := by decide +kernel
theorem dX9_bestStrike_20 : decode cX9_bestStrike 20 = .ok (.iconst 0, 1) := by decide +kernel
theorem dX9_bestStrike_21 : decode cX9_bestStrike 21 = .ok (.istore 5, 2) := by decide +kernel
theorem dX9_bestStrike_23 : decode cX9_bestStrike 23 = .ok (.iload 5, 2) := by decide +kernel
theorem dX9_bestStrike_25 : decode cX9_bestStrike 25 = .ok (.aload_n 0, 1) := by decide +kernel
theorem dX9_bestStrike_26 : decode cX9_bestStrike 26 = .ok (.iload_n 3, 1) := by decide +kernel
theorem dX9_bestStrike_27 : decode cX9_bestStrike 27 = .ok (.invokevirtual 59, 3) := by decide +kernel
theorem dX9_bestStrike_30 : decode cX9_bestStrike 30 = .ok (.iconst 1, 1) := by decide +kernel
theorem dX9_bestStrike_31 : decode cX9_bestStrike 31 = .ok (.invokestatic 171, 3) := by decide +kernel
theorem dX9_bestStrike_34 : decode cX9_bestStrike 34 = .ok (.if_icmp .ge 81, 3) := by decide +kernel
theorem dX9_bestStrike_37 : decode cX9_bestStrike 37 = .ok (.aload_n 0, 1) := by decide +kernel
theorem dX9_bestStrike_38 : decode cX9_bestStrike 38 = .ok (.iload_n 3, 1) := by decide +kernel
theorem dX9_bestStrike_39 : decode cX9_bestStrike 39 = .ok (.invokevirtual 59, 3) := by decide +kernel
theorem dX9_bestStrike_42 : decode cX9_bestStrike 42 = .ok (.iload 5, 2) := by decide +kernel
theorem dX9_bestStrike_44 : decode cX9_bestStrike 44 = .ok (.invokestatic 175, 3) := by decide +kernel
theorem dX9_bestStrike_47 : decode cX9_bestStrike 47 = .ok (.iload 4, 2) := by decide +kernel
theorem dX9_bestStrike_49 : decode cX9_bestStrike 49 = .ok (.if_icmp .eq 60, 3) := by decide +kernel
theorem dX9_bestStrike_52 : decode cX9_bestStrike 52 = .ok (.aload_n 0, 1) := by decide +kernel
theorem dX9_bestStrike_53 : decode cX9_bestStrike 53 = .ok (.iload_n 3, 1) := by decide +kernel
theorem dX9_bestStrike_54 : decode cX9_bestStrike 54 = .ok (.invokevirtual 59, 3) := by decide +kernel
theorem dX9_bestStrike_57 : decode cX9_bestStrike 57 = .ok (.iload 5, 2) := by decide +kernel
theorem dX9_bestStrike_59 : decode cX9_bestStrike 59 = .ok (.invokestatic 175, 3) := by decide +kernel
theorem dX9_bestStrike_62 : decode cX9_bestStrike 62 = .ok (.istore 4, 2) := by decide +kernel
theorem dX9_bestStrike_64 : decode cX9_bestStrike 64 = .ok (.aload_n 0, 1) := by decide +kernel
theorem dX9_bestStrike_65 : decode cX9_bestStrike 65 = .ok (.iload_n 3, 1) := by decide +kernel
theorem dX9_bestStrike_66 : decode cX9_bestStrike 66 = .ok (.iload 4, 2) := by decide +kernel
theorem dX9_bestStrike_68 : decode cX9_bestStrike 68 = .ok (.invokevirtual 240, 3) := by decide +kernel
theorem dX9_bestStrike_71 : decode cX9_bestStrike 71 = .ok (.istore 6, 2) := by decide +kernel
theorem dX9_bestStrike_73 : decode cX9_bestStrike 73 = .ok (.iload_n 1, 1) := by decide +kernel
theorem dX9_bestStrike_74 : decode cX9_bestStrike 74 = .ok (.ifCond .lt 9, 3) := by decide +kernel
theorem dX9_bestStrike_77 : decode cX9_bestStrike 77 = .ok (.iload 6, 2) := by decide +kernel
theorem dX9_bestStrike_79 : decode cX9_bestStrike 79 = .ok (.iload_n 2, 1) := by decide +kernel
theorem dX9_bestStrike_80 : decode cX9_bestStrike 80 = .ok (.if_icmp .le 14, 3) := by decide +kernel
theorem dX9_bestStrike_83 : decode cX9_bestStrike 83 = .ok (.sipush 10000, 3) := by decide +kernel
theorem dX9_bestStrike_86 : decode cX9_bestStrike 86 = .ok (.iload_n 3, 1) := by decide +kernel
theorem dX9_bestStrike_87 : decode cX9_bestStrike 87 = .ok (.imul, 1) := by decide +kernel
theorem dX9_bestStrike_88 : decode cX9_bestStrike 88 = .ok (.iload 4, 2) := by decide +kernel
theorem dX9_bestStrike_90 : decode cX9_bestStrike 90 = .ok (.iadd, 1) := by decide +kernel
theorem dX9_bestStrike_91 : decode cX9_bestStrike 91 = .ok (.goto 4, 3) := by decide +kernel
theorem dX9_bestStrike_94 : decode cX9_bestStrike 94 = .ok (.iload_n 1, 1) := by decide +kernel
theorem dX9_bestStrike_95 : decode cX9_bestStrike 95 = .ok (.istore_n 1, 1) := by decide +kernel
theorem dX9_bestStrike_96 : decode cX9_bestStrike 96 = .ok (.iload 6, 2) := by decide +kernel
theorem dX9_bestStrike_98 : decode cX9_bestStrike 98 = .ok (.iload_n 2, 1) := by decide +kernel
theorem dX9_bestStrike_99 : decode cX9_bestStrike 99 = .ok (.if_icmp .le 8, 3) := by decide +kernel
theorem dX9_bestStrike_102 : decode cX9_bestStrike 102 = .ok (.iload 6, 2) := by decide +kernel
theorem dX9_bestStrike_104 : decode cX9_bestStrike 104 = .ok (.goto 4, 3) := by decide +kernel
theorem dX9_bestStrike_107 : decode cX9_bestStrike 107 = .ok (.iload_n 2, 1) := by decide +kernel
theorem dX9_bestStrike_108 : decode cX9_bestStrike 108 = .ok (.istore_n 2, 1) := by decide +kernel
theorem dX9_bestStrike_109 : decode cX9_bestStrike 109 = .ok (.iinc 5 1, 3) := by decide +kernel
theorem dX9_bestStrike_112 : decode cX9_bestStrike 112 = .ok (.goto (-89), 3) := by decide +kernel
theorem dX9_bestStrike_115 : decode cX9_bestStrike 115 = .ok (.iinc 3 1, 3) := by decide +kernel
theorem dX9_bestStrike_118 : decode cX9_bestStrike 118 = .ok (.goto (-111), 3) := by decide +kernel
theorem dX9_bestStrike_121 : decode cX9_bestStrike 121 = .ok (.iload_n 1, 1) := by decide +kernel
theorem dX9_bestStrike_122 : decode cX9_bestStrike 122 = .ok (.ireturn, 1) := by decide +kernel
theorem dX9_undo_0 : decode cX9_undo 0 = .ok (.aload_n 0, 1) := by decide +kernel
theorem dX9_undo_1 : decode cX9_undo 1 = .ok (.getfield 47, 3) := by decide +kernel
theorem dX9_undo_4 : decode cX9_undo 4 = .ok (.ifCond .ne 6, 3) := by decide +kernel
theorem dX9_undo_7 : decode cX9_undo 7 = .ok (.bipush (-2), 2) := by decide +kernel
theorem dX9_undo_9 : decode cX9_undo 9 = .ok (.ireturn, 1) := by decide +kernel
theorem dX9_undo_10 : decode cX9_undo 10 = .ok (.aload_n 0, 1) := by decide +kernel
theorem dX9_undo_11 : decode cX9_undo 11 = .ok (.dup, 1) := by decide +kernel
theorem dX9_undo_12 : decode cX9_undo 12 = .ok (.getfield 47, 3) := by decide +kernel
theorem dX9_undo_15 : decode cX9_undo 15 = .ok (.iconst 1, 1) := by decide +kernel
theorem dX9_undo_16 : decode cX9_undo 16 = .ok (.isub, 1) := by decide +kernel
theorem dX9_undo_17 : decode cX9_undo 17 = .ok (.putfield 47, 3) := by decide +kernel
theorem dX9_undo_20 : decode cX9_undo 20 = .ok (.iconst 0, 1) := by decide +kernel
theorem dX9_undo_21 : decode cX9_undo 21 = .ok (.istore_n 1, 1) := by decide +kernel
theorem dX9_undo_22 : decode cX9_undo 22 = .ok (.iload_n 1, 1) := by decide +kernel
theorem dX9_undo_23 : decode cX9_undo 23 = .ok (.sipush 1245, 3) := by decide +kernel
theorem dX9_undo_26 : decode cX9_undo 26 = .ok (.if_icmp .ge 30, 3) := by decide +kernel
theorem dX9_undo_29 : decode cX9_undo 29 = .ok (.aload_n 0, 1) := by decide +kernel
theorem dX9_undo_30 : decode cX9_undo 30 = .ok (.getfield 7, 3) := by decide +kernel
theorem dX9_undo_33 : decode cX9_undo 33 = .ok (.iload_n 1, 1) := by decide +kernel
theorem dX9_undo_34 : decode cX9_undo 34 = .ok (.aload_n 0, 1) := by decide +kernel
theorem dX9_undo_35 : decode cX9_undo 35 = .ok (.getfield 13, 3) := by decide +kernel
theorem dX9_undo_38 : decode cX9_undo 38 = .ok (.sipush 1245, 3) := by decide +kernel
theorem dX9_undo_41 : decode cX9_undo 41 = .ok (.aload_n 0, 1) := by decide +kernel
theorem dX9_undo_42 : decode cX9_undo 42 = .ok (.getfield 47, 3) := by decide +kernel
theorem dX9_undo_45 : decode cX9_undo 45 = .ok (.imul, 1) := by decide +kernel
theorem dX9_undo_46 : decode cX9_undo 46 = .ok (.iload_n 1, 1) := by decide +kernel
theorem dX9_undo_47 : decode cX9_undo 47 = .ok (.iadd, 1) := by decide +kernel
theorem dX9_undo_48 : decode cX9_undo 48 = .ok (.iaload, 1) := by decide +kernel
theorem dX9_undo_49 : decode cX9_undo 49 = .ok (.iastore, 1) := by decide +kernel
theorem dX9_undo_50 : decode cX9_undo 50 = .ok (.iinc 1 1, 3) := by decide +kernel
theorem dX9_undo_53 : decode cX9_undo 53 = .ok (.goto (-31), 3) := by decide +kernel
theorem dX9_undo_56 : decode cX9_undo 56 = .ok (.aload_n 0, 1) := by decide +kernel
theorem dX9_undo_57 : decode cX9_undo 57 = .ok (.getfield 47, 3) := by decide +kernel
theorem dX9_undo_60 : decode cX9_undo 60 = .ok (.ireturn, 1) := by decide +kernel
theorem dX9_save_0 : decode cX9_save 0 = .ok (.aload_n 0, 1) := by decide +kernel
theorem dX9_save_1 : decode cX9_save 1 = .ok (.iconst 1, 1) := by decide +kernel
theorem dX9_save_2 : decode cX9_save 2 = .ok (.putfield 243, 3) := by decide +kernel
theorem dX9_save_5 : decode cX9_save 5 = .ok (.iconst 0, 1) := by decide +kernel
theorem dX9_save_6 : decode cX9_save 6 = .ok (.istore_n 1, 1) := by decide +kernel
theorem dX9_save_7 : decode cX9_save 7 = .ok (.iload_n 1, 1) := by decide +kernel
theorem dX9_save_8 : decode cX9_save 8 = .ok (.sipush 1245, 3) := by decide +kernel
theorem dX9_save_11 : decode cX9_save 11 = .ok (.if_icmp .ge 21, 3) := by decide +kernel
theorem dX9_save_14 : decode cX9_save 14 = .ok (.aload_n 0, 1) := by decide +kernel
theorem dX9_save_15 : decode cX9_save 15 = .ok (.getfield 16, 3) := by decide +kernel
theorem dX9_save_18 : decode cX9_save 18 = .ok (.iload_n 1, 1) := by decide +kernel
theorem dX9_save_19 : decode cX9_save 19 = .ok (.aload_n 0, 1) := by decide +kernel
theorem dX9_save_20 : decode cX9_save 20 = .ok (.getfield 7, 3) := by decide +kernel
theorem dX9_save_23 : decode cX9_save 23 = .ok (.iload_n 1, 1) := by decide +kernel
theorem dX9_save_24 : decode cX9_save 24 = .ok (.iaload, 1) := by decide +kernel
theorem dX9_save_25 : decode cX9_save 25 = .ok (.iastore, 1) := by decide +kernel
theorem dX9_save_26 : decode cX9_save 26 = .ok (.iinc 1 1, 3) := by decide +kernel
theorem dX9_save_29 : decode cX9_save 29 = .ok (.goto (-22), 3) := by decide +kernel
theorem dX9_save_32 : decode cX9_save 32 = .ok (.aload_n 0, 1) := by decide +kernel
theorem dX9_save_33 : decode cX9_save 33 = .ok (.getfield 7, 3) := by decide +kernel
theorem dX9_save_36 : decode cX9_save 36 = .ok (.iconst 2, 1) := by decide +kernel
theorem dX9_save_37 : decode cX9_save 37 = .ok (.iaload, 1) := by decide +kernel
theorem dX9_save_38 : decode cX9_save 38 = .ok (.ireturn, 1) := by decide +kernel
set_option maxRecDepth 20000 in
theorem ggX9_restore_X9_changes : GoodIn wsX9_restore wsX9_changes := goodIn_r _ [8, 9, 10, 11, 2, 12, 13, 14, 15, 16, 17, 18, 19, 20, 21, 22, 23, 24, 25, 26, 27, 28, 29] (by decide +kernel) (by decide +kernel)
set_option maxRecDepth 20000 in
theorem gX9_restore_X9_changes : GoodIn wsX9_restore (wsV RX9 79 RX9 yX9_changes wsX9_changes) := goodIn_app (goodIn_of _ (by decide +kernel)) ggX9_restore_X9_changes
theorem dX9_restore_0 : decode cX9_restore 0 = .ok (.aload_n 0, 1) := by decide +kernel
theorem dX9_restore_1 : decode cX9_restore 1 = .ok (.getfield 243, 3) := by decide +kernel
theorem dX9_restore_4 : decode cX9_restore 4 = .ok (.ifCond .ne 6, 3) := by decide +kernel
theorem dX9_restore_7 : decode cX9_restore 7 = .ok (.bipush (-2), 2) := by decide +kernel
theorem dX9_restore_9 : decode cX9_restore 9 = .ok (.ireturn, 1) := by decide +kernel
theorem dX9_restore_10 : decode cX9_restore 10 = .ok (.aload_n 0, 1) := by decide +kernel
theorem dX9_restore_11 : decode cX9_restore 11 = .ok (.invokevirtual 79, 3) := by decide +kernel
theorem dX9_restore_14 : decode cX9_restore 14 = .ok (.iconst 0, 1) := by decide +kernel
theorem dX9_restore_15 : decode cX9_restore 15 = .ok (.istore_n 1, 1) := by decide +kernel
theorem dX9_restore_16 : decode cX9_restore 16 = .ok (.iload_n 1, 1) := by decide +kernel
theorem dX9_restore_17 : decode cX9_restore 17 = .ok (.sipush 1245, 3) := by decide +kernel
theorem dX9_restore_20 : decode cX9_restore 20 = .ok (.if_icmp .ge 21, 3) := by decide +kernel
theorem dX9_restore_23 : decode cX9_restore 23 = .ok (.aload_n 0, 1) := by decide +kernel
theorem dX9_restore_24 : decode cX9_restore 24 = .ok (.getfield 7, 3) := by decide +kernel
theorem dX9_restore_27 : decode cX9_restore 27 = .ok (.iload_n 1, 1) := by decide +kernel
theorem dX9_restore_28 : decode cX9_restore 28 = .ok (.aload_n 0, 1) := by decide +kernel
theorem dX9_restore_29 : decode cX9_restore 29 = .ok (.getfield 16, 3) := by decide +kernel
theorem dX9_restore_32 : decode cX9_restore 32 = .ok (.iload_n 1, 1) := by decide +kernel
theorem dX9_restore_33 : decode cX9_restore 33 = .ok (.iaload, 1) := by decide +kernel
theorem dX9_restore_34 : decode cX9_restore 34 = .ok (.iastore, 1) := by decide +kernel
theorem dX9_restore_35 : decode cX9_restore 35 = .ok (.iinc 1 1, 3) := by decide +kernel
theorem dX9_restore_38 : decode cX9_restore 38 = .ok (.goto (-22), 3) := by decide +kernel
theorem dX9_restore_41 : decode cX9_restore 41 = .ok (.aload_n 0, 1) := by decide +kernel
theorem dX9_restore_42 : decode cX9_restore 42 = .ok (.getfield 7, 3) := by decide +kernel
theorem dX9_restore_45 : decode cX9_restore 45 = .ok (.iconst 2, 1) := by decide +kernel
theorem dX9_restore_46 : decode cX9_restore 46 = .ok (.iaload, 1) := by decide +kernel
theorem dX9_restore_47 : decode cX9_restore 47 = .ok (.ireturn, 1) := by decide +kernel
theorem dJ9_max_7cf53_0 : decode cJ9_max_7cf53 0 = .ok (.iload_n 0, 1) := by decide +kernel
theorem dJ9_max_7cf53_1 : decode cJ9_max_7cf53 1 = .ok (.iload_n 1, 1) := by decide +kernel
theorem dJ9_max_7cf53_2 : decode cJ9_max_7cf53 2 = .ok (.if_icmp .lt 7, 3) := by decide +kernel
theorem dJ9_max_7cf53_5 : decode cJ9_max_7cf53 5 = .ok (.iload_n 0, 1) := by decide +kernel
theorem dJ9_max_7cf53_6 : decode cJ9_max_7cf53 6 = .ok (.goto 4, 3) := by decide +kernel
theorem dJ9_max_7cf53_9 : decode cJ9_max_7cf53 9 = .ok (.iload_n 1, 1) := by decide +kernel
theorem dJ9_max_7cf53_10 : decode cJ9_max_7cf53 10 = .ok (.ireturn, 1) := by decide +kernel
theorem dJ9_min_7cf53_0 : decode cJ9_min_7cf53 0 = .ok (.iload_n 0, 1) := by decide +kernel
theorem dJ9_min_7cf53_1 : decode cJ9_min_7cf53 1 = .ok (.iload_n 1, 1) := by decide +kernel
theorem dJ9_min_7cf53_2 : decode cJ9_min_7cf53 2 = .ok (.if_icmp .gt 7, 3) := by decide +kernel
theorem dJ9_min_7cf53_5 : decode cJ9_min_7cf53 5 = .ok (.iload_n 0, 1) := by decide +kernel
theorem dJ9_min_7cf53_6 : decode cJ9_min_7cf53 6 = .ok (.goto 4, 3) := by decide +kernel
theorem dJ9_min_7cf53_9 : decode cJ9_min_7cf53 9 = .ok (.iload_n 1, 1) := by decide +kernel
theorem dJ9_min_7cf53_10 : decode cJ9_min_7cf53 10 = .ok (.ireturn, 1) := by decide +kernel
abbrev vwCl : List vw_C := [(RX0, TX0, 4), (RX1, TX1, 8), (RX2, TX2, 2), (RX3, TX3, 3), (RX4, TX4, 9), (RX6, TX6, 6), (RX8, TX8, 11), (RX9, TX9, 18)]
