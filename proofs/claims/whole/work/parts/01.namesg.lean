theorem dX9_families_78 : decode cX9_families 78 = .ok (.ireturn, 1) := by decide +kernel
theorem dX9_puts_0 : decode cX9_puts 0 = .ok (.aload_n 0, 1) := by decide +kernel
theorem dX9_puts_1 : decode cX9_puts 1 = .ok (.getfield 7, 3) := by decide +kernel
theorem dX9_puts_4 : decode cX9_puts 4 = .ok (.iconst 2, 1) := by decide +kernel
theorem dX9_puts_5 : decode cX9_puts 5 = .ok (.iaload, 1) := by decide +kernel
theorem dX9_puts_6 : decode cX9_puts 6 = .ok (.istore_n 3, 1) := by decide +kernel
theorem dX9_puts_7 : decode cX9_puts 7 = .ok (.iload_n 3, 1) := by decide +kernel
theorem dX9_puts_8 : decode cX9_puts 8 = .ok (.iload_n 1, 1) := by decide +kernel
theorem dX9_puts_9 : decode cX9_puts 9 = .ok (.if_icmp .le 27, 3) := by decide +kernel
theorem dX9_puts_12 : decode cX9_puts 12 = .ok (.aload_n 0, 1) := by decide +kernel
theorem dX9_puts_13 : decode cX9_puts 13 = .ok (.getfield 7, 3) := by decide +kernel
theorem dX9_puts_16 : decode cX9_puts 16 = .ok (.iconst 4, 1) := by decide +kernel
theorem dX9_puts_17 : decode cX9_puts 17 = .ok (.iload_n 3, 1) := by decide +kernel
theorem dX9_puts_18 : decode cX9_puts 18 = .ok (.iadd, 1) := by decide +kernel
theorem dX9_puts_19 : decode cX9_puts 19 = .ok (.aload_n 0, 1) := by decide +kernel
theorem dX9_puts_20 : decode cX9_puts 20 = .ok (.getfield 7, 3) := by decide +kernel
theorem dX9_puts_23 : decode cX9_puts 23 = .ok (.iconst 4, 1) := by decide +kernel
theorem dX9_puts_24 : decode cX9_puts 24 = .ok (.iload_n 3, 1) := by decide +kernel
theorem dX9_puts_25 : decode cX9_puts 25 = .ok (.iadd, 1) := by decide +kernel
theorem dX9_puts_26 : decode cX9_puts 26 = .ok (.iconst 1, 1) := by decide +kernel
theorem dX9_puts_27 : decode cX9_puts 27 = .ok (.isub, 1) := by decide +kernel
theorem dX9_puts_28 : decode cX9_puts 28 = .ok (.iaload, 1) := by decide +kernel
theorem dX9_puts_29 : decode cX9_puts 29 = .ok (.iastore, 1) := by decide +kernel
theorem dX9_puts_30 : decode cX9_puts 30 = .ok (.iinc 3 (-1), 3) := by decide +kernel
theorem dX9_puts_33 : decode cX9_puts 33 = .ok (.goto (-26), 3) := by decide +kernel
theorem dX9_puts_36 : decode cX9_puts 36 = .ok (.aload_n 0, 1) := by decide +kernel
theorem dX9_puts_37 : decode cX9_puts 37 = .ok (.getfield 7, 3) := by decide +kernel
theorem dX9_puts_40 : decode cX9_puts 40 = .ok (.iconst 4, 1) := by decide +kernel
theorem dX9_puts_41 : decode cX9_puts 41 = .ok (.iload_n 1, 1) := by decide +kernel
theorem dX9_puts_42 : decode cX9_puts 42 = .ok (.iadd, 1) := by decide +kernel
theorem dX9_puts_43 : decode cX9_puts 43 = .ok (.iload_n 2, 1) := by decide +kernel
theorem dX9_puts_44 : decode cX9_puts 44 = .ok (.iastore, 1) := by decide +kernel
theorem dX9_puts_45 : decode cX9_puts 45 = .ok (.aload_n 0, 1) := by decide +kernel
theorem dX9_puts_46 : decode cX9_puts 46 = .ok (.getfield 7, 3) := by decide +kernel
theorem dX9_puts_49 : decode cX9_puts 49 = .ok (.iconst 2, 1) := by decide +kernel
theorem dX9_puts_50 : decode cX9_puts 50 = .ok (.dup2, 1) := by decide +kernel
theorem dX9_puts_51 : decode cX9_puts 51 = .ok (.iaload, 1) := by decide +kernel
theorem dX9_puts_52 : decode cX9_puts 52 = .ok (.iconst 1, 1) := by decide +kernel
theorem dX9_puts_53 : decode cX9_puts 53 = .ok (.iadd, 1) := by decide +kernel
theorem dX9_puts_54 : decode cX9_puts 54 = .ok (.iastore, 1) := by decide +kernel
theorem dX9_puts_55 : decode cX9_puts 55 = .ok (.return_, 1) := by decide +kernel
theorem dX9_takes_0 : decode cX9_takes 0 = .ok (.aload_n 0, 1) := by decide +kernel
theorem dX9_takes_1 : decode cX9_takes 1 = .ok (.getfield 7, 3) := by decide +kernel
theorem dX9_takes_4 : decode cX9_takes 4 = .ok (.iconst 2, 1) := by decide +kernel
theorem dX9_takes_5 : decode cX9_takes 5 = .ok (.dup2, 1) := by decide +kernel
theorem dX9_takes_6 : decode cX9_takes 6 = .ok (.iaload, 1) := by decide +kernel
theorem dX9_takes_7 : decode cX9_takes 7 = .ok (.iconst 1, 1) := by decide +kernel
theorem dX9_takes_8 : decode cX9_takes 8 = .ok (.isub, 1) := by decide +kernel
theorem dX9_takes_9 : decode cX9_takes 9 = .ok (.iastore, 1) := by decide +kernel
theorem dX9_takes_10 : decode cX9_takes 10 = .ok (.iload_n 1, 1) := by decide +kernel
theorem dX9_takes_11 : decode cX9_takes 11 = .ok (.istore_n 2, 1) := by decide +kernel
theorem dX9_takes_12 : decode cX9_takes 12 = .ok (.iload_n 2, 1) := by decide +kernel
theorem dX9_takes_13 : decode cX9_takes 13 = .ok (.aload_n 0, 1) := by decide +kernel
theorem dX9_takes_14 : decode cX9_takes 14 = .ok (.getfield 7, 3) := by decide +kernel
theorem dX9_takes_17 : decode cX9_takes 17 = .ok (.iconst 2, 1) := by decide +kernel
theorem dX9_takes_18 : decode cX9_takes 18 = .ok (.iaload, 1) := by decide +kernel
theorem dX9_takes_19 : decode cX9_takes 19 = .ok (.if_icmp .ge 27, 3) := by decide +kernel
theorem dX9_takes_22 : decode cX9_takes 22 = .ok (.aload_n 0, 1) := by decide +kernel
theorem dX9_takes_23 : decode cX9_takes 23 = .ok (.getfield 7, 3) := by decide +kernel
theorem dX9_takes_26 : decode cX9_takes 26 = .ok (.iconst 4, 1) := by decide +kernel
theorem dX9_takes_27 : decode cX9_takes 27 = .ok (.iload_n 2, 1) := by decide +kernel
theorem dX9_takes_28 : decode cX9_takes 28 = .ok (.iadd, 1) := by decide +kernel
theorem dX9_takes_29 : decode cX9_takes 29 = .ok (.aload_n 0, 1) := by decide +kernel
theorem dX9_takes_30 : decode cX9_takes 30 = .ok (.getfield 7, 3) := by decide +kernel
theorem dX9_takes_33 : decode cX9_takes 33 = .ok (.iconst 4, 1) := by decide +kernel
theorem dX9_takes_34 : decode cX9_takes 34 = .ok (.iload_n 2, 1) := by decide +kernel
theorem dX9_takes_35 : decode cX9_takes 35 = .ok (.iadd, 1) := by decide +kernel
theorem dX9_takes_36 : decode cX9_takes 36 = .ok (.iconst 1, 1) := by decide +kernel
theorem dX9_takes_37 : decode cX9_takes 37 = .ok (.iadd, 1) := by decide +kernel
theorem dX9_takes_38 : decode cX9_takes 38 = .ok (.iaload, 1) := by decide +kernel
theorem dX9_takes_39 : decode cX9_takes 39 = .ok (.iastore, 1) := by decide +kernel
theorem dX9_takes_40 : decode cX9_takes 40 = .ok (.iinc 2 1, 3) := by decide +kernel
theorem dX9_takes_43 : decode cX9_takes 43 = .ok (.goto (-31), 3) := by decide +kernel
theorem dX9_takes_46 : decode cX9_takes 46 = .ok (.aload_n 0, 1) := by decide +kernel
theorem dX9_takes_47 : decode cX9_takes 47 = .ok (.getfield 7, 3) := by decide +kernel
theorem dX9_takes_50 : decode cX9_takes 50 = .ok (.iconst 4, 1) := by decide +kernel
theorem dX9_takes_51 : decode cX9_takes 51 = .ok (.aload_n 0, 1) := by decide +kernel
theorem dX9_takes_52 : decode cX9_takes 52 = .ok (.getfield 7, 3) := by decide +kernel
theorem dX9_takes_55 : decode cX9_takes 55 = .ok (.iconst 2, 1) := by decide +kernel
theorem dX9_takes_56 : decode cX9_takes 56 = .ok (.iaload, 1) := by decide +kernel
theorem dX9_takes_57 : decode cX9_takes 57 = .ok (.iadd, 1) := by decide +kernel
theorem dX9_takes_58 : decode cX9_takes 58 = .ok (.iconst 0, 1) := by decide +kernel
theorem dX9_takes_59 : decode cX9_takes 59 = .ok (.iastore, 1) := by decide +kernel
theorem dX9_takes_60 : decode cX9_takes 60 = .ok (.return_, 1) := by decide +kernel
set_option maxRecDepth 20000 in
theorem ggX9_add_X9_in : GoodIn wsX9_add wsX9_in := goodIn_r _ [5] (by decide +kernel) (by decide +kernel)
set_option maxRecDepth 20000 in
theorem gX9_add_X9_in : GoodIn wsX9_add (va_wsS RX9 51 yX9_in wsX9_in) := goodIn_app (goodIn_of _ (by decide +kernel)) ggX9_add_X9_in
set_option maxRecDepth 20000 in
theorem ggX9_add_X9_changes : GoodIn wsX9_add wsX9_changes := goodIn_r _ [9, 10, 11, 12, 1, 17, 18, 19, 20, 21, 22, 23, 24, 25, 26, 27, 28, 29, 30, 31, 32, 33, 34] (by decide +kernel) (by decide +kernel)
set_option maxRecDepth 20000 in
theorem gX9_add_X9_changes : GoodIn wsX9_add (wsV RX9 79 RX9 yX9_changes wsX9_changes) := goodIn_app (goodIn_of _ (by decide +kernel)) ggX9_add_X9_changes
set_option maxRecDepth 20000 in
theorem ggX9_add_X9_puts : GoodIn wsX9_add wsX9_puts := goodIn_r _ [16, 1, 17, 18, 19, 20, 21, 22, 23, 24, 25, 26, 27, 28, 29, 30, 31, 32, 33, 34] (by decide +kernel) (by decide +kernel)
set_option maxRecDepth 20000 in
theorem gX9_add_X9_puts : GoodIn wsX9_add (wsV RX9 82 RX9 yX9_puts wsX9_puts) := goodIn_app (goodIn_of _ (by decide +kernel)) ggX9_add_X9_puts
theorem dX9_add_0 : decode cX9_add 0 = .ok (.iload_n 1, 1) := by decide +kernel
theorem dX9_add_1 : decode cX9_add 1 = .ok (.iconst 0, 1) := by decide +kernel
theorem dX9_add_2 : decode cX9_add 2 = .ok (.aload_n 0, 1) := by decide +kernel
theorem dX9_add_3 : decode cX9_add 3 = .ok (.getfield 7, 3) := by decide +kernel
theorem dX9_add_6 : decode cX9_add 6 = .ok (.iconst 2, 1) := by decide +kernel
theorem dX9_add_7 : decode cX9_add 7 = .ok (.iaload, 1) := by decide +kernel
theorem dX9_add_8 : decode cX9_add 8 = .ok (.invokestatic 51, 3) := by decide +kernel
theorem dX9_add_11 : decode cX9_add 11 = .ok (.ifCond .eq 14, 3) := by decide +kernel
theorem dX9_add_14 : decode cX9_add 14 = .ok (.iload_n 2, 1) := by decide +kernel
theorem dX9_add_15 : decode cX9_add 15 = .ok (.iconst 1, 1) := by decide +kernel
theorem dX9_add_16 : decode cX9_add 16 = .ok (.sipush 9999, 3) := by decide +kernel
theorem dX9_add_19 : decode cX9_add 19 = .ok (.invokestatic 51, 3) := by decide +kernel
theorem dX9_add_22 : decode cX9_add 22 = .ok (.ifCond .ne 5, 3) := by decide +kernel
theorem dX9_add_25 : decode cX9_add 25 = .ok (.iconst (-1), 1) := by decide +kernel
theorem dX9_add_26 : decode cX9_add 26 = .ok (.ireturn, 1) := by decide +kernel
theorem dX9_add_27 : decode cX9_add 27 = .ok (.aload_n 0, 1) := by decide +kernel
theorem dX9_add_28 : decode cX9_add 28 = .ok (.getfield 7, 3) := by decide +kernel
theorem dX9_add_31 : decode cX9_add 31 = .ok (.iconst 2, 1) := by decide +kernel
theorem dX9_add_32 : decode cX9_add 32 = .ok (.iaload, 1) := by decide +kernel
theorem dX9_add_33 : decode cX9_add 33 = .ok (.bipush 12, 2) := by decide +kernel
theorem dX9_add_35 : decode cX9_add 35 = .ok (.if_icmp .ne 6, 3) := by decide +kernel
theorem dX9_add_38 : decode cX9_add 38 = .ok (.bipush (-3), 2) := by decide +kernel
theorem dX9_add_40 : decode cX9_add 40 = .ok (.ireturn, 1) := by decide +kernel
theorem dX9_add_41 : decode cX9_add 41 = .ok (.aload_n 0, 1) := by decide +kernel
theorem dX9_add_42 : decode cX9_add 42 = .ok (.invokevirtual 79, 3) := by decide +kernel
theorem dX9_add_45 : decode cX9_add 45 = .ok (.aload_n 0, 1) := by decide +kernel
theorem dX9_add_46 : decode cX9_add 46 = .ok (.iload_n 1, 1) := by decide +kernel
theorem dX9_add_47 : decode cX9_add 47 = .ok (.iload_n 2, 1) := by decide +kernel
theorem dX9_add_48 : decode cX9_add 48 = .ok (.invokevirtual 82, 3) := by decide +kernel
theorem dX9_add_51 : decode cX9_add 51 = .ok (.aload_n 0, 1) := by decide +kernel
theorem dX9_add_52 : decode cX9_add 52 = .ok (.getfield 7, 3) := by decide +kernel
theorem dX9_add_55 : decode cX9_add 55 = .ok (.iconst 2, 1) := by decide +kernel
theorem dX9_add_56 : decode cX9_add 56 = .ok (.iaload, 1) := by decide +kernel
theorem dX9_add_57 : decode cX9_add 57 = .ok (.ireturn, 1) := by decide +kernel
set_option maxRecDepth 20000 in
theorem ggX9_take_X9_isStep : GoodIn wsX9_take wsX9_isStep := goodIn_r _ [5, 6, 7, 8, 4, 9, 25, 26, 27, 28, 29, 30, 31, 32, 33, 34, 35, 36, 37, 38, 39, 40, 41, 42] (by decide +kernel) (by decide +kernel)
set_option maxRecDepth 20000 in
theorem gX9_take_X9_isStep : GoodIn wsX9_take (wsV RX9 86 RX9 yX9_isStep wsX9_isStep) := goodIn_app (goodIn_of _ (by decide +kernel)) ggX9_take_X9_isStep
set_option maxRecDepth 20000 in
theorem ggX9_take_X9_changes : GoodIn wsX9_take wsX9_changes := goodIn_r _ [13, 14, 15, 16, 6, 25, 26, 27, 28, 29, 30, 31, 32, 33, 34, 35, 36, 37, 38, 39, 40, 41, 42] (by decide +kernel) (by decide +kernel)
set_option maxRecDepth 20000 in
theorem gX9_take_X9_changes : GoodIn wsX9_take (wsV RX9 79 RX9 yX9_changes wsX9_changes) := goodIn_app (goodIn_of _ (by decide +kernel)) ggX9_take_X9_changes
set_option maxRecDepth 20000 in
theorem ggX9_take_X9_of : GoodIn wsX9_take wsX9_of := goodIn_r _ [20, 6, 25, 26, 27, 28, 29, 30, 31, 32, 33, 34, 35, 36, 37, 38, 39, 40, 41, 42] (by decide +kernel) (by decide +kernel)
set_option maxRecDepth 20000 in
theorem gX9_take_X9_of : GoodIn wsX9_take (wsV RX9 59 RX9 yX9_of wsX9_of) := goodIn_app (goodIn_of _ (by decide +kernel)) ggX9_take_X9_of
set_option maxRecDepth 20000 in
theorem ggX9_take_X9_takes : GoodIn wsX9_take wsX9_takes := goodIn_r _ [24, 6, 25, 26, 27, 28, 29, 30, 31, 32, 33, 34, 35, 36, 37, 38, 39, 40, 41, 42] (by decide +kernel) (by decide +kernel)
set_option maxRecDepth 20000 in
theorem gX9_take_X9_takes : GoodIn wsX9_take (wsV RX9 90 RX9 yX9_takes wsX9_takes) := goodIn_app (goodIn_of _ (by decide +kernel)) ggX9_take_X9_takes
theorem dX9_take_0 : decode cX9_take 0 = .ok (.aload_n 0, 1) := by decide +kernel
theorem dX9_take_1 : decode cX9_take 1 = .ok (.iload_n 1, 1) := by decide +kernel
theorem dX9_take_2 : decode cX9_take 2 = .ok (.invokevirtual 86, 3) := by decide +kernel
theorem dX9_take_5 : decode cX9_take 5 = .ok (.ifCond .ne 5, 3) := by decide +kernel
theorem dX9_take_8 : decode cX9_take 8 = .ok (.iconst (-1), 1) := by decide +kernel
theorem dX9_take_9 : decode cX9_take 9 = .ok (.ireturn, 1) := by decide +kernel
theorem dX9_take_10 : decode cX9_take 10 = .ok (.aload_n 0, 1) := by decide +kernel
theorem dX9_take_11 : decode cX9_take 11 = .ok (.invokevirtual 79, 3) := by decide +kernel
theorem dX9_take_14 : decode cX9_take 14 = .ok (.aload_n 0, 1) := by decide +kernel
theorem dX9_take_15 : decode cX9_take 15 = .ok (.iload_n 1, 1) := by decide +kernel
theorem dX9_take_16 : decode cX9_take 16 = .ok (.invokevirtual 59, 3) := by decide +kernel
theorem dX9_take_19 : decode cX9_take 19 = .ok (.istore_n 2, 1) := by decide +kernel
theorem dX9_take_20 : decode cX9_take 20 = .ok (.aload_n 0, 1) := by decide +kernel
theorem dX9_take_21 : decode cX9_take 21 = .ok (.iload_n 1, 1) := by decide +kernel
theorem dX9_take_22 : decode cX9_take 22 = .ok (.invokevirtual 90, 3) := by decide +kernel
theorem dX9_take_25 : decode cX9_take 25 = .ok (.iload_n 2, 1) := by decide +kernel
theorem dX9_take_26 : decode cX9_take 26 = .ok (.ireturn, 1) := by decide +kernel
set_option maxRecDepth 20000 in
theorem ggX9_multiple_X9_of : GoodIn wsX9_multiple wsX9_of := goodIn_r _ [5, 6, 10, 11, 12, 13, 14, 15, 16, 17, 18, 19, 20, 21, 22, 23, 24, 25, 26, 27] (by decide +kernel) (by decide +kernel)
set_option maxRecDepth 20000 in
theorem gX9_multiple_X9_of : GoodIn wsX9_multiple (wsV RX9 59 RX9 yX9_of wsX9_of) := goodIn_app (goodIn_of _ (by decide +kernel)) ggX9_multiple_X9_of
set_option maxRecDepth 20000 in
theorem ggX9_multiple_X9_divisor : GoodIn wsX9_multiple wsX9_divisor := goodIn_r _ [9] (by decide +kernel) (by decide +kernel)
set_option maxRecDepth 20000 in
theorem gX9_multiple_X9_divisor : GoodIn wsX9_multiple (va_wsS RX9 62 yX9_divisor wsX9_divisor) := goodIn_app (goodIn_of _ (by decide +kernel)) ggX9_multiple_X9_divisor
theorem dX9_multiple_0 : decode cX9_multiple 0 = .ok (.aload_n 0, 1) := by decide +kernel
theorem dX9_multiple_1 : decode cX9_multiple 1 = .ok (.iload_n 1, 1) := by decide +kernel
theorem dX9_multiple_2 : decode cX9_multiple 2 = .ok (.invokevirtual 59, 3) := by decide +kernel
theorem dX9_multiple_5 : decode cX9_multiple 5 = .ok (.aload_n 0, 1) := by decide +kernel
theorem dX9_multiple_6 : decode cX9_multiple 6 = .ok (.iload_n 1, 1) := by decide +kernel
theorem dX9_multiple_7 : decode cX9_multiple 7 = .ok (.invokevirtual 59, 3) := by decide +kernel
theorem dX9_multiple_10 : decode cX9_multiple 10 = .ok (.aload_n 0, 1) := by decide +kernel
theorem dX9_multiple_11 : decode cX9_multiple 11 = .ok (.iload_n 1, 1) := by decide +kernel
theorem dX9_multiple_12 : decode cX9_multiple 12 = .ok (.iconst 1, 1) := by decide +kernel
theorem dX9_multiple_13 : decode cX9_multiple 13 = .ok (.iadd, 1) := by decide +kernel
theorem dX9_multiple_14 : decode cX9_multiple 14 = .ok (.invokevirtual 59, 3) := by decide +kernel
theorem dX9_multiple_17 : decode cX9_multiple 17 = .ok (.invokestatic 62, 3) := by decide +kernel
theorem dX9_multiple_20 : decode cX9_multiple 20 = .ok (.idiv, 1) := by decide +kernel
theorem dX9_multiple_21 : decode cX9_multiple 21 = .ok (.aload_n 0, 1) := by decide +kernel
theorem dX9_multiple_22 : decode cX9_multiple 22 = .ok (.iload_n 1, 1) := by decide +kernel
theorem dX9_multiple_23 : decode cX9_multiple 23 = .ok (.iconst 1, 1) := by decide +kernel
theorem dX9_multiple_24 : decode cX9_multiple 24 = .ok (.iadd, 1) := by decide +kernel
theorem dX9_multiple_25 : decode cX9_multiple 25 = .ok (.invokevirtual 59, 3) := by decide +kernel
theorem dX9_multiple_28 : decode cX9_multiple 28 = .ok (.imul, 1) := by decide +kernel
theorem dX9_multiple_29 : decode cX9_multiple 29 = .ok (.ireturn, 1) := by decide +kernel
set_option maxRecDepth 20000 in
theorem ggX9_whyNotShared_X9_in : GoodIn wsX9_whyNotShared wsX9_in := goodIn_r _ [5] (by decide +kernel) (by decide +kernel)
set_option maxRecDepth 20000 in
theorem gX9_whyNotShared_X9_in : GoodIn wsX9_whyNotShared (va_wsS RX9 51 yX9_in wsX9_in) := goodIn_app (goodIn_of _ (by decide +kernel)) ggX9_whyNotShared_X9_in
set_option maxRecDepth 20000 in
theorem ggX9_whyNotShared_X9_multiple : GoodIn wsX9_whyNotShared wsX9_multiple := goodIn_r _ [9, 10, 11, 12, 4, 13, 1, 14, 15, 16, 17, 18, 19, 20, 21, 22, 23, 24, 25, 26, 27, 28, 29, 30, 31, 32, 33, 34] (by decide +kernel) (by decide +kernel)
set_option maxRecDepth 20000 in
theorem gX9_whyNotShared_X9_multiple : GoodIn wsX9_whyNotShared (wsV RX9 94 RX9 yX9_multiple wsX9_multiple) := goodIn_app (goodIn_of _ (by decide +kernel)) ggX9_whyNotShared_X9_multiple
theorem dX9_whyNotShared_0 : decode cX9_whyNotShared 0 = .ok (.iload_n 1, 1) := by decide +kernel
theorem dX9_whyNotShared_1 : decode cX9_whyNotShared 1 = .ok (.iconst 0, 1) := by decide +kernel
theorem dX9_whyNotShared_2 : decode cX9_whyNotShared 2 = .ok (.aload_n 0, 1) := by decide +kernel
theorem dX9_whyNotShared_3 : decode cX9_whyNotShared 3 = .ok (.getfield 7, 3) := by decide +kernel
theorem dX9_whyNotShared_6 : decode cX9_whyNotShared 6 = .ok (.iconst 2, 1) := by decide +kernel
theorem dX9_whyNotShared_7 : decode cX9_whyNotShared 7 = .ok (.iaload, 1) := by decide +kernel
theorem dX9_whyNotShared_8 : decode cX9_whyNotShared 8 = .ok (.iconst 2, 1) := by decide +kernel
theorem dX9_whyNotShared_9 : decode cX9_whyNotShared 9 = .ok (.isub, 1) := by decide +kernel
theorem dX9_whyNotShared_10 : decode cX9_whyNotShared 10 = .ok (.invokestatic 51, 3) := by decide +kernel
theorem dX9_whyNotShared_13 : decode cX9_whyNotShared 13 = .ok (.ifCond .ne 5, 3) := by decide +kernel
theorem dX9_whyNotShared_16 : decode cX9_whyNotShared 16 = .ok (.iconst (-1), 1) := by decide +kernel
theorem dX9_whyNotShared_17 : decode cX9_whyNotShared 17 = .ok (.ireturn, 1) := by decide +kernel
theorem dX9_whyNotShared_18 : decode cX9_whyNotShared 18 = .ok (.aload_n 0, 1) := by decide +kernel
theorem dX9_whyNotShared_19 : decode cX9_whyNotShared 19 = .ok (.iload_n 1, 1) := by decide +kernel
theorem dX9_whyNotShared_20 : decode cX9_whyNotShared 20 = .ok (.invokevirtual 94, 3) := by decide +kernel
theorem dX9_whyNotShared_23 : decode cX9_whyNotShared 23 = .ok (.sipush 9999, 3) := by decide +kernel
theorem dX9_whyNotShared_26 : decode cX9_whyNotShared 26 = .ok (.if_icmp .le 8, 3) := by decide +kernel
theorem dX9_whyNotShared_29 : decode cX9_whyNotShared 29 = .ok (.bipush (-3), 2) := by decide +kernel
theorem dX9_whyNotShared_31 : decode cX9_whyNotShared 31 = .ok (.goto 4, 3) := by decide +kernel
theorem dX9_whyNotShared_34 : decode cX9_whyNotShared 34 = .ok (.iconst 0, 1) := by decide +kernel
theorem dX9_whyNotShared_35 : decode cX9_whyNotShared 35 = .ok (.ireturn, 1) := by decide +kernel
set_option maxRecDepth 20000 in
theorem ggX9_shares_X9_multiple : GoodIn wsX9_shares wsX9_multiple := goodIn_r _ [6, 7, 8, 9, 5, 10, 1, 11, 12, 13, 14, 15, 16, 17, 18, 19, 20, 21, 22, 23, 24, 25, 26, 27, 28, 29, 30, 31] (by decide +kernel) (by decide +kernel)
set_option maxRecDepth 20000 in
theorem gX9_shares_X9_multiple : GoodIn wsX9_shares (wsV RX9 94 RX9 yX9_multiple wsX9_multiple) := goodIn_app (goodIn_of _ (by decide +kernel)) ggX9_shares_X9_multiple
set_option maxRecDepth 20000 in
theorem ggX9_shares_X9_of : GoodIn wsX9_shares wsX9_of := goodIn_r _ [10, 1, 14, 15, 16, 17, 18, 19, 20, 21, 22, 23, 24, 25, 26, 27, 28, 29, 30, 31] (by decide +kernel) (by decide +kernel)
set_option maxRecDepth 20000 in
theorem gX9_shares_X9_of : GoodIn wsX9_shares (wsV RX9 59 RX9 yX9_of wsX9_of) := goodIn_app (goodIn_of _ (by decide +kernel)) ggX9_shares_X9_of
set_option maxRecDepth 20000 in
theorem ggX9_shares_X9_divisor : GoodIn wsX9_shares wsX9_divisor := goodIn_r _ [13] (by decide +kernel) (by decide +kernel)
set_option maxRecDepth 20000 in
theorem gX9_shares_X9_divisor : GoodIn wsX9_shares (va_wsS RX9 62 yX9_divisor wsX9_divisor) := goodIn_app (goodIn_of _ (by decide +kernel)) ggX9_shares_X9_divisor
theorem dX9_shares_0 : decode cX9_shares 0 = .ok (.aload_n 0, 1) := by decide +kernel
theorem dX9_shares_1 : decode cX9_shares 1 = .ok (.iload_n 1, 1) := by decide +kernel
theorem dX9_shares_2 : decode cX9_shares 2 = .ok (.invokevirtual 94, 3) := by decide +kernel
theorem dX9_shares_5 : decode cX9_shares 5 = .ok (.istore_n 2, 1) := by decide +kernel
theorem dX9_shares_6 : decode cX9_shares 6 = .ok (.aload_n 0, 1) := by decide +kernel
theorem dX9_shares_7 : decode cX9_shares 7 = .ok (.getfield 7, 3) := by decide +kernel
theorem dX9_shares_10 : decode cX9_shares 10 = .ok (.iconst 4, 1) := by decide +kernel
theorem dX9_shares_11 : decode cX9_shares 11 = .ok (.iload_n 1, 1) := by decide +kernel
theorem dX9_shares_12 : decode cX9_shares 12 = .ok (.iadd, 1) := by decide +kernel
theorem dX9_shares_13 : decode cX9_shares 13 = .ok (.aload_n 0, 1) := by decide +kernel
theorem dX9_shares_14 : decode cX9_shares 14 = .ok (.iload_n 1, 1) := by decide +kernel
theorem dX9_shares_15 : decode cX9_shares 15 = .ok (.invokevirtual 59, 3) := by decide +kernel
theorem dX9_shares_18 : decode cX9_shares 18 = .ok (.aload_n 0, 1) := by decide +kernel
theorem dX9_shares_19 : decode cX9_shares 19 = .ok (.iload_n 1, 1) := by decide +kernel
theorem dX9_shares_20 : decode cX9_shares 20 = .ok (.iconst 1, 1) := by decide +kernel
theorem dX9_shares_21 : decode cX9_shares 21 = .ok (.iadd, 1) := by decide +kernel
theorem dX9_shares_22 : decode cX9_shares 22 = .ok (.invokevirtual 59, 3) := by decide +kernel
theorem dX9_shares_25 : decode cX9_shares 25 = .ok (.invokestatic 62, 3) := by decide +kernel
theorem dX9_shares_28 : decode cX9_shares 28 = .ok (.iastore, 1) := by decide +kernel
theorem dX9_shares_29 : decode cX9_shares 29 = .ok (.aload_n 0, 1) := by decide +kernel
theorem dX9_shares_30 : decode cX9_shares 30 = .ok (.getfield 7, 3) := by decide +kernel
theorem dX9_shares_33 : decode cX9_shares 33 = .ok (.iconst 4, 1) := by decide +kernel
theorem dX9_shares_34 : decode cX9_shares 34 = .ok (.iload_n 1, 1) := by decide +kernel
theorem dX9_shares_35 : decode cX9_shares 35 = .ok (.iadd, 1) := by decide +kernel
theorem dX9_shares_36 : decode cX9_shares 36 = .ok (.iconst 1, 1) := by decide +kernel
theorem dX9_shares_37 : decode cX9_shares 37 = .ok (.iadd, 1) := by decide +kernel
theorem dX9_shares_38 : decode cX9_shares 38 = .ok (.iload_n 2, 1) := by decide +kernel
theorem dX9_shares_39 : decode cX9_shares 39 = .ok (.iastore, 1) := by decide +kernel
theorem dX9_shares_40 : decode cX9_shares 40 = .ok (.aload_n 0, 1) := by decide +kernel
theorem dX9_shares_41 : decode cX9_shares 41 = .ok (.iload_n 1, 1) := by decide +kernel
theorem dX9_shares_42 : decode cX9_shares 42 = .ok (.invokevirtual 59, 3) := by decide +kernel
theorem dX9_shares_45 : decode cX9_shares 45 = .ok (.ireturn, 1) := by decide +kernel
set_option maxRecDepth 20000 in
theorem ggX9_share_X9_whyNotShared : GoodIn wsX9_share wsX9_whyNotShared := goodIn_r _ [5, 6, 7, 8, 4, 9, 10, 11, 12, 13, 14, 15, 16, 17, 18, 19, 20, 32, 33, 34, 35, 36, 37, 38, 39, 40, 41, 42, 43, 44, 45, 46, 47, 48, 49] (by decide +kernel) (by decide +kernel)
set_option maxRecDepth 20000 in
theorem gX9_share_X9_whyNotShared : GoodIn wsX9_share (wsV RX9 97 RX9 yX9_whyNotShared wsX9_whyNotShared) := goodIn_app (goodIn_of _ (by decide +kernel)) ggX9_share_X9_whyNotShared
set_option maxRecDepth 20000 in
theorem ggX9_share_X9_changes : GoodIn wsX9_share wsX9_changes := goodIn_r _ [24, 25, 26, 27, 6, 32, 33, 34, 35, 36, 37, 38, 39, 40, 41, 42, 43, 44, 45, 46, 47, 48, 49] (by decide +kernel) (by decide +kernel)
set_option maxRecDepth 20000 in
theorem gX9_share_X9_changes : GoodIn wsX9_share (wsV RX9 79 RX9 yX9_changes wsX9_changes) := goodIn_app (goodIn_of _ (by decide +kernel)) ggX9_share_X9_changes
set_option maxRecDepth 20000 in
theorem ggX9_share_X9_shares : GoodIn wsX9_share wsX9_shares := goodIn_r _ [31, 6, 10, 11, 12, 4, 13, 14, 15, 16, 17, 18, 19, 20, 32, 33, 34, 35, 36, 37, 38, 39, 40, 41, 42, 43, 44, 45, 46, 47, 48, 49] (by decide +kernel) (by decide +kernel)
set_option maxRecDepth 20000 in
theorem gX9_share_X9_shares : GoodIn wsX9_share (wsV RX9 100 RX9 yX9_shares wsX9_shares) := goodIn_app (goodIn_of _ (by decide +kernel)) ggX9_share_X9_shares
theorem dX9_share_0 : decode cX9_share 0 = .ok (.aload_n 0, 1) := by decide +kernel
theorem dX9_share_1 : decode cX9_share 1 = .ok (.iload_n 1, 1) := by decide +kernel
theorem dX9_share_2 : decode cX9_share 2 = .ok (.invokevirtual 97, 3) := by decide +kernel
theorem dX9_share_5 : decode cX9_share 5 = .ok (.istore_n 2, 1) := by decide +kernel
theorem dX9_share_6 : decode cX9_share 6 = .ok (.iload_n 2, 1) := by decide +kernel
theorem dX9_share_7 : decode cX9_share 7 = .ok (.ifCond .ge 5, 3) := by decide +kernel
theorem dX9_share_10 : decode cX9_share 10 = .ok (.iload_n 2, 1) := by decide +kernel
theorem dX9_share_11 : decode cX9_share 11 = .ok (.ireturn, 1) := by decide +kernel
theorem dX9_share_12 : decode cX9_share 12 = .ok (.aload_n 0, 1) := by decide +kernel
theorem dX9_share_13 : decode cX9_share 13 = .ok (.invokevirtual 79, 3) := by decide +kernel
theorem dX9_share_16 : decode cX9_share 16 = .ok (.aload_n 0, 1) := by decide +kernel
theorem dX9_share_17 : decode cX9_share 17 = .ok (.iload_n 1, 1) := by decide +kernel
theorem dX9_share_18 : decode cX9_share 18 = .ok (.invokevirtual 100, 3) := by decide +kernel
theorem dX9_share_21 : decode cX9_share 21 = .ok (.ireturn, 1) := by decide +kernel
set_option maxRecDepth 20000 in
theorem ggX9_whyNotDivided_X9_in : GoodIn wsX9_whyNotDivided wsX9_in := goodIn_r _ [5] (by decide +kernel) (by decide +kernel)
set_option maxRecDepth 20000 in
theorem gX9_whyNotDivided_X9_in : GoodIn wsX9_whyNotDivided (va_wsS RX9 51 yX9_in wsX9_in) := goodIn_app (goodIn_of _ (by decide +kernel)) ggX9_whyNotDivided_X9_in
set_option maxRecDepth 20000 in
theorem ggX9_whyNotDivided_X9_of : GoodIn wsX9_whyNotDivided wsX9_of := goodIn_r _ [9, 1, 10, 11, 12, 13, 14, 15, 16, 17, 18, 19, 20, 21, 22, 23, 24, 25, 26, 27] (by decide +kernel) (by decide +kernel)
set_option maxRecDepth 20000 in
theorem gX9_whyNotDivided_X9_of : GoodIn wsX9_whyNotDivided (wsV RX9 59 RX9 yX9_of wsX9_of) := goodIn_app (goodIn_of _ (by decide +kernel)) ggX9_whyNotDivided_X9_of
theorem dX9_whyNotDivided_0 : decode cX9_whyNotDivided 0 = .ok (.iload_n 1, 1) := by decide +kernel
theorem dX9_whyNotDivided_1 : decode cX9_whyNotDivided 1 = .ok (.iconst 0, 1) := by decide +kernel
theorem dX9_whyNotDivided_2 : decode cX9_whyNotDivided 2 = .ok (.aload_n 0, 1) := by decide +kernel
theorem dX9_whyNotDivided_3 : decode cX9_whyNotDivided 3 = .ok (.getfield 7, 3) := by decide +kernel
theorem dX9_whyNotDivided_6 : decode cX9_whyNotDivided 6 = .ok (.iconst 2, 1) := by decide +kernel
theorem dX9_whyNotDivided_7 : decode cX9_whyNotDivided 7 = .ok (.iaload, 1) := by decide +kernel
theorem dX9_whyNotDivided_8 : decode cX9_whyNotDivided 8 = .ok (.iconst 2, 1) := by decide +kernel
theorem dX9_whyNotDivided_9 : decode cX9_whyNotDivided 9 = .ok (.isub, 1) := by decide +kernel
theorem dX9_whyNotDivided_10 : decode cX9_whyNotDivided 10 = .ok (.invokestatic 51, 3) := by decide +kernel
theorem dX9_whyNotDivided_13 : decode cX9_whyNotDivided 13 = .ok (.ifCond .ne 5, 3) := by decide +kernel
theorem dX9_whyNotDivided_16 : decode cX9_whyNotDivided 16 = .ok (.iconst (-1), 1) := by decide +kernel
theorem dX9_whyNotDivided_17 : decode cX9_whyNotDivided 17 = .ok (.ireturn, 1) := by decide +kernel
theorem dX9_whyNotDivided_18 : decode cX9_whyNotDivided 18 = .ok (.aload_n 0, 1) := by decide +kernel
theorem dX9_whyNotDivided_19 : decode cX9_whyNotDivided 19 = .ok (.iload_n 1, 1) := by decide +kernel
theorem dX9_whyNotDivided_20 : decode cX9_whyNotDivided 20 = .ok (.iconst 1, 1) := by decide +kernel
theorem dX9_whyNotDivided_21 : decode cX9_whyNotDivided 21 = .ok (.iadd, 1) := by decide +kernel
theorem dX9_whyNotDivided_22 : decode cX9_whyNotDivided 22 = .ok (.invokevirtual 59, 3) := by decide +kernel
theorem dX9_whyNotDivided_25 : decode cX9_whyNotDivided 25 = .ok (.aload_n 0, 1) := by decide +kernel
theorem dX9_whyNotDivided_26 : decode cX9_whyNotDivided 26 = .ok (.iload_n 1, 1) := by decide +kernel
theorem dX9_whyNotDivided_27 : decode cX9_whyNotDivided 27 = .ok (.invokevirtual 59, 3) := by decide +kernel
theorem dX9_whyNotDivided_30 : decode cX9_whyNotDivided 30 = .ok (.irem, 1) := by decide +kernel
theorem dX9_whyNotDivided_31 : decode cX9_whyNotDivided 31 = .ok (.ifCond .ne 7, 3) := by decide +kernel
theorem dX9_whyNotDivided_34 : decode cX9_whyNotDivided 34 = .ok (.iconst 0, 1) := by decide +kernel
theorem dX9_whyNotDivided_35 : decode cX9_whyNotDivided 35 = .ok (.goto 5, 3) := by decide +kernel
theorem dX9_whyNotDivided_38 : decode cX9_whyNotDivided 38 = .ok (.bipush (-2), 2) := by decide +kernel
theorem dX9_whyNotDivided_40 : decode cX9_whyNotDivided 40 = .ok (.ireturn, 1) := by decide +kernel
set_option maxRecDepth 20000 in
theorem ggX9_breaks_X9_of : GoodIn wsX9_breaks wsX9_of := goodIn_r _ [6, 1, 11, 12, 13, 14, 15, 16, 17, 18, 19, 20, 21, 22, 23, 24, 25, 26, 27, 28] (by decide +kernel) (by decide +kernel)
set_option maxRecDepth 20000 in
theorem gX9_breaks_X9_of : GoodIn wsX9_breaks (wsV RX9 59 RX9 yX9_of wsX9_of) := goodIn_app (goodIn_of _ (by decide +kernel)) ggX9_breaks_X9_of
set_option maxRecDepth 20000 in
theorem ggX9_breaks_X9_takes : GoodIn wsX9_breaks wsX9_takes := goodIn_r _ [10, 1, 11, 12, 13, 14, 15, 16, 17, 18, 19, 20, 21, 22, 23, 24, 25, 26, 27, 28] (by decide +kernel) (by decide +kernel)
set_option maxRecDepth 20000 in
theorem gX9_breaks_X9_takes : GoodIn wsX9_breaks (wsV RX9 90 RX9 yX9_takes wsX9_takes) := goodIn_app (goodIn_of _ (by decide +kernel)) ggX9_breaks_X9_takes
theorem dX9_breaks_0 : decode cX9_breaks 0 = .ok (.aload_n 0, 1) := by decide +kernel
theorem dX9_breaks_1 : decode cX9_breaks 1 = .ok (.iload_n 1, 1) := by decide +kernel
theorem dX9_breaks_2 : decode cX9_breaks 2 = .ok (.invokevirtual 59, 3) := by decide +kernel
theorem dX9_breaks_5 : decode cX9_breaks 5 = .ok (.iconst 1, 1) := by decide +kernel
theorem dX9_breaks_6 : decode cX9_breaks 6 = .ok (.if_icmp .ne 18, 3) := by decide +kernel
theorem dX9_breaks_9 : decode cX9_breaks 9 = .ok (.aload_n 0, 1) := by decide +kernel
theorem dX9_breaks_10 : decode cX9_breaks 10 = .ok (.iload_n 1, 1) := by decide +kernel
theorem dX9_breaks_11 : decode cX9_breaks 11 = .ok (.invokevirtual 90, 3) := by decide +kernel
theorem dX9_breaks_14 : decode cX9_breaks 14 = .ok (.aload_n 0, 1) := by decide +kernel
theorem dX9_breaks_15 : decode cX9_breaks 15 = .ok (.getfield 7, 3) := by decide +kernel
theorem dX9_breaks_18 : decode cX9_breaks 18 = .ok (.iconst 3, 1) := by decide +kernel
theorem dX9_breaks_19 : decode cX9_breaks 19 = .ok (.dup2, 1) := by decide +kernel
theorem dX9_breaks_20 : decode cX9_breaks 20 = .ok (.iaload, 1) := by decide +kernel
theorem dX9_breaks_21 : decode cX9_breaks 21 = .ok (.iconst 1, 1) := by decide +kernel
theorem dX9_breaks_22 : decode cX9_breaks 22 = .ok (.iadd, 1) := by decide +kernel
theorem dX9_breaks_23 : decode cX9_breaks 23 = .ok (.iastore, 1) := by decide +kernel
theorem dX9_breaks_24 : decode cX9_breaks 24 = .ok (.return_, 1) := by decide +kernel
set_option maxRecDepth 20000 in
theorem ggX9_divides_X9_of : GoodIn wsX9_divides wsX9_of := goodIn_r _ [6, 1, 23, 24, 25, 26, 27, 28, 29, 30, 31, 32, 33, 34, 35, 36, 37, 38, 39, 40] (by decide +kernel) (by decide +kernel)
set_option maxRecDepth 20000 in
theorem gX9_divides_X9_of : GoodIn wsX9_divides (wsV RX9 59 RX9 yX9_of wsX9_of) := goodIn_app (goodIn_of _ (by decide +kernel)) ggX9_divides_X9_of
set_option maxRecDepth 20000 in
theorem ggX9_divides_X9_leastFactor : GoodIn wsX9_divides wsX9_leastFactor := goodIn_r _ [9] (by decide +kernel) (by decide +kernel)
set_option maxRecDepth 20000 in
theorem gX9_divides_X9_leastFactor : GoodIn wsX9_divides (va_wsS RX9 55 yX9_leastFactor wsX9_leastFactor) := goodIn_app (goodIn_of _ (by decide +kernel)) ggX9_divides_X9_leastFactor
set_option maxRecDepth 20000 in
theorem ggX9_divides_X9_rank : GoodIn wsX9_divides wsX9_rank := goodIn_r _ [13, 14, 23, 24, 25, 26, 27, 28, 29, 30, 31, 32, 33, 34, 35, 36, 37, 38, 39, 40] (by decide +kernel) (by decide +kernel)
set_option maxRecDepth 20000 in
theorem gX9_divides_X9_rank : GoodIn wsX9_divides (wsV RX9 103 RX9 yX9_rank wsX9_rank) := goodIn_app (goodIn_of _ (by decide +kernel)) ggX9_divides_X9_rank
set_option maxRecDepth 20000 in
theorem ggX9_divides_X9_breaks : GoodIn wsX9_divides wsX9_breaks := goodIn_r _ [18, 1, 2, 3, 4, 5, 6, 19, 20, 21, 22, 23, 24, 25, 26, 27, 28, 29, 30, 31, 32, 33, 34, 35, 36, 37, 38, 39, 40] (by decide +kernel) (by decide +kernel)
set_option maxRecDepth 20000 in
theorem gX9_divides_X9_breaks : GoodIn wsX9_divides (wsV RX9 106 RX9 yX9_breaks wsX9_breaks) := goodIn_app (goodIn_of _ (by decide +kernel)) ggX9_divides_X9_breaks
theorem dX9_divides_0 : decode cX9_divides 0 = .ok (.aload_n 0, 1) := by decide +kernel
theorem dX9_divides_1 : decode cX9_divides 1 = .ok (.iload_n 1, 1) := by decide +kernel
theorem dX9_divides_2 : decode cX9_divides 2 = .ok (.invokevirtual 59, 3) := by decide +kernel
theorem dX9_divides_5 : decode cX9_divides 5 = .ok (.istore_n 2, 1) := by decide +kernel
theorem dX9_divides_6 : decode cX9_divides 6 = .ok (.aload_n 0, 1) := by decide +kernel
theorem dX9_divides_7 : decode cX9_divides 7 = .ok (.iload_n 1, 1) := by decide +kernel
theorem dX9_divides_8 : decode cX9_divides 8 = .ok (.iconst 1, 1) := by decide +kernel
theorem dX9_divides_9 : decode cX9_divides 9 = .ok (.iadd, 1) := by decide +kernel
theorem dX9_divides_10 : decode cX9_divides 10 = .ok (.invokevirtual 59, 3) := by decide +kernel
theorem dX9_divides_13 : decode cX9_divides 13 = .ok (.iload_n 2, 1) := by decide +kernel
theorem dX9_divides_14 : decode cX9_divides 14 = .ok (.idiv, 1) := by decide +kernel
theorem dX9_divides_15 : decode cX9_divides 15 = .ok (.istore_n 3, 1) := by decide +kernel
theorem dX9_divides_16 : decode cX9_divides 16 = .ok (.iload_n 2, 1) := by decide +kernel
theorem dX9_divides_17 : decode cX9_divides 17 = .ok (.iconst 1, 1) := by decide +kernel
theorem dX9_divides_18 : decode cX9_divides 18 = .ok (.if_icmp .le 35, 3) := by decide +kernel
theorem dX9_divides_21 : decode cX9_divides 21 = .ok (.iload_n 2, 1) := by decide +kernel
theorem dX9_divides_22 : decode cX9_divides 22 = .ok (.invokestatic 55, 3) := by decide +kernel
theorem dX9_divides_25 : decode cX9_divides 25 = .ok (.istore 4, 2) := by decide +kernel
theorem dX9_divides_27 : decode cX9_divides 27 = .ok (.aload_n 0, 1) := by decide +kernel
theorem dX9_divides_28 : decode cX9_divides 28 = .ok (.getfield 7, 3) := by decide +kernel
theorem dX9_divides_31 : decode cX9_divides 31 = .ok (.bipush 16, 2) := by decide +kernel
theorem dX9_divides_33 : decode cX9_divides 33 = .ok (.aload_n 0, 1) := by decide +kernel
theorem dX9_divides_34 : decode cX9_divides 34 = .ok (.iload 4, 2) := by decide +kernel
theorem dX9_divides_36 : decode cX9_divides 36 = .ok (.invokevirtual 103, 3) := by decide +kernel
theorem dX9_divides_39 : decode cX9_divides 39 = .ok (.iadd, 1) := by decide +kernel
theorem dX9_divides_40 : decode cX9_divides 40 = .ok (.dup2, 1) := by decide +kernel
theorem dX9_divides_41 : decode cX9_divides 41 = .ok (.iaload, 1) := by decide +kernel
theorem dX9_divides_42 : decode cX9_divides 42 = .ok (.iconst 1, 1) := by decide +kernel
theorem dX9_divides_43 : decode cX9_divides 43 = .ok (.iadd, 1) := by decide +kernel
theorem dX9_divides_44 : decode cX9_divides 44 = .ok (.iastore, 1) := by decide +kernel
theorem dX9_divides_45 : decode cX9_divides 45 = .ok (.iload_n 2, 1) := by decide +kernel
theorem dX9_divides_46 : decode cX9_divides 46 = .ok (.iload 4, 2) := by decide +kernel
theorem dX9_divides_48 : decode cX9_divides 48 = .ok (.idiv, 1) := by decide +kernel
theorem dX9_divides_49 : decode cX9_divides 49 = .ok (.istore_n 2, 1) := by decide +kernel
theorem dX9_divides_50 : decode cX9_divides 50 = .ok (.goto (-34), 3) := by decide +kernel
theorem dX9_divides_53 : decode cX9_divides 53 = .ok (.aload_n 0, 1) := by decide +kernel
theorem dX9_divides_54 : decode cX9_divides 54 = .ok (.getfield 7, 3) := by decide +kernel
theorem dX9_divides_57 : decode cX9_divides 57 = .ok (.iconst 4, 1) := by decide +kernel
theorem dX9_divides_58 : decode cX9_divides 58 = .ok (.iload_n 1, 1) := by decide +kernel
theorem dX9_divides_59 : decode cX9_divides 59 = .ok (.iadd, 1) := by decide +kernel
theorem dX9_divides_60 : decode cX9_divides 60 = .ok (.iconst 1, 1) := by decide +kernel
theorem dX9_divides_61 : decode cX9_divides 61 = .ok (.iadd, 1) := by decide +kernel
theorem dX9_divides_62 : decode cX9_divides 62 = .ok (.iload_n 3, 1) := by decide +kernel
theorem dX9_divides_63 : decode cX9_divides 63 = .ok (.iastore, 1) := by decide +kernel
theorem dX9_divides_64 : decode cX9_divides 64 = .ok (.aload_n 0, 1) := by decide +kernel
theorem dX9_divides_65 : decode cX9_divides 65 = .ok (.iload_n 1, 1) := by decide +kernel
theorem dX9_divides_66 : decode cX9_divides 66 = .ok (.iconst 1, 1) := by decide +kernel
theorem dX9_divides_67 : decode cX9_divides 67 = .ok (.iadd, 1) := by decide +kernel
theorem dX9_divides_68 : decode cX9_divides 68 = .ok (.invokevirtual 106, 3) := by decide +kernel
theorem dX9_divides_71 : decode cX9_divides 71 = .ok (.iload_n 3, 1) := by decide +kernel
theorem dX9_divides_72 : decode cX9_divides 72 = .ok (.ireturn, 1) := by decide +kernel
set_option maxRecDepth 20000 in
theorem ggX9_divide_X9_whyNotDivided : GoodIn wsX9_divide wsX9_whyNotDivided := goodIn_r _ [5, 6, 7, 8, 4, 9, 10, 11, 12, 13, 41, 42, 43, 44, 45, 46, 47, 48, 49, 50, 51, 52, 53, 54, 55, 56, 57, 58] (by decide +kernel) (by decide +kernel)
set_option maxRecDepth 20000 in
theorem gX9_divide_X9_whyNotDivided : GoodIn wsX9_divide (wsV RX9 109 RX9 yX9_whyNotDivided wsX9_whyNotDivided) := goodIn_app (goodIn_of _ (by decide +kernel)) ggX9_divide_X9_whyNotDivided
set_option maxRecDepth 20000 in
theorem ggX9_divide_X9_changes : GoodIn wsX9_divide wsX9_changes := goodIn_r _ [17, 18, 19, 20, 6, 41, 42, 43, 44, 45, 46, 47, 48, 49, 50, 51, 52, 53, 54, 55, 56, 57, 58] (by decide +kernel) (by decide +kernel)
set_option maxRecDepth 20000 in
theorem gX9_divide_X9_changes : GoodIn wsX9_divide (wsV RX9 79 RX9 yX9_changes wsX9_changes) := goodIn_app (goodIn_of _ (by decide +kernel)) ggX9_divide_X9_changes
set_option maxRecDepth 20000 in
theorem ggX9_divide_X9_divides : GoodIn wsX9_divide wsX9_divides := goodIn_r _ [24, 6, 10, 11, 12, 4, 13, 25, 26, 27, 28, 29, 30, 31, 32, 33, 34, 35, 36, 37, 38, 39, 40, 41, 42, 43, 44, 45, 46, 47, 48, 49, 50, 51, 52, 53, 54, 55, 56, 57, 58] (by decide +kernel) (by decide +kernel)
set_option maxRecDepth 20000 in
theorem gX9_divide_X9_divides : GoodIn wsX9_divide (wsV RX9 112 RX9 yX9_divides wsX9_divides) := goodIn_app (goodIn_of _ (by decide +kernel)) ggX9_divide_X9_divides
theorem dX9_divide_0 : decode cX9_divide 0 = .ok (.aload_n 0, 1) := by decide +kernel
theorem dX9_divide_1 : decode cX9_divide 1 = .ok (.iload_n 1, 1) := by decide +kernel
theorem dX9_divide_2 : decode cX9_divide 2 = .ok (.invokevirtual 109, 3) := by decide +kernel
theorem dX9_divide_5 : decode cX9_divide 5 = .ok (.istore_n 2, 1) := by decide +kernel
theorem dX9_divide_6 : decode cX9_divide 6 = .ok (.iload_n 2, 1) := by decide +kernel
theorem dX9_divide_7 : decode cX9_divide 7 = .ok (.ifCond .ge 5, 3) := by decide +kernel
theorem dX9_divide_10 : decode cX9_divide 10 = .ok (.iload_n 2, 1) := by decide +kernel
theorem dX9_divide_11 : decode cX9_divide 11 = .ok (.ireturn, 1) := by decide +kernel
theorem dX9_divide_12 : decode cX9_divide 12 = .ok (.aload_n 0, 1) := by decide +kernel
theorem dX9_divide_13 : decode cX9_divide 13 = .ok (.invokevirtual 79, 3) := by decide +kernel
theorem dX9_divide_16 : decode cX9_divide 16 = .ok (.aload_n 0, 1) := by decide +kernel
theorem dX9_divide_17 : decode cX9_divide 17 = .ok (.iload_n 1, 1) := by decide +kernel
theorem dX9_divide_18 : decode cX9_divide 18 = .ok (.invokevirtual 112, 3) := by decide +kernel
theorem dX9_divide_21 : decode cX9_divide 21 = .ok (.ireturn, 1) := by decide +kernel
set_option maxRecDepth 20000 in
theorem ggX9_strikes_X9_of : GoodIn wsX9_strikes wsX9_of := goodIn_r _ [6, 1, 20, 21, 22, 23, 24, 25, 26, 27, 28, 29, 30, 31, 32, 33, 34, 35, 36, 37] (by decide +kernel) (by decide +kernel)
set_option maxRecDepth 20000 in
theorem gX9_strikes_X9_of : GoodIn wsX9_strikes (wsV RX9 59 RX9 yX9_of wsX9_of) := goodIn_app (goodIn_of _ (by decide +kernel)) ggX9_strikes_X9_of
set_option maxRecDepth 20000 in
theorem ggX9_strikes_X9_rank : GoodIn wsX9_strikes wsX9_rank := goodIn_r _ [10, 11, 20, 21, 22, 23, 24, 25, 26, 27, 28, 29, 30, 31, 32, 33, 34, 35, 36, 37] (by decide +kernel) (by decide +kernel)
set_option maxRecDepth 20000 in
theorem gX9_strikes_X9_rank : GoodIn wsX9_strikes (wsV RX9 103 RX9 yX9_rank wsX9_rank) := goodIn_app (goodIn_of _ (by decide +kernel)) ggX9_strikes_X9_rank
set_option maxRecDepth 20000 in
theorem ggX9_strikes_X9_breaks : GoodIn wsX9_strikes wsX9_breaks := goodIn_r _ [15, 1, 2, 3, 4, 5, 6, 16, 17, 18, 19, 20, 21, 22, 23, 24, 25, 26, 27, 28, 29, 30, 31, 32, 33, 34, 35, 36, 37] (by decide +kernel) (by decide +kernel)
set_option maxRecDepth 20000 in
theorem gX9_strikes_X9_breaks : GoodIn wsX9_strikes (wsV RX9 106 RX9 yX9_breaks wsX9_breaks) := goodIn_app (goodIn_of _ (by decide +kernel)) ggX9_strikes_X9_breaks
theorem dX9_strikes_0 : decode cX9_strikes 0 = .ok (.aload_n 0, 1) := by decide +kernel
theorem dX9_strikes_1 : decode cX9_strikes 1 = .ok (.iload_n 1, 1) := by decide +kernel
theorem dX9_strikes_2 : decode cX9_strikes 2 = .ok (.invokevirtual 59, 3) := by decide +kernel
theorem dX9_strikes_5 : decode cX9_strikes 5 = .ok (.iload_n 2, 1) := by decide +kernel
theorem dX9_strikes_6 : decode cX9_strikes 6 = .ok (.idiv, 1) := by decide +kernel
theorem dX9_strikes_7 : decode cX9_strikes 7 = .ok (.istore_n 3, 1) := by decide +kernel
theorem dX9_strikes_8 : decode cX9_strikes 8 = .ok (.aload_n 0, 1) := by decide +kernel
theorem dX9_strikes_9 : decode cX9_strikes 9 = .ok (.getfield 7, 3) := by decide +kernel
theorem dX9_strikes_12 : decode cX9_strikes 12 = .ok (.iconst 4, 1) := by decide +kernel
theorem dX9_strikes_13 : decode cX9_strikes 13 = .ok (.iload_n 1, 1) := by decide +kernel
theorem dX9_strikes_14 : decode cX9_strikes 14 = .ok (.iadd, 1) := by decide +kernel
theorem dX9_strikes_15 : decode cX9_strikes 15 = .ok (.iload_n 3, 1) := by decide +kernel
theorem dX9_strikes_16 : decode cX9_strikes 16 = .ok (.iastore, 1) := by decide +kernel
theorem dX9_strikes_17 : decode cX9_strikes 17 = .ok (.aload_n 0, 1) := by decide +kernel
theorem dX9_strikes_18 : decode cX9_strikes 18 = .ok (.getfield 7, 3) := by decide +kernel
theorem dX9_strikes_21 : decode cX9_strikes 21 = .ok (.bipush 16, 2) := by decide +kernel
theorem dX9_strikes_23 : decode cX9_strikes 23 = .ok (.aload_n 0, 1) := by decide +kernel
theorem dX9_strikes_24 : decode cX9_strikes 24 = .ok (.iload_n 2, 1) := by decide +kernel
theorem dX9_strikes_25 : decode cX9_strikes 25 = .ok (.invokevirtual 103, 3) := by decide +kernel
theorem dX9_strikes_28 : decode cX9_strikes 28 = .ok (.iadd, 1) := by decide +kernel
theorem dX9_strikes_29 : decode cX9_strikes 29 = .ok (.dup2, 1) := by decide +kernel
theorem dX9_strikes_30 : decode cX9_strikes 30 = .ok (.iaload, 1) := by decide +kernel
theorem dX9_strikes_31 : decode cX9_strikes 31 = .ok (.iconst 1, 1) := by decide +kernel
theorem dX9_strikes_32 : decode cX9_strikes 32 = .ok (.iadd, 1) := by decide +kernel
theorem dX9_strikes_33 : decode cX9_strikes 33 = .ok (.iastore, 1) := by decide +kernel
theorem dX9_strikes_34 : decode cX9_strikes 34 = .ok (.aload_n 0, 1) := by decide +kernel
theorem dX9_strikes_35 : decode cX9_strikes 35 = .ok (.iload_n 1, 1) := by decide +kernel
theorem dX9_strikes_36 : decode cX9_strikes 36 = .ok (.invokevirtual 106, 3) := by decide +kernel
theorem dX9_strikes_39 : decode cX9_strikes 39 = .ok (.iload_n 3, 1) := by decide +kernel
theorem dX9_strikes_40 : decode cX9_strikes 40 = .ok (.ireturn, 1) := by decide +kernel
set_option maxRecDepth 20000 in
theorem ggX9_strike_X9_isStep : GoodIn wsX9_strike wsX9_isStep := goodIn_r _ [5, 6, 7, 8, 4, 9, 38, 39, 40, 41, 42, 43, 44, 45, 46, 47, 48, 49, 50, 51, 52, 53, 54, 55] (by decide +kernel) (by decide +kernel)
set_option maxRecDepth 20000 in
theorem gX9_strike_X9_isStep : GoodIn wsX9_strike (wsV RX9 86 RX9 yX9_isStep wsX9_isStep) := goodIn_app (goodIn_of _ (by decide +kernel)) ggX9_strike_X9_isStep
set_option maxRecDepth 20000 in
theorem ggX9_strike_X9_rank : GoodIn wsX9_strike wsX9_rank := goodIn_r _ [13, 14, 38, 39, 40, 41, 42, 43, 44, 45, 46, 47, 48, 49, 50, 51, 52, 53, 54, 55] (by decide +kernel) (by decide +kernel)
set_option maxRecDepth 20000 in
theorem gX9_strike_X9_rank : GoodIn wsX9_strike (wsV RX9 103 RX9 yX9_rank wsX9_rank) := goodIn_app (goodIn_of _ (by decide +kernel)) ggX9_strike_X9_rank
set_option maxRecDepth 20000 in
theorem ggX9_strike_X9_of : GoodIn wsX9_strike wsX9_of := goodIn_r _ [18, 6, 38, 39, 40, 41, 42, 43, 44, 45, 46, 47, 48, 49, 50, 51, 52, 53, 54, 55] (by decide +kernel) (by decide +kernel)
set_option maxRecDepth 20000 in
theorem gX9_strike_X9_of : GoodIn wsX9_strike (wsV RX9 59 RX9 yX9_of wsX9_of) := goodIn_app (goodIn_of _ (by decide +kernel)) ggX9_strike_X9_of
set_option maxRecDepth 20000 in
theorem ggX9_strike_X9_changes : GoodIn wsX9_strike wsX9_changes := goodIn_r _ [22, 23, 24, 25, 6, 38, 39, 40, 41, 42, 43, 44, 45, 46, 47, 48, 49, 50, 51, 52, 53, 54, 55] (by decide +kernel) (by decide +kernel)
set_option maxRecDepth 20000 in
theorem gX9_strike_X9_changes : GoodIn wsX9_strike (wsV RX9 79 RX9 yX9_changes wsX9_changes) := goodIn_app (goodIn_of _ (by decide +kernel)) ggX9_strike_X9_changes
set_option maxRecDepth 20000 in
theorem ggX9_strike_X9_strikes : GoodIn wsX9_strike wsX9_strikes := goodIn_r _ [29, 6, 15, 16, 17, 4, 18, 10, 11, 12, 13, 14, 30, 31, 32, 33, 34, 35, 36, 37, 38, 39, 40, 41, 42, 43, 44, 45, 46, 47, 48, 49, 50, 51, 52, 53, 54, 55] (by decide +kernel) (by decide +kernel)
set_option maxRecDepth 20000 in
theorem gX9_strike_X9_strikes : GoodIn wsX9_strike (wsV RX9 115 RX9 yX9_strikes wsX9_strikes) := goodIn_app (goodIn_of _ (by decide +kernel)) ggX9_strike_X9_strikes
theorem dX9_strike_0 : decode cX9_strike 0 = .ok (.aload_n 0, 1) := by decide +kernel
theorem dX9_strike_1 : decode cX9_strike 1 = .ok (.iload_n 1, 1) := by decide +kernel
theorem dX9_strike_2 : decode cX9_strike 2 = .ok (.invokevirtual 86, 3) := by decide +kernel
theorem dX9_strike_5 : decode cX9_strike 5 = .ok (.ifCond .eq 11, 3) := by decide +kernel
theorem dX9_strike_8 : decode cX9_strike 8 = .ok (.aload_n 0, 1) := by decide +kernel
theorem dX9_strike_9 : decode cX9_strike 9 = .ok (.iload_n 2, 1) := by decide +kernel
theorem dX9_strike_10 : decode cX9_strike 10 = .ok (.invokevirtual 103, 3) := by decide +kernel
theorem dX9_strike_13 : decode cX9_strike 13 = .ok (.ifCond .ge 5, 3) := by decide +kernel
theorem dX9_strike_16 : decode cX9_strike 16 = .ok (.iconst (-1), 1) := by decide +kernel
theorem dX9_strike_17 : decode cX9_strike 17 = .ok (.ireturn, 1) := by decide +kernel
theorem dX9_strike_18 : decode cX9_strike 18 = .ok (.aload_n 0, 1) := by decide +kernel
theorem dX9_strike_19 : decode cX9_strike 19 = .ok (.iload_n 1, 1) := by decide +kernel
theorem dX9_strike_20 : decode cX9_strike 20 = .ok (.invokevirtual 59, 3) := by decide +kernel
theorem dX9_strike_23 : decode cX9_strike 23 = .ok (.iload_n 2, 1) := by decide +kernel
theorem dX9_strike_24 : decode cX9_strike 24 = .ok (.irem, 1) := by decide +kernel
theorem dX9_strike_25 : decode cX9_strike 25 = .ok (.ifCond .eq 6, 3) := by decide +kernel
theorem dX9_strike_28 : decode cX9_strike 28 = .ok (.bipush (-2), 2) := by decide +kernel
theorem dX9_strike_30 : decode cX9_strike 30 = .ok (.ireturn, 1) := by decide +kernel
theorem dX9_strike_31 : decode cX9_strike 31 = .ok (.aload_n 0, 1) := by decide +kernel
theorem dX9_strike_32 : decode cX9_strike 32 = .ok (.invokevirtual 79, 3) := by decide +kernel
theorem dX9_strike_35 : decode cX9_strike 35 = .ok (.aload_n 0, 1) := by decide +kernel
theorem dX9_strike_36 : decode cX9_strike 36 = .ok (.iload_n 1, 1) := by decide +kernel
theorem dX9_strike_37 : decode cX9_strike 37 = .ok (.iload_n 2, 1) := by decide +kernel
theorem dX9_strike_38 : decode cX9_strike 38 = .ok (.invokevirtual 115, 3) := by decide +kernel
theorem dX9_strike_41 : decode cX9_strike 41 = .ok (.ireturn, 1) := by decide +kernel
set_option maxRecDepth 20000 in
theorem ggX9_isSettled_X9_of : GoodIn wsX9_isSettled wsX9_of := goodIn_r _ [6, 1, 7, 8, 9, 10, 11, 12, 13, 14, 15, 16, 17, 18, 19, 20, 21, 22, 23, 24] (by decide +kernel) (by decide +kernel)
set_option maxRecDepth 20000 in
theorem gX9_isSettled_X9_of : GoodIn wsX9_isSettled (wsV RX9 59 RX9 yX9_of wsX9_of) := goodIn_app (goodIn_of _ (by decide +kernel)) ggX9_isSettled_X9_of
theorem dX9_isSettled_0 : decode cX9_isSettled 0 = .ok (.iconst 1, 1) := by decide +kernel
theorem dX9_isSettled_1 : decode cX9_isSettled 1 = .ok (.istore_n 1, 1) := by decide +kernel
theorem dX9_isSettled_2 : decode cX9_isSettled 2 = .ok (.iconst 0, 1) := by decide +kernel
theorem dX9_isSettled_3 : decode cX9_isSettled 3 = .ok (.istore_n 2, 1) := by decide +kernel
theorem dX9_isSettled_4 : decode cX9_isSettled 4 = .ok (.iload_n 2, 1) := by decide +kernel
theorem dX9_isSettled_5 : decode cX9_isSettled 5 = .ok (.aload_n 0, 1) := by decide +kernel
theorem dX9_isSettled_6 : decode cX9_isSettled 6 = .ok (.getfield 7, 3) := by decide +kernel
theorem dX9_isSettled_9 : decode cX9_isSettled 9 = .ok (.iconst 2, 1) := by decide +kernel
theorem dX9_isSettled_10 : decode cX9_isSettled 10 = .ok (.iaload, 1) := by decide +kernel
theorem dX9_isSettled_11 : decode cX9_isSettled 11 = .ok (.iconst 1, 1) := by decide +kernel
theorem dX9_isSettled_12 : decode cX9_isSettled 12 = .ok (.isub, 1) := by decide +kernel
theorem dX9_isSettled_13 : decode cX9_isSettled 13 = .ok (.if_icmp .ge 35, 3) := by decide +kernel
theorem dX9_isSettled_16 : decode cX9_isSettled 16 = .ok (.iload_n 1, 1) := by decide +kernel
theorem dX9_isSettled_17 : decode cX9_isSettled 17 = .ok (.ifCond .eq 23, 3) := by decide +kernel
theorem dX9_isSettled_20 : decode cX9_isSettled 20 = .ok (.aload_n 0, 1) := by decide +kernel
theorem dX9_isSettled_21 : decode cX9_isSettled 21 = .ok (.iload_n 2, 1) := by decide +kernel
theorem dX9_isSettled_22 : decode cX9_isSettled 22 = .ok (.iconst 1, 1) := by decide +kernel
theorem dX9_isSettled_23 : decode cX9_isSettled 23 = .ok (.iadd, 1) := by decide +kernel
theorem dX9_isSettled_24 : decode cX9_isSettled 24 = .ok (.invokevirtual 59, 3) := by decide +kernel
theorem dX9_isSettled_27 : decode cX9_isSettled 27 = .ok (.aload_n 0, 1) := by decide +kernel
theorem dX9_isSettled_28 : decode cX9_isSettled 28 = .ok (.iload_n 2, 1) := by decide +kernel
theorem dX9_isSettled_29 : decode cX9_isSettled 29 = .ok (.invokevirtual 59, 3) := by decide +kernel
theorem dX9_isSettled_32 : decode cX9_isSettled 32 = .ok (.irem, 1) := by decide +kernel
theorem dX9_isSettled_33 : decode cX9_isSettled 33 = .ok (.ifCond .ne 7, 3) := by decide +kernel
theorem dX9_isSettled_36 : decode cX9_isSettled 36 = .ok (.iconst 1, 1) := by decide +kernel
theorem dX9_isSettled_37 : decode cX9_isSettled 37 = .ok (.goto 4, 3) := by decide +kernel
theorem dX9_isSettled_40 : decode cX9_isSettled 40 = .ok (.iconst 0, 1) := by decide +kernel
theorem dX9_isSettled_41 : decode cX9_isSettled 41 = .ok (.istore_n 1, 1) := by decide +kernel
theorem dX9_isSettled_42 : decode cX9_isSettled 42 = .ok (.iinc 2 1, 3) := by decide +kernel
theorem dX9_isSettled_45 : decode cX9_isSettled 45 = .ok (.goto (-41), 3) := by decide +kernel
theorem dX9_isSettled_48 : decode cX9_isSettled 48 = .ok (.iload_n 1, 1) := by decide +kernel
theorem dX9_isSettled_49 : decode cX9_isSettled 49 = .ok (.ireturn, 1) := by decide +kernel
set_option maxRecDepth 20000 in
theorem ggX9_rounds_X9_isSettled : GoodIn wsX9_rounds wsX9_isSettled := goodIn_r _ [6, 1, 7, 8, 9, 5, 10, 29, 30, 31, 32, 33, 34, 35, 36, 37, 38, 39, 40, 41, 42, 43, 44, 45, 46] (by decide +kernel) (by decide +kernel)
set_option maxRecDepth 20000 in
theorem gX9_rounds_X9_isSettled : GoodIn wsX9_rounds (wsV RX9 118 RX9 yX9_isSettled wsX9_isSettled) := goodIn_app (goodIn_of _ (by decide +kernel)) ggX9_rounds_X9_isSettled
set_option maxRecDepth 20000 in
theorem ggX9_rounds_X9_whyNotShared : GoodIn wsX9_rounds wsX9_whyNotShared := goodIn_r _ [14, 1, 15, 16, 5, 17, 18, 19, 20, 21, 7, 8, 9, 10, 22, 23, 24, 29, 30, 31, 32, 33, 34, 35, 36, 37, 38, 39, 40, 41, 42, 43, 44, 45, 46] (by decide +kernel) (by decide +kernel)
set_option maxRecDepth 20000 in
theorem gX9_rounds_X9_whyNotShared : GoodIn wsX9_rounds (wsV RX9 97 RX9 yX9_whyNotShared wsX9_whyNotShared) := goodIn_app (goodIn_of _ (by decide +kernel)) ggX9_rounds_X9_whyNotShared
set_option maxRecDepth 20000 in
theorem ggX9_rounds_X9_shares : GoodIn wsX9_rounds wsX9_shares := goodIn_r _ [28, 1, 18, 19, 20, 5, 21, 7, 8, 9, 10, 22, 23, 24, 29, 30, 31, 32, 33, 34, 35, 36, 37, 38, 39, 40, 41, 42, 43, 44, 45, 46] (by decide +kernel) (by decide +kernel)
set_option maxRecDepth 20000 in
theorem gX9_rounds_X9_shares : GoodIn wsX9_rounds (wsV RX9 100 RX9 yX9_shares wsX9_shares) := goodIn_app (goodIn_of _ (by decide +kernel)) ggX9_rounds_X9_shares
theorem dX9_rounds_0 : decode cX9_rounds 0 = .ok (.iconst 0, 1) := by decide +kernel
theorem dX9_rounds_1 : decode cX9_rounds 1 = .ok (.istore_n 1, 1) := by decide +kernel
theorem dX9_rounds_2 : decode cX9_rounds 2 = .ok (.aload_n 0, 1) := by decide +kernel
theorem dX9_rounds_3 : decode cX9_rounds 3 = .ok (.invokevirtual 118, 3) := by decide +kernel
theorem dX9_rounds_6 : decode cX9_rounds 6 = .ok (.ifCond .ne 49, 3) := by decide +kernel
theorem dX9_rounds_9 : decode cX9_rounds 9 = .ok (.iconst 0, 1) := by decide +kernel
theorem dX9_rounds_10 : decode cX9_rounds 10 = .ok (.istore_n 2, 1) := by decide +kernel
theorem dX9_rounds_11 : decode cX9_rounds 11 = .ok (.iload_n 2, 1) := by decide +kernel
theorem dX9_rounds_12 : decode cX9_rounds 12 = .ok (.aload_n 0, 1) := by decide +kernel
theorem dX9_rounds_13 : decode cX9_rounds 13 = .ok (.getfield 7, 3) := by decide +kernel
theorem dX9_rounds_16 : decode cX9_rounds 16 = .ok (.iconst 2, 1) := by decide +kernel
theorem dX9_rounds_17 : decode cX9_rounds 17 = .ok (.iaload, 1) := by decide +kernel
theorem dX9_rounds_18 : decode cX9_rounds 18 = .ok (.iconst 1, 1) := by decide +kernel
theorem dX9_rounds_19 : decode cX9_rounds 19 = .ok (.isub, 1) := by decide +kernel
theorem dX9_rounds_20 : decode cX9_rounds 20 = .ok (.if_icmp .ge 29, 3) := by decide +kernel
theorem dX9_rounds_23 : decode cX9_rounds 23 = .ok (.aload_n 0, 1) := by decide +kernel
theorem dX9_rounds_24 : decode cX9_rounds 24 = .ok (.iload_n 2, 1) := by decide +kernel
theorem dX9_rounds_25 : decode cX9_rounds 25 = .ok (.invokevirtual 97, 3) := by decide +kernel
theorem dX9_rounds_28 : decode cX9_rounds 28 = .ok (.ifCond .lt 12, 3) := by decide +kernel
theorem dX9_rounds_31 : decode cX9_rounds 31 = .ok (.aload_n 0, 1) := by decide +kernel
theorem dX9_rounds_32 : decode cX9_rounds 32 = .ok (.iload_n 2, 1) := by decide +kernel
theorem dX9_rounds_33 : decode cX9_rounds 33 = .ok (.invokevirtual 100, 3) := by decide +kernel
theorem dX9_rounds_36 : decode cX9_rounds 36 = .ok (.iconst 1, 1) := by decide +kernel
theorem dX9_rounds_37 : decode cX9_rounds 37 = .ok (.if_icmp .ge 6, 3) := by decide +kernel
theorem dX9_rounds_40 : decode cX9_rounds 40 = .ok (.bipush (-3), 2) := by decide +kernel
theorem dX9_rounds_42 : decode cX9_rounds 42 = .ok (.ireturn, 1) := by decide +kernel
theorem dX9_rounds_43 : decode cX9_rounds 43 = .ok (.iinc 2 1, 3) := by decide +kernel
theorem dX9_rounds_46 : decode cX9_rounds 46 = .ok (.goto (-35), 3) := by decide +kernel
theorem dX9_rounds_49 : decode cX9_rounds 49 = .ok (.iinc 1 1, 3) := by decide +kernel
theorem dX9_rounds_52 : decode cX9_rounds 52 = .ok (.goto (-50), 3) := by decide +kernel
theorem dX9_rounds_55 : decode cX9_rounds 55 = .ok (.iload_n 1, 1) := by decide +kernel
theorem dX9_rounds_56 : decode cX9_rounds 56 = .ok (.ireturn, 1) := by decide +kernel
set_option maxRecDepth 20000 in
theorem ggX9_settle_X9_putsAside : GoodIn wsX9_settle wsX9_putsAside := goodIn_r _ [5, 6, 7, 49, 50, 51, 52, 53, 54, 55, 56, 57, 58, 59, 60, 61, 62, 63, 64, 65, 66] (by decide +kernel) (by decide +kernel)
set_option maxRecDepth 20000 in
theorem gX9_settle_X9_putsAside : GoodIn wsX9_settle (wsV RX9 122 RX9 yX9_putsAside wsX9_putsAside) := goodIn_app (goodIn_of _ (by decide +kernel)) ggX9_settle_X9_putsAside
set_option maxRecDepth 20000 in
theorem ggX9_settle_X9_rounds : GoodIn wsX9_settle wsX9_rounds := goodIn_r _ [11, 7, 12, 13, 14, 4, 15, 16, 17, 18, 19, 20, 21, 22, 23, 24, 25, 26, 27, 28, 29, 30, 31, 32, 33, 34, 35, 36, 37, 49, 50, 51, 52, 53, 54, 55, 56, 57, 58, 59, 60, 61, 62, 63, 64, 65, 66] (by decide +kernel) (by decide +kernel)
set_option maxRecDepth 20000 in
theorem gX9_settle_X9_rounds : GoodIn wsX9_settle (wsV RX9 125 RX9 yX9_rounds wsX9_rounds) := goodIn_app (goodIn_of _ (by decide +kernel)) ggX9_settle_X9_rounds
set_option maxRecDepth 20000 in
theorem ggX9_settle_X9_putsBack : GoodIn wsX9_settle wsX9_putsBack := goodIn_r _ [41, 7, 6, 49, 50, 51, 52, 53, 54, 55, 56, 57, 58, 59, 60, 61, 62, 63, 64, 65, 66] (by decide +kernel) (by decide +kernel)
set_option maxRecDepth 20000 in
theorem gX9_settle_X9_putsBack : GoodIn wsX9_settle (wsV RX9 129 RX9 yX9_putsBack wsX9_putsBack) := goodIn_app (goodIn_of _ (by decide +kernel)) ggX9_settle_X9_putsBack
set_option maxRecDepth 20000 in
theorem ggX9_settle_X9_changes : GoodIn wsX9_settle wsX9_changes := goodIn_r _ [45, 46, 47, 48, 7, 49, 50, 51, 52, 53, 54, 55, 56, 57, 58, 59, 60, 61, 62, 63, 64, 65, 66] (by decide +kernel) (by decide +kernel)
set_option maxRecDepth 20000 in
theorem gX9_settle_X9_changes : GoodIn wsX9_settle (wsV RX9 79 RX9 yX9_changes wsX9_changes) := goodIn_app (goodIn_of _ (by decide +kernel)) ggX9_settle_X9_changes
theorem dX9_settle_0 : decode cX9_settle 0 = .ok (.aload_n 0, 1) := by decide +kernel
theorem dX9_settle_1 : decode cX9_settle 1 = .ok (.invokevirtual 122, 3) := by decide +kernel
theorem dX9_settle_4 : decode cX9_settle 4 = .ok (.aload_n 0, 1) := by decide +kernel
theorem dX9_settle_5 : decode cX9_settle 5 = .ok (.invokevirtual 125, 3) := by decide +kernel
theorem dX9_settle_8 : decode cX9_settle 8 = .ok (.istore_n 1, 1) := by decide +kernel
theorem dX9_settle_9 : decode cX9_settle 9 = .ok (.aload_n 0, 1) := by decide +kernel
theorem dX9_settle_10 : decode cX9_settle 10 = .ok (.invokevirtual 129, 3) := by decide +kernel
theorem dX9_settle_13 : decode cX9_settle 13 = .ok (.iload_n 1, 1) := by decide +kernel
theorem dX9_settle_14 : decode cX9_settle 14 = .ok (.ifCond .ge 5, 3) := by decide +kernel
theorem dX9_settle_17 : decode cX9_settle 17 = .ok (.iload_n 1, 1) := by decide +kernel
theorem dX9_settle_18 : decode cX9_settle 18 = .ok (.ireturn, 1) := by decide +kernel
theorem dX9_settle_19 : decode cX9_settle 19 = .ok (.aload_n 0, 1) := by decide +kernel
theorem dX9_settle_20 : decode cX9_settle 20 = .ok (.invokevirtual 79, 3) := by decide +kernel
theorem dX9_settle_23 : decode cX9_settle 23 = .ok (.aload_n 0, 1) := by decide +kernel
theorem dX9_settle_24 : decode cX9_settle 24 = .ok (.invokevirtual 125, 3) := by decide +kernel
theorem dX9_settle_27 : decode cX9_settle 27 = .ok (.ireturn, 1) := by decide +kernel
set_option maxRecDepth 20000 in
theorem ggX9_set_X9_in : GoodIn wsX9_set wsX9_in := goodIn_r _ [5] (by decide +kernel) (by decide +kernel)
set_option maxRecDepth 20000 in
theorem gX9_set_X9_in : GoodIn wsX9_set (va_wsS RX9 51 yX9_in wsX9_in) := goodIn_app (goodIn_of _ (by decide +kernel)) ggX9_set_X9_in
set_option maxRecDepth 20000 in
theorem ggX9_set_X9_changes : GoodIn wsX9_set wsX9_changes := goodIn_r _ [9, 10, 11, 12, 1, 13, 14, 15, 16, 17, 18, 19, 20, 21, 22, 23, 24, 25, 26, 27, 28, 29, 30] (by decide +kernel) (by decide +kernel)
set_option maxRecDepth 20000 in
theorem gX9_set_X9_changes : GoodIn wsX9_set (wsV RX9 79 RX9 yX9_changes wsX9_changes) := goodIn_app (goodIn_of _ (by decide +kernel)) ggX9_set_X9_changes
theorem dX9_set_0 : decode cX9_set 0 = .ok (.iload_n 1, 1) := by decide +kernel
theorem dX9_set_1 : decode cX9_set 1 = .ok (.iconst 0, 1) := by decide +kernel
theorem dX9_set_2 : decode cX9_set 2 = .ok (.iconst 1, 1) := by decide +kernel
theorem dX9_set_3 : decode cX9_set 3 = .ok (.invokestatic 51, 3) := by decide +kernel
theorem dX9_set_6 : decode cX9_set 6 = .ok (.ifCond .eq 20, 3) := by decide +kernel
theorem dX9_set_9 : decode cX9_set 9 = .ok (.iload_n 2, 1) := by decide +kernel
theorem dX9_set_10 : decode cX9_set 10 = .ok (.iload_n 1, 1) := by decide +kernel
theorem dX9_set_11 : decode cX9_set 11 = .ok (.iload_n 1, 1) := by decide +kernel
theorem dX9_set_12 : decode cX9_set 12 = .ok (.ifCond .ne 7, 3) := by decide +kernel
theorem dX9_set_15 : decode cX9_set 15 = .ok (.iconst 2, 1) := by decide +kernel
theorem dX9_set_16 : decode cX9_set 16 = .ok (.goto 4, 3) := by decide +kernel
theorem dX9_set_19 : decode cX9_set 19 = .ok (.iconst 4, 1) := by decide +kernel
theorem dX9_set_20 : decode cX9_set 20 = .ok (.invokestatic 51, 3) := by decide +kernel
theorem dX9_set_23 : decode cX9_set 23 = .ok (.ifCond .ne 5, 3) := by decide +kernel
theorem dX9_set_26 : decode cX9_set 26 = .ok (.iconst (-1), 1) := by decide +kernel
theorem dX9_set_27 : decode cX9_set 27 = .ok (.ireturn, 1) := by decide +kernel
theorem dX9_set_28 : decode cX9_set 28 = .ok (.aload_n 0, 1) := by decide +kernel
theorem dX9_set_29 : decode cX9_set 29 = .ok (.invokevirtual 79, 3) := by decide +kernel
theorem dX9_set_32 : decode cX9_set 32 = .ok (.aload_n 0, 1) := by decide +kernel
theorem dX9_set_33 : decode cX9_set 33 = .ok (.getfield 7, 3) := by decide +kernel
theorem dX9_set_36 : decode cX9_set 36 = .ok (.iload_n 1, 1) := by decide +kernel
theorem dX9_set_37 : decode cX9_set 37 = .ok (.iaload, 1) := by decide +kernel
theorem dX9_set_38 : decode cX9_set 38 = .ok (.istore_n 3, 1) := by decide +kernel
theorem dX9_set_39 : decode cX9_set 39 = .ok (.aload_n 0, 1) := by decide +kernel
theorem dX9_set_40 : decode cX9_set 40 = .ok (.getfield 7, 3) := by decide +kernel
theorem dX9_set_43 : decode cX9_set 43 = .ok (.iload_n 1, 1) := by decide +kernel
theorem dX9_set_44 : decode cX9_set 44 = .ok (.iload_n 2, 1) := by decide +kernel
theorem dX9_set_45 : decode cX9_set 45 = .ok (.iastore, 1) := by decide +kernel
theorem dX9_set_46 : decode cX9_set 46 = .ok (.iload_n 3, 1) := by decide +kernel
theorem dX9_set_47 : decode cX9_set 47 = .ok (.ireturn, 1) := by decide +kernel
set_option maxRecDepth 20000 in
theorem ggX9_append_X9_in : GoodIn wsX9_append wsX9_in := goodIn_r _ [6] (by decide +kernel) (by decide +kernel)
set_option maxRecDepth 20000 in
theorem gX9_append_X9_in : GoodIn wsX9_append (va_wsS RX9 51 yX9_in wsX9_in) := goodIn_app (goodIn_of _ (by decide +kernel)) ggX9_append_X9_in
theorem dX9_append_0 : decode cX9_append 0 = .ok (.iload_n 1, 1) := by decide +kernel
theorem dX9_append_1 : decode cX9_append 1 = .ok (.bipush 33, 2) := by decide +kernel
theorem dX9_append_3 : decode cX9_append 3 = .ok (.bipush 126, 2) := by decide +kernel
theorem dX9_append_5 : decode cX9_append 5 = .ok (.invokestatic 51, 3) := by decide +kernel
theorem dX9_append_8 : decode cX9_append 8 = .ok (.ifCond .ne 5, 3) := by decide +kernel
theorem dX9_append_11 : decode cX9_append 11 = .ok (.iconst (-1), 1) := by decide +kernel
theorem dX9_append_12 : decode cX9_append 12 = .ok (.ireturn, 1) := by decide +kernel
theorem dX9_append_13 : decode cX9_append 13 = .ok (.aload_n 0, 1) := by decide +kernel
theorem dX9_append_14 : decode cX9_append 14 = .ok (.getfield 132, 3) := by decide +kernel
theorem dX9_append_17 : decode cX9_append 17 = .ok (.bipush 60, 2) := by decide +kernel
theorem dX9_append_19 : decode cX9_append 19 = .ok (.if_icmp .ne 6, 3) := by decide +kernel
theorem dX9_append_22 : decode cX9_append 22 = .ok (.bipush (-3), 2) := by decide +kernel
theorem dX9_append_24 : decode cX9_append 24 = .ok (.ireturn, 1) := by decide +kernel
theorem dX9_append_25 : decode cX9_append 25 = .ok (.aload_n 0, 1) := by decide +kernel
theorem dX9_append_26 : decode cX9_append 26 = .ok (.getfield 25, 3) := by decide +kernel
theorem dX9_append_29 : decode cX9_append 29 = .ok (.aload_n 0, 1) := by decide +kernel
theorem dX9_append_30 : decode cX9_append 30 = .ok (.getfield 132, 3) := by decide +kernel
theorem dX9_append_33 : decode cX9_append 33 = .ok (.iload_n 1, 1) := by decide +kernel
theorem dX9_append_34 : decode cX9_append 34 = .ok (.iastore, 1) := by decide +kernel
theorem dX9_append_35 : decode cX9_append 35 = .ok (.aload_n 0, 1) := by decide +kernel
theorem dX9_append_36 : decode cX9_append 36 = .ok (.dup, 1) := by decide +kernel
theorem dX9_append_37 : decode cX9_append 37 = .ok (.getfield 132, 3) := by decide +kernel
theorem dX9_append_40 : decode cX9_append 40 = .ok (.iconst 1, 1) := by decide +kernel
theorem dX9_append_41 : decode cX9_append 41 = .ok (.iadd, 1) := by decide +kernel
theorem dX9_append_42 : decode cX9_append 42 = .ok (.putfield 132, 3) := by decide +kernel
theorem dX9_append_45 : decode cX9_append 45 = .ok (.aload_n 0, 1) := by decide +kernel
theorem dX9_append_46 : decode cX9_append 46 = .ok (.getfield 132, 3) := by decide +kernel
theorem dX9_append_49 : decode cX9_append 49 = .ok (.ireturn, 1) := by decide +kernel
theorem dX9_clear_0 : decode cX9_clear 0 = .ok (.aload_n 0, 1) := by decide +kernel
theorem dX9_clear_1 : decode cX9_clear 1 = .ok (.getfield 132, 3) := by decide +kernel
theorem dX9_clear_4 : decode cX9_clear 4 = .ok (.istore_n 1, 1) := by decide +kernel
theorem dX9_clear_5 : decode cX9_clear 5 = .ok (.aload_n 0, 1) := by decide +kernel
theorem dX9_clear_6 : decode cX9_clear 6 = .ok (.iconst 0, 1) := by decide +kernel
theorem dX9_clear_7 : decode cX9_clear 7 = .ok (.putfield 132, 3) := by decide +kernel
theorem dX9_clear_10 : decode cX9_clear 10 = .ok (.iload_n 1, 1) := by decide +kernel
theorem dX9_clear_11 : decode cX9_clear 11 = .ok (.ireturn, 1) := by decide +kernel
set_option maxRecDepth 20000 in
theorem ggX9_isAt_X9_in : GoodIn wsX9_isAt wsX9_in := goodIn_r _ [7] (by decide +kernel) (by decide +kernel)
set_option maxRecDepth 20000 in
theorem gX9_isAt_X9_in : GoodIn wsX9_isAt (va_wsS RX9 51 yX9_in wsX9_in) := goodIn_app (goodIn_of _ (by decide +kernel)) ggX9_isAt_X9_in
theorem dX9_isAt_0 : decode cX9_isAt 0 = .ok (.aload_n 0, 1) := by decide +kernel
theorem dX9_isAt_1 : decode cX9_isAt 1 = .ok (.getfield 135, 3) := by decide +kernel
theorem dX9_isAt_4 : decode cX9_isAt 4 = .ok (.aload_n 0, 1) := by decide +kernel
theorem dX9_isAt_5 : decode cX9_isAt 5 = .ok (.getfield 132, 3) := by decide +kernel
theorem dX9_isAt_8 : decode cX9_isAt 8 = .ok (.if_icmp .ge 24, 3) := by decide +kernel
theorem dX9_isAt_11 : decode cX9_isAt 11 = .ok (.aload_n 0, 1) := by decide +kernel
theorem dX9_isAt_12 : decode cX9_isAt 12 = .ok (.getfield 25, 3) := by decide +kernel
theorem dX9_isAt_15 : decode cX9_isAt 15 = .ok (.aload_n 0, 1) := by decide +kernel
theorem dX9_isAt_16 : decode cX9_isAt 16 = .ok (.getfield 135, 3) := by decide +kernel
theorem dX9_isAt_19 : decode cX9_isAt 19 = .ok (.iaload, 1) := by decide +kernel
theorem dX9_isAt_20 : decode cX9_isAt 20 = .ok (.iload_n 1, 1) := by decide +kernel
theorem dX9_isAt_21 : decode cX9_isAt 21 = .ok (.iload_n 2, 1) := by decide +kernel
theorem dX9_isAt_22 : decode cX9_isAt 22 = .ok (.invokestatic 51, 3) := by decide +kernel
theorem dX9_isAt_25 : decode cX9_isAt 25 = .ok (.ifCond .eq 7, 3) := by decide +kernel
theorem dX9_isAt_28 : decode cX9_isAt 28 = .ok (.iconst 1, 1) := by decide +kernel
theorem dX9_isAt_29 : decode cX9_isAt 29 = .ok (.goto 4, 3) := by decide +kernel
theorem dX9_isAt_32 : decode cX9_isAt 32 = .ok (.iconst 0, 1) := by decide +kernel
theorem dX9_isAt_33 : decode cX9_isAt 33 = .ok (.ireturn, 1) := by decide +kernel
set_option maxRecDepth 20000 in
theorem ggX9_sign_X9_isAt : GoodIn wsX9_sign wsX9_isAt := goodIn_r _ [6, 1, 7, 8, 9, 10, 5, 11, 12, 13, 14, 15, 16, 17, 18, 19, 20, 21, 22, 23, 24, 25, 26, 27, 28, 29] (by decide +kernel) (by decide +kernel)
set_option maxRecDepth 20000 in
theorem gX9_sign_X9_isAt : GoodIn wsX9_sign (wsV RX9 138 RX9 yX9_isAt wsX9_isAt) := goodIn_app (goodIn_of _ (by decide +kernel)) ggX9_sign_X9_isAt
theorem dX9_sign_0 : decode cX9_sign 0 = .ok (.aload_n 0, 1) := by decide +kernel
theorem dX9_sign_1 : decode cX9_sign 1 = .ok (.iload_n 1, 1) := by decide +kernel
theorem dX9_sign_2 : decode cX9_sign 2 = .ok (.iload_n 1, 1) := by decide +kernel
theorem dX9_sign_3 : decode cX9_sign 3 = .ok (.invokevirtual 138, 3) := by decide +kernel
theorem dX9_sign_6 : decode cX9_sign 6 = .ok (.istore_n 2, 1) := by decide +kernel
theorem dX9_sign_7 : decode cX9_sign 7 = .ok (.aload_n 0, 1) := by decide +kernel
theorem dX9_sign_8 : decode cX9_sign 8 = .ok (.dup, 1) := by decide +kernel
theorem dX9_sign_9 : decode cX9_sign 9 = .ok (.getfield 135, 3) := by decide +kernel
theorem dX9_sign_12 : decode cX9_sign 12 = .ok (.iload_n 2, 1) := by decide +kernel
theorem dX9_sign_13 : decode cX9_sign 13 = .ok (.ifCond .eq 7, 3) := by decide +kernel
theorem dX9_sign_16 : decode cX9_sign 16 = .ok (.iconst 1, 1) := by decide +kernel
theorem dX9_sign_17 : decode cX9_sign 17 = .ok (.goto 4, 3) := by decide +kernel
theorem dX9_sign_20 : decode cX9_sign 20 = .ok (.iconst 0, 1) := by decide +kernel
theorem dX9_sign_21 : decode cX9_sign 21 = .ok (.iadd, 1) := by decide +kernel
theorem dX9_sign_22 : decode cX9_sign 22 = .ok (.putfield 135, 3) := by decide +kernel
theorem dX9_sign_25 : decode cX9_sign 25 = .ok (.iload_n 2, 1) := by decide +kernel
theorem dX9_sign_26 : decode cX9_sign 26 = .ok (.ireturn, 1) := by decide +kernel
set_option maxRecDepth 20000 in
theorem ggX9_number_X9_isAt : GoodIn wsX9_number wsX9_isAt := goodIn_r _ [9, 2, 10, 1, 11, 12, 8, 13, 14, 15, 16, 17, 18, 19, 20, 21, 22, 23, 24, 25, 26, 27, 28, 29, 30, 31] (by decide +kernel) (by decide +kernel)
set_option maxRecDepth 20000 in
theorem gX9_number_X9_isAt : GoodIn wsX9_number (wsV RX9 138 RX9 yX9_isAt wsX9_isAt) := goodIn_app (goodIn_of _ (by decide +kernel)) ggX9_number_X9_isAt
theorem dX9_number_0 : decode cX9_number 0 = .ok (.aload_n 0, 1) := by decide +kernel
theorem dX9_number_1 : decode cX9_number 1 = .ok (.iload_n 2, 1) := by decide +kernel
theorem dX9_number_2 : decode cX9_number 2 = .ok (.ifCond .ne 8, 3) := by decide +kernel
theorem dX9_number_5 : decode cX9_number 5 = .ok (.bipush 48, 2) := by decide +kernel
theorem dX9_number_7 : decode cX9_number 7 = .ok (.goto 5, 3) := by decide +kernel
theorem dX9_number_10 : decode cX9_number 10 = .ok (.bipush 49, 2) := by decide +kernel
theorem dX9_number_12 : decode cX9_number 12 = .ok (.bipush 57, 2) := by decide +kernel
theorem dX9_number_14 : decode cX9_number 14 = .ok (.invokevirtual 138, 3) := by decide +kernel
theorem dX9_number_17 : decode cX9_number 17 = .ok (.ifCond .ne 5, 3) := by decide +kernel
theorem dX9_number_20 : decode cX9_number 20 = .ok (.iconst 0, 1) := by decide +kernel
theorem dX9_number_21 : decode cX9_number 21 = .ok (.ireturn, 1) := by decide +kernel
theorem dX9_number_22 : decode cX9_number 22 = .ok (.aload_n 0, 1) := by decide +kernel
theorem dX9_number_23 : decode cX9_number 23 = .ok (.getfield 25, 3) := by decide +kernel
theorem dX9_number_26 : decode cX9_number 26 = .ok (.aload_n 0, 1) := by decide +kernel
theorem dX9_number_27 : decode cX9_number 27 = .ok (.getfield 135, 3) := by decide +kernel
theorem dX9_number_30 : decode cX9_number 30 = .ok (.iaload, 1) := by decide +kernel
theorem dX9_number_31 : decode cX9_number 31 = .ok (.bipush 48, 2) := by decide +kernel
theorem dX9_number_33 : decode cX9_number 33 = .ok (.isub, 1) := by decide +kernel
theorem dX9_number_34 : decode cX9_number 34 = .ok (.istore 4, 2) := by decide +kernel
theorem dX9_number_36 : decode cX9_number 36 = .ok (.aload_n 0, 1) := by decide +kernel
theorem dX9_number_37 : decode cX9_number 37 = .ok (.dup, 1) := by decide +kernel
theorem dX9_number_38 : decode cX9_number 38 = .ok (.getfield 135, 3) := by decide +kernel
theorem dX9_number_41 : decode cX9_number 41 = .ok (.iconst 1, 1) := by decide +kernel
theorem dX9_number_42 : decode cX9_number 42 = .ok (.iadd, 1) := by decide +kernel
theorem dX9_number_43 : decode cX9_number 43 = .ok (.putfield 135, 3) := by decide +kernel
theorem dX9_number_46 : decode cX9_number 46 = .ok (.iload 4, 2) := by decide +kernel
theorem dX9_number_48 : decode cX9_number 48 = .ok (.ifCond .le 69, 3) := by decide +kernel
theorem dX9_number_51 : decode cX9_number 51 = .ok (.aload_n 0, 1) := by decide +kernel
theorem dX9_number_52 : decode cX9_number 52 = .ok (.bipush 48, 2) := by decide +kernel
theorem dX9_number_54 : decode cX9_number 54 = .ok (.bipush 57, 2) := by decide +kernel
theorem dX9_number_56 : decode cX9_number 56 = .ok (.invokevirtual 138, 3) := by decide +kernel
theorem dX9_number_59 : decode cX9_number 59 = .ok (.ifCond .eq 58, 3) := by decide +kernel
theorem dX9_number_62 : decode cX9_number 62 = .ok (.bipush 10, 2) := by decide +kernel
theorem dX9_number_64 : decode cX9_number 64 = .ok (.iload 4, 2) := by decide +kernel
theorem dX9_number_66 : decode cX9_number 66 = .ok (.imul, 1) := by decide +kernel
theorem dX9_number_67 : decode cX9_number 67 = .ok (.aload_n 0, 1) := by decide +kernel
theorem dX9_number_68 : decode cX9_number 68 = .ok (.getfield 25, 3) := by decide +kernel
theorem dX9_number_71 : decode cX9_number 71 = .ok (.aload_n 0, 1) := by decide +kernel
theorem dX9_number_72 : decode cX9_number 72 = .ok (.getfield 135, 3) := by decide +kernel
theorem dX9_number_75 : decode cX9_number 75 = .ok (.iaload, 1) := by decide +kernel
theorem dX9_number_76 : decode cX9_number 76 = .ok (.iadd, 1) := by decide +kernel
theorem dX9_number_77 : decode cX9_number 77 = .ok (.bipush 48, 2) := by decide +kernel
theorem dX9_number_79 : decode cX9_number 79 = .ok (.isub, 1) := by decide +kernel
theorem dX9_number_80 : decode cX9_number 80 = .ok (.iload_n 3, 1) := by decide +kernel
theorem dX9_number_81 : decode cX9_number 81 = .ok (.if_icmp .gt 36, 3) := by decide +kernel
theorem dX9_number_84 : decode cX9_number 84 = .ok (.bipush 10, 2) := by decide +kernel
theorem dX9_number_86 : decode cX9_number 86 = .ok (.iload 4, 2) := by decide +kernel
theorem dX9_number_88 : decode cX9_number 88 = .ok (.imul, 1) := by decide +kernel
theorem dX9_number_89 : decode cX9_number 89 = .ok (.aload_n 0, 1) := by decide +kernel
theorem dX9_number_90 : decode cX9_number 90 = .ok (.getfield 25, 3) := by decide +kernel
theorem dX9_number_93 : decode cX9_number 93 = .ok (.aload_n 0, 1) := by decide +kernel
theorem dX9_number_94 : decode cX9_number 94 = .ok (.getfield 135, 3) := by decide +kernel
theorem dX9_number_97 : decode cX9_number 97 = .ok (.iaload, 1) := by decide +kernel
theorem dX9_number_98 : decode cX9_number 98 = .ok (.iadd, 1) := by decide +kernel
theorem dX9_number_99 : decode cX9_number 99 = .ok (.bipush 48, 2) := by decide +kernel
theorem dX9_number_101 : decode cX9_number 101 = .ok (.isub, 1) := by decide +kernel
theorem dX9_number_102 : decode cX9_number 102 = .ok (.istore 4, 2) := by decide +kernel
theorem dX9_number_104 : decode cX9_number 104 = .ok (.aload_n 0, 1) := by decide +kernel
theorem dX9_number_105 : decode cX9_number 105 = .ok (.dup, 1) := by decide +kernel
theorem dX9_number_106 : decode cX9_number 106 = .ok (.getfield 135, 3) := by decide +kernel
theorem dX9_number_109 : decode cX9_number 109 = .ok (.iconst 1, 1) := by decide +kernel
theorem dX9_number_110 : decode cX9_number 110 = .ok (.iadd, 1) := by decide +kernel
theorem dX9_number_111 : decode cX9_number 111 = .ok (.putfield 135, 3) := by decide +kernel
theorem dX9_number_114 : decode cX9_number 114 = .ok (.goto (-68), 3) := by decide +kernel
theorem dX9_number_117 : decode cX9_number 117 = .ok (.aload_n 0, 1) := by decide +kernel
theorem dX9_number_118 : decode cX9_number 118 = .ok (.getfield 34, 3) := by decide +kernel
theorem dX9_number_121 : decode cX9_number 121 = .ok (.iconst 4, 1) := by decide +kernel
theorem dX9_number_122 : decode cX9_number 122 = .ok (.aload_n 0, 1) := by decide +kernel
theorem dX9_number_123 : decode cX9_number 123 = .ok (.getfield 141, 3) := by decide +kernel
theorem dX9_number_126 : decode cX9_number 126 = .ok (.imul, 1) := by decide +kernel
theorem dX9_number_127 : decode cX9_number 127 = .ok (.iload_n 1, 1) := by decide +kernel
theorem dX9_number_128 : decode cX9_number 128 = .ok (.iadd, 1) := by decide +kernel
theorem dX9_number_129 : decode cX9_number 129 = .ok (.iload 4, 2) := by decide +kernel
theorem dX9_number_131 : decode cX9_number 131 = .ok (.iastore, 1) := by decide +kernel
theorem dX9_number_132 : decode cX9_number 132 = .ok (.iload 4, 2) := by decide +kernel
theorem dX9_number_134 : decode cX9_number 134 = .ok (.iload_n 2, 1) := by decide +kernel
theorem dX9_number_135 : decode cX9_number 135 = .ok (.if_icmp .lt 7, 3) := by decide +kernel
theorem dX9_number_138 : decode cX9_number 138 = .ok (.iconst 1, 1) := by decide +kernel
theorem dX9_number_139 : decode cX9_number 139 = .ok (.goto 4, 3) := by decide +kernel
theorem dX9_number_142 : decode cX9_number 142 = .ok (.iconst 0, 1) := by decide +kernel
theorem dX9_number_143 : decode cX9_number 143 = .ok (.ireturn, 1) := by decide +kernel
set_option maxRecDepth 20000 in
theorem ggX9_deed_X9_number : GoodIn wsX9_deed wsX9_number := goodIn_r _ [10, 3, 1, 4, 5, 11, 12, 13, 9, 14, 2, 15, 16, 17, 22, 23, 24, 25, 26, 27, 28, 29, 30, 31, 32, 33, 34, 35, 36, 37, 38, 39] (by decide +kernel) (by decide +kernel)
set_option maxRecDepth 20000 in
theorem gX9_deed_X9_number : GoodIn wsX9_deed (wsV RX9 144 RX9 yX9_number wsX9_number) := goodIn_app (goodIn_of _ (by decide +kernel)) ggX9_deed_X9_number
set_option maxRecDepth 20000 in
theorem ggX9_deed_X9_sign : GoodIn wsX9_deed wsX9_sign := goodIn_r _ [21, 1, 11, 12, 13, 9, 14, 2, 3, 15, 16, 17, 22, 23, 24, 25, 26, 27, 28, 29, 30, 31, 32, 33, 34, 35, 36, 37, 38, 39] (by decide +kernel) (by decide +kernel)
set_option maxRecDepth 20000 in
theorem gX9_deed_X9_sign : GoodIn wsX9_deed (wsV RX9 147 RX9 yX9_sign wsX9_sign) := goodIn_app (goodIn_of _ (by decide +kernel)) ggX9_deed_X9_sign
theorem dX9_deed_0 : decode cX9_deed 0 = .ok (.aload_n 0, 1) := by decide +kernel
theorem dX9_deed_1 : decode cX9_deed 1 = .ok (.getfield 135, 3) := by decide +kernel
theorem dX9_deed_4 : decode cX9_deed 4 = .ok (.aload_n 0, 1) := by decide +kernel
theorem dX9_deed_5 : decode cX9_deed 5 = .ok (.getfield 132, 3) := by decide +kernel
theorem dX9_deed_8 : decode cX9_deed 8 = .ok (.if_icmp .ge 15, 3) := by decide +kernel
theorem dX9_deed_11 : decode cX9_deed 11 = .ok (.aload_n 0, 1) := by decide +kernel
theorem dX9_deed_12 : decode cX9_deed 12 = .ok (.getfield 25, 3) := by decide +kernel
theorem dX9_deed_15 : decode cX9_deed 15 = .ok (.aload_n 0, 1) := by decide +kernel
theorem dX9_deed_16 : decode cX9_deed 16 = .ok (.getfield 135, 3) := by decide +kernel
theorem dX9_deed_19 : decode cX9_deed 19 = .ok (.iaload, 1) := by decide +kernel
theorem dX9_deed_20 : decode cX9_deed 20 = .ok (.goto 4, 3) := by decide +kernel
theorem dX9_deed_23 : decode cX9_deed 23 = .ok (.iconst 0, 1) := by decide +kernel
theorem dX9_deed_24 : decode cX9_deed 24 = .ok (.istore_n 1, 1) := by decide +kernel
theorem dX9_deed_25 : decode cX9_deed 25 = .ok (.iload_n 1, 1) := by decide +kernel
theorem dX9_deed_26 : decode cX9_deed 26 = .ok (.bipush 115, 2) := by decide +kernel
theorem dX9_deed_28 : decode cX9_deed 28 = .ok (.if_icmp .eq 17, 3) := by decide +kernel
theorem dX9_deed_31 : decode cX9_deed 31 = .ok (.iload_n 1, 1) := by decide +kernel
theorem dX9_deed_32 : decode cX9_deed 32 = .ok (.bipush 100, 2) := by decide +kernel
theorem dX9_deed_34 : decode cX9_deed 34 = .ok (.if_icmp .eq 11, 3) := by decide +kernel
theorem dX9_deed_37 : decode cX9_deed 37 = .ok (.iload_n 1, 1) := by decide +kernel
theorem dX9_deed_38 : decode cX9_deed 38 = .ok (.bipush 107, 2) := by decide +kernel
theorem dX9_deed_40 : decode cX9_deed 40 = .ok (.if_icmp .eq 5, 3) := by decide +kernel
theorem dX9_deed_43 : decode cX9_deed 43 = .ok (.iconst 0, 1) := by decide +kernel
theorem dX9_deed_44 : decode cX9_deed 44 = .ok (.ireturn, 1) := by decide +kernel
theorem dX9_deed_45 : decode cX9_deed 45 = .ok (.aload_n 0, 1) := by decide +kernel
theorem dX9_deed_46 : decode cX9_deed 46 = .ok (.getfield 34, 3) := by decide +kernel
theorem dX9_deed_49 : decode cX9_deed 49 = .ok (.iconst 4, 1) := by decide +kernel
theorem dX9_deed_50 : decode cX9_deed 50 = .ok (.aload_n 0, 1) := by decide +kernel
theorem dX9_deed_51 : decode cX9_deed 51 = .ok (.getfield 141, 3) := by decide +kernel
theorem dX9_deed_54 : decode cX9_deed 54 = .ok (.imul, 1) := by decide +kernel
theorem dX9_deed_55 : decode cX9_deed 55 = .ok (.iload_n 1, 1) := by decide +kernel
theorem dX9_deed_56 : decode cX9_deed 56 = .ok (.iastore, 1) := by decide +kernel
theorem dX9_deed_57 : decode cX9_deed 57 = .ok (.aload_n 0, 1) := by decide +kernel
theorem dX9_deed_58 : decode cX9_deed 58 = .ok (.getfield 34, 3) := by decide +kernel
theorem dX9_deed_61 : decode cX9_deed 61 = .ok (.iconst 4, 1) := by decide +kernel
theorem dX9_deed_62 : decode cX9_deed 62 = .ok (.aload_n 0, 1) := by decide +kernel
theorem dX9_deed_63 : decode cX9_deed 63 = .ok (.getfield 141, 3) := by decide +kernel
theorem dX9_deed_66 : decode cX9_deed 66 = .ok (.imul, 1) := by decide +kernel
theorem dX9_deed_67 : decode cX9_deed 67 = .ok (.iconst 3, 1) := by decide +kernel
theorem dX9_deed_68 : decode cX9_deed 68 = .ok (.iadd, 1) := by decide +kernel
theorem dX9_deed_69 : decode cX9_deed 69 = .ok (.aload_n 0, 1) := by decide +kernel
theorem dX9_deed_70 : decode cX9_deed 70 = .ok (.getfield 135, 3) := by decide +kernel
theorem dX9_deed_73 : decode cX9_deed 73 = .ok (.iastore, 1) := by decide +kernel
theorem dX9_deed_74 : decode cX9_deed 74 = .ok (.aload_n 0, 1) := by decide +kernel
theorem dX9_deed_75 : decode cX9_deed 75 = .ok (.dup, 1) := by decide +kernel
theorem dX9_deed_76 : decode cX9_deed 76 = .ok (.getfield 135, 3) := by decide +kernel
theorem dX9_deed_79 : decode cX9_deed 79 = .ok (.iconst 1, 1) := by decide +kernel
theorem dX9_deed_80 : decode cX9_deed 80 = .ok (.iadd, 1) := by decide +kernel
theorem dX9_deed_81 : decode cX9_deed 81 = .ok (.putfield 135, 3) := by decide +kernel
theorem dX9_deed_84 : decode cX9_deed 84 = .ok (.aload_n 0, 1) := by decide +kernel
theorem dX9_deed_85 : decode cX9_deed 85 = .ok (.iconst 1, 1) := by decide +kernel
theorem dX9_deed_86 : decode cX9_deed 86 = .ok (.iconst 0, 1) := by decide +kernel
theorem dX9_deed_87 : decode cX9_deed 87 = .ok (.bipush 11, 2) := by decide +kernel
theorem dX9_deed_89 : decode cX9_deed 89 = .ok (.invokevirtual 144, 3) := by decide +kernel
theorem dX9_deed_92 : decode cX9_deed 92 = .ok (.ifCond .eq 34, 3) := by decide +kernel
theorem dX9_deed_95 : decode cX9_deed 95 = .ok (.iload_n 1, 1) := by decide +kernel
theorem dX9_deed_96 : decode cX9_deed 96 = .ok (.bipush 107, 2) := by decide +kernel
theorem dX9_deed_98 : decode cX9_deed 98 = .ok (.if_icmp .ne 24, 3) := by decide +kernel
theorem dX9_deed_101 : decode cX9_deed 101 = .ok (.aload_n 0, 1) := by decide +kernel
theorem dX9_deed_102 : decode cX9_deed 102 = .ok (.bipush 46, 2) := by decide +kernel
theorem dX9_deed_104 : decode cX9_deed 104 = .ok (.invokevirtual 147, 3) := by decide +kernel
theorem dX9_deed_107 : decode cX9_deed 107 = .ok (.ifCond .eq 19, 3) := by decide +kernel
theorem dX9_deed_110 : decode cX9_deed 110 = .ok (.aload_n 0, 1) := by decide +kernel
theorem dX9_deed_111 : decode cX9_deed 111 = .ok (.iconst 2, 1) := by decide +kernel
theorem dX9_deed_112 : decode cX9_deed 112 = .ok (.iconst 2, 1) := by decide +kernel
theorem dX9_deed_113 : decode cX9_deed 113 = .ok (.sipush 9999, 3) := by decide +kernel
theorem dX9_deed_116 : decode cX9_deed 116 = .ok (.invokevirtual 144, 3) := by decide +kernel
theorem dX9_deed_119 : decode cX9_deed 119 = .ok (.ifCond .eq 7, 3) := by decide +kernel
theorem dX9_deed_122 : decode cX9_deed 122 = .ok (.iconst 1, 1) := by decide +kernel
theorem dX9_deed_123 : decode cX9_deed 123 = .ok (.goto 4, 3) := by decide +kernel
theorem dX9_deed_126 : decode cX9_deed 126 = .ok (.iconst 0, 1) := by decide +kernel
theorem dX9_deed_127 : decode cX9_deed 127 = .ok (.ireturn, 1) := by decide +kernel
set_option maxRecDepth 20000 in
theorem ggX9_fault_X9_in : GoodIn wsX9_fault wsX9_in := goodIn_r _ [7] (by decide +kernel) (by decide +kernel)
set_option maxRecDepth 20000 in
theorem gX9_fault_X9_in : GoodIn wsX9_fault (va_wsS RX9 51 yX9_in wsX9_in) := goodIn_app (goodIn_of _ (by decide +kernel)) ggX9_fault_X9_in
set_option maxRecDepth 20000 in
theorem ggX9_fault_X9_number : GoodIn wsX9_fault wsX9_number := goodIn_r _ [11, 12, 1, 13, 2, 14, 15, 16, 6, 17, 3, 4, 5, 7, 26, 27, 28, 29, 30, 31, 32, 33, 34, 35, 36, 37, 38, 39, 40, 41, 42, 43] (by decide +kernel) (by decide +kernel)
set_option maxRecDepth 20000 in
theorem gX9_fault_X9_number : GoodIn wsX9_fault (wsV RX9 144 RX9 yX9_number wsX9_number) := goodIn_app (goodIn_of _ (by decide +kernel)) ggX9_fault_X9_number
set_option maxRecDepth 20000 in
theorem ggX9_fault_X9_deed : GoodIn wsX9_fault wsX9_deed := goodIn_r _ [21, 1, 3, 12, 13, 2, 8, 9, 10, 6, 11, 14, 15, 16, 17, 4, 5, 7, 22, 23, 24, 25, 26, 27, 28, 29, 30, 31, 32, 33, 34, 35, 36, 37, 38, 39, 40, 41, 42, 43] (by decide +kernel) (by decide +kernel)
set_option maxRecDepth 20000 in
theorem gX9_fault_X9_deed : GoodIn wsX9_fault (wsV RX9 150 RX9 yX9_deed wsX9_deed) := goodIn_app (goodIn_of _ (by decide +kernel)) ggX9_fault_X9_deed
set_option maxRecDepth 20000 in
theorem ggX9_fault_X9_sign : GoodIn wsX9_fault wsX9_sign := goodIn_r _ [25, 1, 14, 15, 16, 6, 17, 3, 12, 4, 5, 7, 26, 27, 28, 29, 30, 31, 32, 33, 34, 35, 36, 37, 38, 39, 40, 41, 42, 43] (by decide +kernel) (by decide +kernel)
set_option maxRecDepth 20000 in
theorem gX9_fault_X9_sign : GoodIn wsX9_fault (wsV RX9 147 RX9 yX9_sign wsX9_sign) := goodIn_app (goodIn_of _ (by decide +kernel)) ggX9_fault_X9_sign
theorem dX9_fault_0 : decode cX9_fault 0 = .ok (.iload_n 1, 1) := by decide +kernel
theorem dX9_fault_1 : decode cX9_fault 1 = .ok (.iconst 0, 1) := by decide +kernel
theorem dX9_fault_2 : decode cX9_fault 2 = .ok (.iconst 1, 1) := by decide +kernel
theorem dX9_fault_3 : decode cX9_fault 3 = .ok (.invokestatic 51, 3) := by decide +kernel
theorem dX9_fault_6 : decode cX9_fault 6 = .ok (.ifCond .ne 5, 3) := by decide +kernel
theorem dX9_fault_9 : decode cX9_fault 9 = .ok (.iconst (-1), 1) := by decide +kernel
theorem dX9_fault_10 : decode cX9_fault 10 = .ok (.ireturn, 1) := by decide +kernel
theorem dX9_fault_11 : decode cX9_fault 11 = .ok (.aload_n 0, 1) := by decide +kernel
theorem dX9_fault_12 : decode cX9_fault 12 = .ok (.iconst 0, 1) := by decide +kernel
theorem dX9_fault_13 : decode cX9_fault 13 = .ok (.putfield 135, 3) := by decide +kernel
theorem dX9_fault_16 : decode cX9_fault 16 = .ok (.aload_n 0, 1) := by decide +kernel
theorem dX9_fault_17 : decode cX9_fault 17 = .ok (.iconst 0, 1) := by decide +kernel
theorem dX9_fault_18 : decode cX9_fault 18 = .ok (.putfield 141, 3) := by decide +kernel
theorem dX9_fault_21 : decode cX9_fault 21 = .ok (.iconst 1, 1) := by decide +kernel
theorem dX9_fault_22 : decode cX9_fault 22 = .ok (.istore_n 2, 1) := by decide +kernel
theorem dX9_fault_23 : decode cX9_fault 23 = .ok (.iload_n 2, 1) := by decide +kernel
theorem dX9_fault_24 : decode cX9_fault 24 = .ok (.ifCond .eq 63, 3) := by decide +kernel
theorem dX9_fault_27 : decode cX9_fault 27 = .ok (.iload_n 1, 1) := by decide +kernel
theorem dX9_fault_28 : decode cX9_fault 28 = .ok (.ifCond .ne 18, 3) := by decide +kernel
theorem dX9_fault_31 : decode cX9_fault 31 = .ok (.aload_n 0, 1) := by decide +kernel
theorem dX9_fault_32 : decode cX9_fault 32 = .ok (.iconst 1, 1) := by decide +kernel
theorem dX9_fault_33 : decode cX9_fault 33 = .ok (.iconst 1, 1) := by decide +kernel
theorem dX9_fault_34 : decode cX9_fault 34 = .ok (.sipush 9999, 3) := by decide +kernel
theorem dX9_fault_37 : decode cX9_fault 37 = .ok (.invokevirtual 144, 3) := by decide +kernel
theorem dX9_fault_40 : decode cX9_fault 40 = .ok (.ifCond .eq 13, 3) := by decide +kernel
theorem dX9_fault_43 : decode cX9_fault 43 = .ok (.goto 15, 3) := by decide +kernel
theorem dX9_fault_46 : decode cX9_fault 46 = .ok (.aload_n 0, 1) := by decide +kernel
theorem dX9_fault_47 : decode cX9_fault 47 = .ok (.invokevirtual 150, 3) := by decide +kernel
theorem dX9_fault_50 : decode cX9_fault 50 = .ok (.ifCond .ne 8, 3) := by decide +kernel
theorem dX9_fault_53 : decode cX9_fault 53 = .ok (.aload_n 0, 1) := by decide +kernel
theorem dX9_fault_54 : decode cX9_fault 54 = .ok (.getfield 135, 3) := by decide +kernel
theorem dX9_fault_57 : decode cX9_fault 57 = .ok (.ireturn, 1) := by decide +kernel
theorem dX9_fault_58 : decode cX9_fault 58 = .ok (.aload_n 0, 1) := by decide +kernel
theorem dX9_fault_59 : decode cX9_fault 59 = .ok (.dup, 1) := by decide +kernel
theorem dX9_fault_60 : decode cX9_fault 60 = .ok (.getfield 141, 3) := by decide +kernel
theorem dX9_fault_63 : decode cX9_fault 63 = .ok (.iconst 1, 1) := by decide +kernel
theorem dX9_fault_64 : decode cX9_fault 64 = .ok (.iadd, 1) := by decide +kernel
theorem dX9_fault_65 : decode cX9_fault 65 = .ok (.putfield 141, 3) := by decide +kernel
theorem dX9_fault_68 : decode cX9_fault 68 = .ok (.aload_n 0, 1) := by decide +kernel
