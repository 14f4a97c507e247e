theorem dX9_rounds_12 : decode cX9_rounds 12 = .ok (.aload_n 0, 1) := by decide +kernel
theorem dX9_rounds_13 : decode cX9_rounds 13 = .ok (.getfield 7, 3) := by decide +kernel
theorem dX9_rounds_16 : decode cX9_rounds 16 = .ok (.iconst 2, 1) := by decide +kernel
theorem dX9_rounds_17 : decode cX9_rounds 17 = .ok (.iaload, 1) := by decide +kernel
theorem dX9_rounds_18 : decode cX9_rounds 18 = .ok (.iconst 1, 1) := by decide +kernel
theorem dX9_rounds_19 : decode cX9_rounds 19 = .ok (.isub, 1) := by decide +kernel
theorem dX9_rounds_20 : decode cX9_rounds 20 = .ok (.if_icmp .ge 29, 3) := by decide +kernel
theorem dX9_rounds_23 : decode cX9_rounds 23 = .ok (.aload_n 0, 1) := by decide +kernel
theorem dX9_rounds_24 : decode cX9_rounds 24 = .ok (.iload_n 2, 1) := by decide +kernel
theorem dX9_rounds_25 : decode cX9_rounds 25 = .ok (.invokevirtual 97, 3) := by decide +kernel
theorem dX9_rounds_28 : decode cX9_rounds 28 = .ok (.ifCond .lt 12, 3) := by decide +kernel
theorem dX9_rounds_31 : decode cX9_rounds 31 = .ok (.aload_n 0, 1) := by decide +kernel
theorem dX9_rounds_32 : decode cX9_rounds 32 = .ok (.iload_n 2, 1) := by decide +kernel
theorem dX9_rounds_33 : decode cX9_rounds 33 = .ok (.invokevirtual 100, 3) := by decide +kernel
theorem dX9_rounds_36 : decode cX9_rounds 36 = .ok (.iconst 1, 1) := by decide +kernel
theorem dX9_rounds_37 : decode cX9_rounds 37 = .ok (.if_icmp .ge 6, 3) := by decide +kernel
theorem dX9_rounds_40 : decode cX9_rounds 40 = .ok (.bipush (-3), 2) := by decide +kernel
theorem dX9_rounds_42 : decode cX9_rounds 42 = .ok (.ireturn, 1) := by decide +kernel
theorem dX9_rounds_43 : decode cX9_rounds 43 = .ok (.iinc 2 1, 3) := by decide +kernel
theorem dX9_rounds_46 : decode cX9_rounds 46 = .ok (.goto (-35), 3) := by decide +kernel
theorem dX9_rounds_49 : decode cX9_rounds 49 = .ok (.iinc 1 1, 3) := by decide +kernel
theorem dX9_rounds_52 : decode cX9_rounds 52 = .ok (.goto (-50), 3) := by decide +kernel
theorem dX9_rounds_55 : decode cX9_rounds 55 = .ok (.iload_n 1, 1) := by decide +kernel
theorem dX9_rounds_56 : decode cX9_rounds 56 = .ok (.ireturn, 1) := by decide +kernel
set_option maxRecDepth 20000 in
theorem ggX9_settle_X9_putsAside : GoodIn wsX9_settle wsX9_putsAside := goodIn_r _ [5, 6, 7, 49, 50, 51, 52, 53, 54, 55, 56, 57, 58, 59, 60, 61, 62, 63, 64, 65, 66] (by decide +kernel) (by decide +kernel)
set_option maxRecDepth 20000 in
theorem gX9_settle_X9_putsAside : GoodIn wsX9_settle (wsV RX9 122 RX9 yX9_putsAside wsX9_putsAside) := goodIn_app (goodIn_of _ (by decide +kernel)) ggX9_settle_X9_putsAside
set_option maxRecDepth 20000 in
theorem ggX9_settle_X9_rounds : GoodIn wsX9_settle wsX9_rounds := goodIn_r _ [11, 7, 12, 13, 14, 4, 15, 16, 17, 18, 19, 20, 21, 22, 23, 24, 25, 26, 27, 28, 29, 30, 31, 32, 33, 34, 35, 36, 37, 49, 50, 51, 52, 53, 54, 55, 56, 57, 58, 59, 60, 61, 62, 63, 64, 65, 66] (by decide +kernel) (by decide +kernel)
set_option maxRecDepth 20000 in
theorem gX9_settle_X9_rounds : GoodIn wsX9_settle (wsV RX9 125 RX9 yX9_rounds wsX9_rounds) := goodIn_app (goodIn_of _ (by decide +kernel)) ggX9_settle_X9_rounds
set_option maxRecDepth 20000 in
theorem ggX9_settle_X9_putsBack : GoodIn wsX9_settle wsX9_putsBack := goodIn_r _ [41, 7, 6, 49, 50, 51, 52, 53, 54, 55, 56, 57, 58, 59, 60, 61, 62, 63, 64, 65, 66] (by decide +kernel) (by decide +kernel)
set_option maxRecDepth 20000 in
theorem gX9_settle_X9_putsBack : GoodIn wsX9_settle (wsV RX9 129 RX9 yX9_putsBack wsX9_putsBack) := goodIn_app (goodIn_of _ (by decide +kernel)) ggX9_settle_X9_putsBack
set_option maxRecDepth 20000 in
theorem ggX9_settle_X9_changes : GoodIn wsX9_settle wsX9_changes := goodIn_r _ [45, 46, 47, 48, 7, 49, 50, 51, 52, 53, 54, 55, 56, 57, 58, 59, 60, 61, 62, 63, 64, 65, 66] (by decide +kernel) (by decide +kernel)
set_option maxRecDepth 20000 in
theorem gX9_settle_X9_changes : GoodIn wsX9_settle (wsV RX9 79 RX9 yX9_changes wsX9_changes) := goodIn_app (goodIn_of _ (by decide +kernel)) ggX9_settle_X9_changes
theorem dX9_settle_0 : decode cX9_settle 0 = .ok (.aload_n 0, 1) := by decide +kernel
theorem dX9_settle_1 : decode cX9_settle 1 = .ok (.invokevirtual 122, 3) := by decide +kernel
theorem dX9_settle_4 : decode cX9_settle 4 = .ok (.aload_n 0, 1) := by decide +kernel
theorem dX9_settle_5 : decode cX9_settle 5 = .ok (.invokevirtual 125, 3) := by decide +kernel
theorem dX9_settle_8 : decode cX9_settle 8 = .ok (.istore_n 1, 1) := by decide +kernel
theorem dX9_settle_9 : decode cX9_settle 9 = .ok (.aload_n 0, 1) := by decide +kernel
theorem dX9_settle_10 : decode cX9_settle 10 = .ok (.invokevirtual 129, 3) := by decide +kernel
theorem dX9_settle_13 : decode cX9_settle 13 = .ok (.iload_n 1, 1) := by decide +kernel
theorem dX9_settle_14 : decode cX9_settle 14 = .ok (.ifCond .ge 5, 3) := by decide +kernel
theorem dX9_settle_17 : decode cX9_settle 17 = .ok (.iload_n 1, 1) := by decide +kernel
theorem dX9_settle_18 : decode cX9_settle 18 = .ok (.ireturn, 1) := by decide +kernel
theorem dX9_settle_19 : decode cX9_settle 19 = .ok (.aload_n 0, 1) := by decide +kernel
theorem dX9_settle_20 : decode cX9_settle 20 = .ok (.invokevirtual 79, 3) := by decide +kernel
theorem dX9_settle_23 : decode cX9_settle 23 = .ok (.aload_n 0, 1) := by decide +kernel
theorem dX9_settle_24 : decode cX9_settle 24 = .ok (.invokevirtual 125, 3) := by decide +kernel
theorem dX9_settle_27 : decode cX9_settle 27 = .ok (.ireturn, 1) := by decide +kernel
set_option maxRecDepth 20000 in
theorem ggX9_set_X9_in : GoodIn wsX9_set wsX9_in := goodIn_r _ [5] (by decide +kernel) (by decide +kernel)
set_option maxRecDepth 20000 in
theorem gX9_set_X9_in : GoodIn wsX9_set (va_wsS RX9 51 yX9_in wsX9_in) := goodIn_app (goodIn_of _ (by decide +kernel)) ggX9_set_X9_in
set_option maxRecDepth 20000 in
theorem ggX9_set_X9_changes : GoodIn wsX9_set wsX9_changes := goodIn_r _ [9, 10, 11, 12, 1, 13, 14, 15, 16, 17, 18, 19, 20, 21, 22, 23, 24, 25, 26, 27, 28, 29, 30] (by decide +kernel) (by decide +kernel)
set_option maxRecDepth 20000 in
theorem gX9_set_X9_changes : GoodIn wsX9_set (wsV RX9 79 RX9 yX9_changes wsX9_changes) := goodIn_app (goodIn_of _ (by decide +kernel)) ggX9_set_X9_changes
theorem dX9_set_0 : decode cX9_set 0 = .ok (.iload_n 1, 1) := by decide +kernel
theorem dX9_set_1 : decode cX9_set 1 = .ok (.iconst 0, 1) := by decide +kernel
theorem dX9_set_2 : decode cX9_set 2 = .ok (.iconst 1, 1) := by decide +kernel
theorem dX9_set_3 : decode cX9_set 3 = .ok (.invokestatic 51, 3) := by decide +kernel
theorem dX9_set_6 : decode cX9_set 6 = .ok (.ifCond .eq 20, 3) := by decide +kernel
theorem dX9_set_9 : decode cX9_set 9 = .ok (.iload_n 2, 1) := by decide +kernel
theorem dX9_set_10 : decode cX9_set 10 = .ok (.iload_n 1, 1) := by decide +kernel
theorem dX9_set_11 : decode cX9_set 11 = .ok (.iload_n 1, 1) := by decide +kernel
theorem dX9_set_12 : decode cX9_set 12 = .ok (.ifCond .ne 7, 3) := by decide +kernel
theorem dX9_set_15 : decode cX9_set 15 = .ok (.iconst 2, 1) := by decide +kernel
theorem dX9_set_16 : decode cX9_set 16 = .ok (.goto 4, 3) := by decide +kernel
theorem dX9_set_19 : decode cX9_set 19 = .ok (.iconst 4, 1) := by decide +kernel
theorem dX9_set_20 : decode cX9_set 20 = .ok (.invokestatic 51, 3) := by decide +kernel
theorem dX9_set_23 : decode cX9_set 23 = .ok (.ifCond .ne 5, 3) := by decide +kernel
theorem dX9_set_26 : decode cX9_set 26 = .ok (.iconst (-1), 1) := by decide +kernel
theorem dX9_set_27 : decode cX9_set 27 = .ok (.ireturn, 1) := by decide +kernel
theorem dX9_set_28 : decode cX9_set 28 = .ok (.aload_n 0, 1) := by decide +kernel
theorem dX9_set_29 : decode cX9_set 29 = .ok (.invokevirtual 79, 3) := by decide +kernel
theorem dX9_set_32 : decode cX9_set 32 = .ok (.aload_n 0, 1) := by decide +kernel
theorem dX9_set_33 : decode cX9_set 33 = .ok (.getfield 7, 3) := by decide +kernel
theorem dX9_set_36 : decode cX9_set 36 = .ok (.iload_n 1, 1) := by decide +kernel
theorem dX9_set_37 : decode cX9_set 37 = .ok (.iaload, 1) := by decide +kernel
theorem dX9_set_38 : decode cX9_set 38 = .ok (.istore_n 3, 1) := by decide +kernel
theorem dX9_set_39 : decode cX9_set 39 = .ok (.aload_n 0, 1) := by decide +kernel
theorem dX9_set_40 : decode cX9_set 40 = .ok (.getfield 7, 3) := by decide +kernel
theorem dX9_set_43 : decode cX9_set 43 = .ok (.iload_n 1, 1) := by decide +kernel
theorem dX9_set_44 : decode cX9_set 44 = .ok (.iload_n 2, 1) := by decide +kernel
theorem dX9_set_45 : decode cX9_set 45 = .ok (.iastore, 1) := by decide +kernel
theorem dX9_set_46 : decode cX9_set 46 = .ok (.iload_n 3, 1) := by decide +kernel
theorem dX9_set_47 : decode cX9_set 47 = .ok (.ireturn, 1) := by decide +kernel
set_option maxRecDepth 20000 in
theorem ggX9_append_X9_in : GoodIn wsX9_append wsX9_in := goodIn_r _ [6] (by decide +kernel) (by decide +kernel)
set_option maxRecDepth 20000 in
theorem gX9_append_X9_in : GoodIn wsX9_append (va_wsS RX9 51 yX9_in wsX9_in) := goodIn_app (goodIn_of _ (by decide +kernel)) ggX9_append_X9_in
theorem dX9_append_0 : decode cX9_append 0 = .ok (.iload_n 1, 1) := by decide +kernel
theorem dX9_append_1 : decode cX9_append 1 = .ok (.bipush 33, 2) := by decide +kernel
theorem dX9_append_3 : decode cX9_append 3 = .ok (.bipush 126, 2) := by decide +kernel
theorem dX9_append_5 : decode cX9_append 5 = .ok (.invokestatic 51, 3) := by decide +kernel
theorem dX9_append_8 : decode cX9_append 8 = .ok (.ifCond .ne 5, 3) := by decide +kernel
theorem dX9_append_11 : decode cX9_append 11 = .ok (.iconst (-1), 1) := by decide +kernel
theorem dX9_append_12 : decode cX9_append 12 = .ok (.ireturn, 1) := by decide +kernel
theorem dX9_append_13 : decode cX9_append 13 = .ok (.aload_n 0, 1) := by decide +kernel
theorem dX9_append_14 : decode cX9_append 14 = .ok (.getfield 132, 3) := by decide +kernel
theorem dX9_append_17 : decode cX9_append 17 = .ok (.bipush 60, 2) := by decide +kernel
theorem dX9_append_19 : decode cX9_append 19 = .ok (.if_icmp .ne 6, 3) := by decide +kernel
theorem dX9_append_22 : decode cX9_append 22 = .ok (.bipush (-3), 2) := by decide +kernel
theorem dX9_append_24 : decode cX9_append 24 = .ok (.ireturn, 1) := by decide +kernel
theorem dX9_append_25 : decode cX9_append 25 = .ok (.aload_n 0, 1) := by decide +kernel
theorem dX9_append_26 : decode cX9_append 26 = .ok (.getfield 25, 3) := by decide +kernel
theorem dX9_append_29 : decode cX9_append 29 = .ok (.aload_n 0, 1) := by decide +kernel
theorem dX9_append_30 : decode cX9_append 30 = .ok (.getfield 132, 3) := by decide +kernel
theorem dX9_append_33 : decode cX9_append 33 = .ok (.iload_n 1, 1) := by decide +kernel
theorem dX9_append_34 : decode cX9_append 34 = .ok (.iastore, 1) := by decide +kernel
theorem dX9_append_35 : decode cX9_append 35 = .ok (.aload_n 0, 1) := by decide +kernel
theorem dX9_append_36 : decode cX9_append 36 = .ok (.dup, 1) := by decide +kernel
theorem dX9_append_37 : decode cX9_append 37 = .ok (.getfield 132, 3) := by decide +kernel
theorem dX9_append_40 : decode cX9_append 40 = .ok (.iconst 1, 1) := by decide +kernel
theorem dX9_append_41 : decode cX9_append 41 = .ok (.iadd, 1) := by decide +kernel
theorem dX9_append_42 : decode cX9_append 42 = .ok (.putfield 132, 3) := by decide +kernel
theorem dX9_append_45 : decode cX9_append 45 = .ok (.aload_n 0, 1) := by decide +kernel
theorem dX9_append_46 : decode cX9_append 46 = .ok (.getfield 132, 3) := by decide +kernel
theorem dX9_append_49 : decode cX9_append 49 = .ok (.ireturn, 1) := by decide +kernel
theorem dX9_clear_0 : decode cX9_clear 0 = .ok (.aload_n 0, 1) := by decide +kernel
theorem dX9_clear_1 : decode cX9_clear 1 = .ok (.getfield 132, 3) := by decide +kernel
theorem dX9_clear_4 : decode cX9_clear 4 = .ok (.istore_n 1, 1) := by decide +kernel
theorem dX9_clear_5 : decode cX9_clear 5 = .ok (.aload_n 0, 1) := by decide +kernel
theorem dX9_clear_6 : decode cX9_clear 6 = .ok (.iconst 0, 1) := by decide +kernel
theorem dX9_clear_7 : decode cX9_clear 7 = .ok (.putfield 132, 3) := by decide +kernel
theorem dX9_clear_10 : decode cX9_clear 10 = .ok (.iload_n 1, 1) := by decide +kernel
theorem dX9_clear_11 : decode cX9_clear 11 = .ok (.ireturn, 1) := by decide +kernel
set_option maxRecDepth 20000 in
theorem ggX9_isAt_X9_in : GoodIn wsX9_isAt wsX9_in := goodIn_r _ [7] (by decide +kernel) (by decide +kernel)
set_option maxRecDepth 20000 in
theorem gX9_isAt_X9_in : GoodIn wsX9_isAt (va_wsS RX9 51 yX9_in wsX9_in) := goodIn_app (goodIn_of _ (by decide +kernel)) ggX9_isAt_X9_in
theorem dX9_isAt_0 : decode cX9_isAt 0 = .ok (.aload_n 0, 1) := by decide +kernel
theorem dX9_isAt_1 : decode cX9_isAt 1 = .ok (.getfield 135, 3) := by decide +kernel
theorem dX9_isAt_4 : decode cX9_isAt 4 = .ok (.aload_n 0, 1) := by decide +kernel
theorem dX9_isAt_5 : decode cX9_isAt 5 = .ok (.getfield 132, 3) := by decide +kernel
theorem dX9_isAt_8 : decode cX9_isAt 8 = .ok (.if_icmp .ge 24, 3) := by decide +kernel
theorem dX9_isAt_11 : decode cX9_isAt 11 = .ok (.aload_n 0, 1) := by decide +kernel
theorem dX9_isAt_12 : decode cX9_isAt 12 = .ok (.getfield 25, 3) := by decide +kernel
theorem dX9_isAt_15 : decode cX9_isAt 15 = .ok (.aload_n 0, 1) := by decide +kernel
theorem dX9_isAt_16 : decode cX9_isAt 16 = .ok (.getfield 135, 3) := by decide +kernel
theorem dX9_isAt_19 : decode cX9_isAt 19 = .ok (.iaload, 1) := by decide +kernel
theorem dX9_isAt_20 : decode cX9_isAt 20 = .ok (.iload_n 1, 1) := by decide +kernel
theorem dX9_isAt_21 : decode cX9_isAt 21 = .ok (.iload_n 2, 1) := by decide +kernel
theorem dX9_isAt_22 : decode cX9_isAt 22 = .ok (.invokestatic 51, 3) := by decide +kernel
theorem dX9_isAt_25 : decode cX9_isAt 25 = .ok (.ifCond .eq 7, 3) := by decide +kernel
theorem dX9_isAt_28 : decode cX9_isAt 28 = .ok (.iconst 1, 1) := by decide +kernel
theorem dX9_isAt_29 : decode cX9_isAt 29 = .ok (.goto 4, 3) := by decide +kernel
theorem dX9_isAt_32 : decode cX9_isAt 32 = .ok (.iconst 0, 1) := by decide +kernel
theorem dX9_isAt_33 : decode cX9_isAt 33 = .ok (.ireturn, 1) := by decide +kernel
set_option maxRecDepth 20000 in
theorem ggX9_sign_X9_isAt : GoodIn wsX9_sign wsX9_isAt := goodIn_r _ [6, 1, 7, 8, 9, 10, 5, 11, 12, 13, 14, 15, 16, 17, 18, 19, 20, 21, 22, 23, 24, 25, 26, 27, 28, 29] (by decide +kernel) (by decide +kernel)
set_option maxRecDepth 20000 in
theorem gX9_sign_X9_isAt : GoodIn wsX9_sign (wsV RX9 138 RX9 yX9_isAt wsX9_isAt) := goodIn_app (goodIn_of _ (by decide +kernel)) ggX9_sign_X9_isAt
theorem dX9_sign_0 : decode cX9_sign 0 = .ok (.aload_n 0, 1) := by decide +kernel
theorem dX9_sign_1 : decode cX9_sign 1 = .ok (.iload_n 1, 1) := by decide +kernel
theorem dX9_sign_2 : decode cX9_sign 2 = .ok (.iload_n 1, 1) := by decide +kernel
theorem dX9_sign_3 : decode cX9_sign 3 = .ok (.invokevirtual 138, 3) := by decide +kernel
theorem dX9_sign_6 : decode cX9_sign 6 = .ok (.istore_n 2, 1) := by decide +kernel
theorem dX9_sign_7 : decode cX9_sign 7 = .ok (.aload_n 0, 1) := by decide +kernel
theorem dX9_sign_8 : decode cX9_sign 8 = .ok (.dup, 1) := by decide +kernel
theorem dX9_sign_9 : decode cX9_sign 9 = .ok (.getfield 135, 3) := by decide +kernel
theorem dX9_sign_12 : decode cX9_sign 12 = .ok (.iload_n 2, 1) := by decide +kernel
theorem dX9_sign_13 : decode cX9_sign 13 = .ok (.ifCond .eq 7, 3) := by decide +kernel
theorem dX9_sign_16 : decode cX9_sign 16 = .ok (.iconst 1, 1) := by decide +kernel
theorem dX9_sign_17 : decode cX9_sign 17 = .ok (.goto 4, 3) := by decide +kernel
theorem dX9_sign_20 : decode cX9_sign 20 = .ok (.iconst 0, 1) := by decide +kernel
theorem dX9_sign_21 : decode cX9_sign 21 = .ok (.iadd, 1) := by decide +kernel
theorem dX9_sign_22 : decode cX9_sign 22 = .ok (.putfield 135, 3) := by decide +kernel
theorem dX9_sign_25 : decode cX9_sign 25 = .ok (.iload_n 2, 1) := by decide +kernel
theorem dX9_sign_26 : decode cX9_sign 26 = .ok (.ireturn, 1) := by decide +kernel
set_option maxRecDepth 20000 in
theorem ggX9_number_X9_isAt : GoodIn wsX9_number wsX9_isAt := goodIn_r _ [9, 2, 10, 1, 11, 12, 8, 13, 14, 15, 16, 17, 18, 19, 20, 21, 22, 23, 24, 25, 26, 27, 28, 29, 30, 31] (by decide +kernel) (by decide +kernel)
set_option maxRecDepth 20000 in
theorem gX9_number_X9_isAt : GoodIn wsX9_number (wsV RX9 138 RX9 yX9_isAt wsX9_isAt) := goodIn_app (goodIn_of _ (by decide +kernel)) ggX9_number_X9_isAt
theorem dX9_number_0 : decode cX9_number 0 = .ok (.aload_n 0, 1) := by decide +kernel
theorem dX9_number_1 : decode cX9_number 1 = .ok (.iload_n 2, 1) := by decide +kernel
theorem dX9_number_2 : decode cX9_number 2 = .ok (.ifCond .ne 8, 3) := by decide +kernel
theorem dX9_number_5 : decode cX9_number 5 = .ok (.bipush 48, 2) := by decide +kernel
theorem dX9_number_7 : decode cX9_number 7 = .ok (.goto 5, 3) := by decide +kernel
theorem dX9_number_10 : decode cX9_number 10 = .ok (.bipush 49, 2) := by decide +kernel
theorem dX9_number_12 : decode cX9_number 12 = .ok (.bipush 57, 2) := by decide +kernel
theorem dX9_number_14 : decode cX9_number 14 = .ok (.invokevirtual 138, 3) := by decide +kernel
theorem dX9_number_17 : decode cX9_number 17 = .ok (.ifCond .ne 5, 3) := by decide +kernel
theorem dX9_number_20 : decode cX9_number 20 = .ok (.iconst 0, 1) := by decide +kernel
theorem dX9_number_21 : decode cX9_number 21 = .ok (.ireturn, 1) := by decide +kernel
theorem dX9_number_22 : decode cX9_number 22 = .ok (.aload_n 0, 1) := by decide +kernel
theorem dX9_number_23 : decode cX9_number 23 = .ok (.getfield 25, 3) := by decide +kernel
theorem dX9_number_26 : decode cX9_number 26 = .ok (.aload_n 0, 1) := by decide +kernel
theorem dX9_number_27 : decode cX9_number 27 = .ok (.getfield 135, 3) := by decide +kernel
theorem dX9_number_30 : decode cX9_number 30 = .ok (.iaload, 1) := by decide +kernel
theorem dX9_number_31 : decode cX9_number 31 = .ok (.bipush 48, 2) := by decide +kernel
theorem dX9_number_33 : decode cX9_number 33 = .ok (.isub, 1) := by decide +kernel
theorem dX9_number_34 : decode cX9_number 34 = .ok (.istore 4, 2) := by decide +kernel
theorem dX9_number_36 : decode cX9_number 36 = .ok (.aload_n 0, 1) := by decide +kernel
theorem dX9_number_37 : decode cX9_number 37 = .ok (.dup, 1) := by decide +kernel
theorem dX9_number_38 : decode cX9_number 38 = .ok (.getfield 135, 3) := by decide +kernel
theorem dX9_number_41 : decode cX9_number 41 = .ok (.iconst 1, 1) := by decide +kernel
theorem dX9_number_42 : decode cX9_number 42 = .ok (.iadd, 1) := by decide +kernel
theorem dX9_number_43 : decode cX9_number 43 = .ok (.putfield 135, 3) := by decide +kernel
theorem dX9_number_46 : decode cX9_number 46 = .ok (.iload 4, 2) := by decide +kernel
theorem dX9_number_48 : decode cX9_number 48 = .ok (.ifCond .le 69, 3) := by decide +kernel
theorem dX9_number_51 : decode cX9_number 51 = .ok (.aload_n 0, 1) := by decide +kernel
theorem dX9_number_52 : decode cX9_number 52 = .ok (.bipush 48, 2) := by decide +kernel
theorem dX9_number_54 : decode cX9_number 54 = .ok (.bipush 57, 2) := by decide +kernel
theorem dX9_number_56 : decode cX9_number 56 = .ok (.invokevirtual 138, 3) := by decide +kernel
theorem dX9_number_59 : decode cX9_number 59 = .ok (.ifCond .eq 58, 3) := by decide +kernel
theorem dX9_number_62 : decode cX9_number 62 = .ok (.bipush 10, 2) := by decide +kernel
theorem dX9_number_64 : decode cX9_number 64 = .ok (.iload 4, 2) := by decide +kernel
theorem dX9_number_66 : decode cX9_number 66 = .ok (.imul, 1) := by decide +kernel
theorem dX9_number_67 : decode cX9_number 67 = .ok (.aload_n 0, 1) := by decide +kernel
theorem dX9_number_68 : decode cX9_number 68 = .ok (.getfield 25, 3) := by decide +kernel
theorem dX9_number_71 : decode cX9_number 71 = .ok (.aload_n 0, 1) := by decide +kernel
theorem dX9_number_72 : decode cX9_number 72 = .ok (.getfield 135, 3) := by decide +kernel
theorem dX9_number_75 : decode cX9_number 75 = .ok (.iaload, 1) := by decide +kernel
theorem dX9_number_76 : decode cX9_number 76 = .ok (.iadd, 1) := by decide +kernel
theorem dX9_number_77 : decode cX9_number 77 = .ok (.bipush 48, 2) := by decide +kernel
theorem dX9_number_79 : decode cX9_number 79 = .ok (.isub, 1) := by decide +kernel
theorem dX9_number_80 : decode cX9_number 80 = .ok (.iload_n 3, 1) := by decide +kernel
theorem dX9_number_81 : decode cX9_number 81 = .ok (.if_icmp .gt 36, 3) := by decide +kernel
theorem dX9_number_84 : decode cX9_number 84 = .ok (.bipush 10, 2) := by decide +kernel
theorem dX9_number_86 : decode cX9_number 86 = .ok (.iload 4, 2) := by decide +kernel
theorem dX9_number_88 : decode cX9_number 88 = .ok (.imul, 1) := by decide +kernel
theorem dX9_number_89 : decode cX9_number 89 = .ok (.aload_n 0, 1) := by decide +kernel
theorem dX9_number_90 : decode cX9_number 90 = .ok (.getfield 25, 3) := by decide +kernel
theorem dX9_number_93 : decode cX9_number 93 = .ok (.aload_n 0, 1) := by decide +kernel
theorem dX9_number_94 : decode cX9_number 94 = .ok (.getfield 135, 3) := by decide +kernel
theorem dX9_number_97 : decode cX9_number 97 = .ok (.iaload, 1) := by decide +kernel
theorem dX9_number_98 : decode cX9_number 98 = .ok (.iadd, 1) := by decide +kernel
theorem dX9_number_99 : decode cX9_number 99 = .ok (.bipush 48, 2) := by decide +kernel
theorem dX9_number_101 : decode cX9_number 101 = .ok (.isub, 1) := by decide +kernel
theorem dX9_number_102 : decode cX9_number 102 = .ok (.istore 4, 2) := by decide +kernel
theorem dX9_number_104 : decode cX9_number 104 = .ok (.aload_n 0, 1) := by decide +kernel
theorem dX9_number_105 : decode cX9_number 105 = .ok (.dup, 1) := by decide +kernel
theorem dX9_number_106 : decode cX9_number 106 = .ok (.getfield 135, 3) := by decide +kernel
theorem dX9_number_109 : decode cX9_number 109 = .ok (.iconst 1, 1) := by decide +kernel
theorem dX9_number_110 : decode cX9_number 110 = .ok (.iadd, 1) := by decide +kernel
theorem dX9_number_111 : decode cX9_number 111 = .ok (.putfield 135, 3) := by decide +kernel
theorem dX9_number_114 : decode cX9_number 114 = .ok (.goto (-68), 3) := by decide +kernel
theorem dX9_number_117 : decode cX9_number 117 = .ok (.aload_n 0, 1) := by decide +kernel
theorem dX9_number_118 : decode cX9_number 118 = .ok (.getfield 34, 3) := by decide +kernel
theorem dX9_number_121 : decode cX9_number 121 = .ok (.iconst 4, 1) := by decide +kernel
theorem dX9_number_122 : decode cX9_number 122 = .ok (.aload_n 0, 1) := by decide +kernel
theorem dX9_number_123 : decode cX9_number 123 = .ok (.getfield 141, 3) := by decide +kernel
theorem dX9_number_126 : decode cX9_number 126 = .ok (.imul, 1) := by decide +kernel
theorem dX9_number_127 : decode cX9_number 127 = .ok (.iload_n 1, 1) := by decide +kernel
theorem dX9_number_128 : decode cX9_number 128 = .ok (.iadd, 1) := by decide +kernel
theorem dX9_number_129 : decode cX9_number 129 = .ok (.iload 4, 2) := by decide +kernel
theorem dX9_number_131 : decode cX9_number 131 = .ok (.iastore, 1) := by decide +kernel
theorem dX9_number_132 : decode cX9_number 132 = .ok (.iload 4, 2) := by decide +kernel
theorem dX9_number_134 : decode cX9_number 134 = .ok (.iload_n 2, 1) := by decide +kernel
theorem dX9_number_135 : decode cX9_number 135 = .ok (.if_icmp .lt 7, 3) := by decide +kernel
theorem dX9_number_138 : decode cX9_number 138 = .ok (.iconst 1, 1) := by decide +kernel
theorem dX9_number_139 : decode cX9_number 139 = .ok (.goto 4, 3) := by decide +kernel
theorem dX9_number_142 : decode cX9_number 142 = .ok (.iconst 0, 1) := by decide +kernel
theorem dX9_number_143 : decode cX9_number 143 = .ok (.ireturn, 1) := by decide +kernel
set_option maxRecDepth 20000 in
theorem ggX9_deed_X9_number : GoodIn wsX9_deed wsX9_number := goodIn_r _ [10, 3, 1, 4, 5, 11, 12, 13, 9, 14, 2, 15, 16, 17, 22, 23, 24, 25, 26, 27, 28, 29, 30, 31, 32, 33, 34, 35, 36, 37, 38, 39] (by decide +kernel) (by decide +kernel)
set_option maxRecDepth 20000 in
theorem gX9_deed_X9_number : GoodIn wsX9_deed (wsV RX9 144 RX9 yX9_number wsX9_number) := goodIn_app (goodIn_of _ (by decide +kernel)) ggX9_deed_X9_number
set_option maxRecDepth 20000 in
theorem ggX9_deed_X9_sign : GoodIn wsX9_deed wsX9_sign := goodIn_r _ [21, 1, 11, 12, 13, 9, 14, 2, 3, 15, 16, 17, 22, 23, 24, 25, 26, 27, 28, 29, 30, 31, 32, 33, 34, 35, 36, 37, 38, 39] (by decide +kernel) (by decide +kernel)
set_option maxRecDepth 20000 in
theorem gX9_deed_X9_sign : GoodIn wsX9_deed (wsV RX9 147 RX9 yX9_sign wsX9_sign) := goodIn_app (goodIn_of _ (by decide +kernel)) ggX9_deed_X9_sign
theorem dX9_deed_0 : decode cX9_deed 0 = .ok (.aload_n 0, 1) := by decide +kernel
theorem dX9_deed_1 : decode cX9_deed 1 = .ok (.getfield 135, 3) := by decide +kernel
theorem dX9_deed_4 : decode cX9_deed 4 = .ok (.aload_n 0, 1) := by decide +kernel
theorem dX9_deed_5 : decode cX9_deed 5 = .ok (.getfield 132, 3) := by decide +kernel
theorem dX9_deed_8 : decode cX9_deed 8 = .ok (.if_icmp .ge 15, 3) := by decide +kernel
theorem dX9_deed_11 : decode cX9_deed 11 = .ok (.aload_n 0, 1) := by decide +kernel
theorem dX9_deed_12 : decode cX9_deed 12 = .ok (.getfield 25, 3) := by decide +kernel
theorem dX9_deed_15 : decode cX9_deed 15 = .ok (.aload_n 0, 1) := by decide +kernel
theorem dX9_deed_16 : decode cX9_deed 16 = .ok (.getfield 135, 3) := by decide +kernel
theorem dX9_deed_19 : decode cX9_deed 19 = .ok (.iaload, 1) := by decide +kernel
theorem dX9_deed_20 : decode cX9_deed 20 = .ok (.goto 4, 3) := by decide +kernel
theorem dX9_deed_23 : decode cX9_deed 23 = .ok (.iconst 0, 1) := by decide +kernel
theorem dX9_deed_24 : decode cX9_deed 24 = .ok (.istore_n 1, 1) := by decide +kernel
theorem dX9_deed_25 : decode cX9_deed 25 = .ok (.iload_n 1, 1) := by decide +kernel
theorem dX9_deed_26 : decode cX9_deed 26 = .ok (.bipush 115, 2) := by decide +kernel
theorem dX9_deed_28 : decode cX9_deed 28 = .ok (.if_icmp .eq 17, 3) := by decide +kernel
theorem dX9_deed_31 : decode cX9_deed 31 = .ok (.iload_n 1, 1) := by decide +kernel
theorem dX9_deed_32 : decode cX9_deed 32 = .ok (.bipush 100, 2) := by decide +kernel
theorem dX9_deed_34 : decode cX9_deed 34 = .ok (.if_icmp .eq 11, 3) := by decide +kernel
theorem dX9_deed_37 : decode cX9_deed 37 = .ok (.iload_n 1, 1) := by decide +kernel
theorem dX9_deed_38 : decode cX9_deed 38 = .ok (.bipush 107, 2) := by decide +kernel
theorem dX9_deed_40 : decode cX9_deed 40 = .ok (.if_icmp .eq 5, 3) := by decide +kernel
theorem dX9_deed_43 : decode cX9_deed 43 = .ok (.iconst 0, 1) := by decide +kernel
theorem dX9_deed_44 : decode cX9_deed 44 = .ok (.ireturn, 1) := by decide +kernel
theorem dX9_deed_45 : decode cX9_deed 45 = .ok (.aload_n 0, 1) := by decide +kernel
theorem dX9_deed_46 : decode cX9_deed 46 = .ok (.getfield 34, 3) := by decide +kernel
theorem dX9_deed_49 : decode cX9_deed 49 = .ok (.iconst 4, 1) := by decide +kernel
theorem dX9_deed_50 : decode cX9_deed 50 = .ok (.aload_n 0, 1) := by decide +kernel
theorem dX9_deed_51 : decode cX9_deed 51 = .ok (.getfield 141, 3) := by decide +kernel
theorem dX9_deed_54 : decode cX9_deed 54 = .ok (.imul, 1) := by decide +kernel
theorem dX9_deed_55 : decode cX9_deed 55 = .ok (.iload_n 1, 1) := by decide +kernel
theorem dX9_deed_56 : decode cX9_deed 56 = .ok (.iastore, 1) := by decide +kernel
theorem dX9_deed_57 : decode cX9_deed 57 = .ok (.aload_n 0, 1) := by decide +kernel
theorem dX9_deed_58 : decode cX9_deed 58 = .ok (.getfield 34, 3) := by decide +kernel
theorem dX9_deed_61 : decode cX9_deed 61 = .ok (.iconst 4, 1) := by decide +kernel
theorem dX9_deed_62 : decode cX9_deed 62 = .ok (.aload_n 0, 1) := by decide +kernel
theorem dX9_deed_63 : decode cX9_deed 63 = .ok (.getfield 141, 3) := by decide +kernel
theorem dX9_deed_66 : decode cX9_deed 66 = .ok (.imul, 1) := by decide +kernel
theorem dX9_deed_67 : decode cX9_deed 67 = .ok (.iconst 3, 1) := by decide +kernel
theorem dX9_deed_68 : decode cX9_deed 68 = .ok (.iadd, 1) := by decide +kernel
theorem dX9_deed_69 : decode cX9_deed 69 = .ok (.aload_n 0, 1) := by decide +kernel
theorem dX9_deed_70 : decode cX9_deed 70 = .ok (.getfield 135, 3) := by decide +kernel
theorem dX9_deed_73 : decode cX9_deed 73 = .ok (.iastore, 1) := by decide +kernel
theorem dX9_deed_74 : decode cX9_deed 74 = .ok (.aload_n 0, 1) := by decide +kernel
theorem dX9_deed_75 : decode cX9_deed 75 = .ok (.dup, 1) := by decide +kernel
theorem dX9_deed_76 : decode cX9_deed 76 = .ok (.getfield 135, 3) := by decide +kernel
theorem dX9_deed_79 : decode cX9_deed 79 = .ok (.iconst 1, 1) := by decide +kernel
theorem dX9_deed_80 : decode cX9_deed 80 = .ok (.iadd, 1) := by decide +kernel
theorem dX9_deed_81 : decode cX9_deed 81 = .ok (.putfield 135, 3) := by decide +kernel
theorem dX9_deed_84 : decode cX9_deed 84 = .ok (.aload_n 0, 1) := by decide +kernel
theorem dX9_deed_85 : decode cX9_deed 85 = .ok (.iconst 1, 1) := by decide +kernel
theorem dX9_deed_86 : decode cX9_deed 86 = .ok (.iconst 0, 1) := by decide +kernel
theorem dX9_deed_87 : decode cX9_deed 87 = .ok (.bipush 11, 2) := by decide +kernel
theorem dX9_deed_89 : decode cX9_deed 89 = .ok (.invokevirtual 144, 3) := by decide +kernel
theorem dX9_deed_92 : decode cX9_deed 92 = .ok (.ifCond .eq 34, 3) := by decide +kernel
theorem dX9_deed_95 : decode cX9_deed 95 = .ok (.iload_n 1, 1) := by decide +kernel
theorem dX9_deed_96 : decode cX9_deed 96 = .ok (.bipush 107, 2) := by decide +kernel
theorem dX9_deed_98 : decode cX9_deed 98 = .ok (.if_icmp .ne 24, 3) := by decide +kernel
theorem dX9_deed_101 : decode cX9_deed 101 = .ok (.aload_n 0, 1) := by decide +kernel
theorem dX9_deed_102 : decode cX9_deed 102 = .ok (.bipush 46, 2) := by decide +kernel
theorem dX9_deed_104 : decode cX9_deed 104 = .ok (.invokevirtual 147, 3) := by decide +kernel
theorem dX9_deed_107 : decode cX9_deed 107 = .ok (.ifCond .eq 19, 3) := by decide +kernel
theorem dX9_deed_110 : decode cX9_deed 110 = .ok (.aload_n 0, 1) := by decide +kernel
theorem dX9_deed_111 : decode cX9_deed 111 = .ok (.iconst 2, 1) := by decide +kernel
theorem dX9_deed_112 : decode cX9_deed 112 = .ok (.iconst 2, 1) := by decide +kernel
theorem dX9_deed_113 : decode cX9_deed 113 = .ok (.sipush 9999, 3) := by decide +kernel
theorem dX9_deed_116 : decode cX9_deed 116 = .ok (.invokevirtual 144, 3) := by decide +kernel
theorem dX9_deed_119 : decode cX9_deed 119 = .ok (.ifCond .eq 7, 3) := by decide +kernel
theorem dX9_deed_122 : decode cX9_deed 122 = .ok (.iconst 1, 1) := by decide +kernel
theorem dX9_deed_123 : decode cX9_deed 123 = .ok (.goto 4, 3) := by decide +kernel
theorem dX9_deed_126 : decode cX9_deed 126 = .ok (.iconst 0, 1) := by decide +kernel
theorem dX9_deed_127 : decode cX9_deed 127 = .ok (.ireturn, 1) := by decide +kernel
set_option maxRecDepth 20000 in
theorem ggX9_fault_X9_in : GoodIn wsX9_fault wsX9_in := goodIn_r _ [7] (by decide +kernel) (by decide +kernel)
set_option maxRecDepth 20000 in
theorem gX9_fault_X9_in : GoodIn wsX9_fault (va_wsS RX9 51 yX9_in wsX9_in) := goodIn_app (goodIn_of _ (by decide +kernel)) ggX9_fault_X9_in
set_option maxRecDepth 20000 in
theorem ggX9_fault_X9_number : GoodIn wsX9_fault wsX9_number := goodIn_r _ [11, 12, 1, 13, 2, 14, 15, 16, 6, 17, 3, 4, 5, 7, 26, 27, 28, 29, 30, 31, 32, 33, 34, 35, 36, 37, 38, 39, 40, 41, 42, 43] (by decide +kernel) (by decide +kernel)
set_option maxRecDepth 20000 in
theorem gX9_fault_X9_number : GoodIn wsX9_fault (wsV RX9 144 RX9 yX9_number wsX9_number) := goodIn_app (goodIn_of _ (by decide +kernel)) ggX9_fault_X9_number
set_option maxRecDepth 20000 in
theorem ggX9_fault_X9_deed : GoodIn wsX9_fault wsX9_deed := goodIn_r _ [21, 1, 3, 12, 13, 2, 8, 9, 10, 6, 11, 14, 15, 16, 17, 4, 5, 7, 22, 23, 24, 25, 26, 27, 28, 29, 30, 31, 32, 33, 34, 35, 36, 37, 38, 39, 40, 41, 42, 43] (by decide +kernel) (by decide +kernel)
set_option maxRecDepth 20000 in
theorem gX9_fault_X9_deed : GoodIn wsX9_fault (wsV RX9 150 RX9 yX9_deed wsX9_deed) := goodIn_app (goodIn_of _ (by decide +kernel)) ggX9_fault_X9_deed
set_option maxRecDepth 20000 in
theorem ggX9_fault_X9_sign : GoodIn wsX9_fault wsX9_sign := goodIn_r _ [25, 1, 14, 15, 16, 6, 17, 3, 12, 4, 5, 7, 26, 27, 28, 29, 30, 31, 32, 33, 34, 35, 36, 37, 38, 39, 40, 41, 42, 43] (by decide +kernel) (by decide +kernel)
set_option maxRecDepth 20000 in
theorem gX9_fault_X9_sign : GoodIn wsX9_fault (wsV RX9 147 RX9 yX9_sign wsX9_sign) := goodIn_app (goodIn_of _ (by decide +kernel)) ggX9_fault_X9_sign
theorem dX9_fault_0 : decode cX9_fault 0 = .ok (.iload_n 1, 1) := by decide +kernel
theorem dX9_fault_1 : decode cX9_fault 1 = .ok (.iconst 0, 1) := by decide +kernel
theorem dX9_fault_2 : decode cX9_fault 2 = .ok (.iconst 1, 1) := by decide +kernel
theorem dX9_fault_3 : decode cX9_fault 3 = .ok (.invokestatic 51, 3) := by decide +kernel
theorem dX9_fault_6 : decode cX9_fault 6 = .ok (.ifCond .ne 5, 3) := by decide +kernel
theorem dX9_fault_9 : decode cX9_fault 9 = .ok (.iconst (-1), 1) := by decide +kernel
theorem dX9_fault_10 : decode cX9_fault 10 = .ok (.ireturn, 1) := by decide +kernel
theorem dX9_fault_11 : decode cX9_fault 11 = .ok (.aload_n 0, 1) := by decide +kernel
theorem dX9_fault_12 : decode cX9_fault 12 = .ok (.iconst 0, 1) := by decide +kernel
theorem dX9_fault_13 : decode cX9_fault 13 = .ok (.putfield 135, 3) := by decide +kernel
theorem dX9_fault_16 : decode cX9_fault 16 = .ok (.aload_n 0, 1) := by decide +kernel
theorem dX9_fault_17 : decode cX9_fault 17 = .ok (.iconst 0, 1) := by decide +kernel
theorem dX9_fault_18 : decode cX9_fault 18 = .ok (.putfield 141, 3) := by decide +kernel
theorem dX9_fault_21 : decode cX9_fault 21 = .ok (.iconst 1, 1) := by decide +kernel
theorem dX9_fault_22 : decode cX9_fault 22 = .ok (.istore_n 2, 1) := by decide +kernel
theorem dX9_fault_23 : decode cX9_fault 23 = .ok (.iload_n 2, 1) := by decide +kernel
theorem dX9_fault_24 : decode cX9_fault 24 = .ok (.ifCond .eq 63, 3) := by decide +kernel
theorem dX9_fault_27 : decode cX9_fault 27 = .ok (.iload_n 1, 1) := by decide +kernel
theorem dX9_fault_28 : decode cX9_fault 28 = .ok (.ifCond .ne 18, 3) := by decide +kernel
theorem dX9_fault_31 : decode cX9_fault 31 = .ok (.aload_n 0, 1) := by decide +kernel
theorem dX9_fault_32 : decode cX9_fault 32 = .ok (.iconst 1, 1) := by decide +kernel
theorem dX9_fault_33 : decode cX9_fault 33 = .ok (.iconst 1, 1) := by decide +kernel
theorem dX9_fault_34 : decode cX9_fault 34 = .ok (.sipush 9999, 3) := by decide +kernel
theorem dX9_fault_37 : decode cX9_fault 37 = .ok (.invokevirtual 144, 3) := by decide +kernel
theorem dX9_fault_40 : decode cX9_fault 40 = .ok (.ifCond .eq 13, 3) := by decide +kernel
theorem dX9_fault_43 : decode cX9_fault 43 = .ok (.goto 15, 3) := by decide +kernel
theorem dX9_fault_46 : decode cX9_fault 46 = .ok (.aload_n 0, 1) := by decide +kernel
theorem dX9_fault_47 : decode cX9_fault 47 = .ok (.invokevirtual 150, 3) := by decide +kernel
theorem dX9_fault_50 : decode cX9_fault 50 = .ok (.ifCond .ne 8, 3) := by decide +kernel
theorem dX9_fault_53 : decode cX9_fault 53 = .ok (.aload_n 0, 1) := by decide +kernel
theorem dX9_fault_54 : decode cX9_fault 54 = .ok (.getfield 135, 3) := by decide +kernel
theorem dX9_fault_57 : decode cX9_fault 57 = .ok (.ireturn, 1) := by decide +kernel
theorem dX9_fault_58 : decode cX9_fault 58 = .ok (.aload_n 0, 1) := by decide +kernel
theorem dX9_fault_59 : decode cX9_fault 59 = .ok (.dup, 1) := by decide +kernel
theorem dX9_fault_60 : decode cX9_fault 60 = .ok (.getfield 141, 3) := by decide +kernel
theorem dX9_fault_63 : decode cX9_fault 63 = .ok (.iconst 1, 1) := by decide +kernel
theorem dX9_fault_64 : decode cX9_fault 64 = .ok (.iadd, 1) := by decide +kernel
theorem dX9_fault_65 : decode cX9_fault 65 = .ok (.putfield 141, 3) := by decide +kernel
theorem dX9_fault_68 : decode cX9_fault 68 = .ok (.aload_n 0, 1) := by decide +kernel
theorem dX9_fault_69 : decode cX9_fault 69 = .ok (.iload_n 1, 1) := by decide +kernel
theorem dX9_fault_70 : decode cX9_fault 70 = .ok (.ifCond .ne 8, 3) := by decide +kernel
theorem dX9_fault_73 : decode cX9_fault 73 = .ok (.bipush 44, 2) := by decide +kernel
theorem dX9_fault_75 : decode cX9_fault 75 = .ok (.goto 5, 3) := by decide +kernel
theorem dX9_fault_78 : decode cX9_fault 78 = .ok (.bipush 59, 2) := by decide +kernel
theorem dX9_fault_80 : decode cX9_fault 80 = .ok (.invokevirtual 147, 3) := by decide +kernel
theorem dX9_fault_83 : decode cX9_fault 83 = .ok (.istore_n 2, 1) := by decide +kernel
theorem dX9_fault_84 : decode cX9_fault 84 = .ok (.goto (-61), 3) := by decide +kernel
theorem dX9_fault_87 : decode cX9_fault 87 = .ok (.aload_n 0, 1) := by decide +kernel
theorem dX9_fault_88 : decode cX9_fault 88 = .ok (.getfield 135, 3) := by decide +kernel
theorem dX9_fault_91 : decode cX9_fault 91 = .ok (.aload_n 0, 1) := by decide +kernel
theorem dX9_fault_92 : decode cX9_fault 92 = .ok (.getfield 132, 3) := by decide +kernel
theorem dX9_fault_95 : decode cX9_fault 95 = .ok (.if_icmp .ne 8, 3) := by decide +kernel
theorem dX9_fault_98 : decode cX9_fault 98 = .ok (.bipush (-4), 2) := by decide +kernel
theorem dX9_fault_100 : decode cX9_fault 100 = .ok (.goto 7, 3) := by decide +kernel
theorem dX9_fault_103 : decode cX9_fault 103 = .ok (.aload_n 0, 1) := by decide +kernel
theorem dX9_fault_104 : decode cX9_fault 104 = .ok (.getfield 135, 3) := by decide +kernel
theorem dX9_fault_107 : decode cX9_fault 107 = .ok (.ireturn, 1) := by decide +kernel
set_option maxRecDepth 20000 in
theorem ggX9_read_X9_fault : GoodIn wsX9_read wsX9_fault := goodIn_r _ [9, 10, 2, 4, 11, 12, 8, 13, 14, 15, 16, 17, 18, 3, 19, 20, 21, 22, 23, 24, 25, 26, 27, 28, 29, 30, 42, 43, 44, 45, 46, 47, 48, 49, 50, 51, 52, 53, 54, 55, 56, 57, 58, 59] (by decide +kernel) (by decide +kernel)
set_option maxRecDepth 20000 in
theorem gX9_read_X9_fault : GoodIn wsX9_read (wsV RX9 153 RX9 yX9_fault wsX9_fault) := goodIn_app (goodIn_of _ (by decide +kernel)) ggX9_read_X9_fault
set_option maxRecDepth 20000 in
theorem ggX9_read_X9_changes : GoodIn wsX9_read wsX9_changes := goodIn_r _ [34, 35, 36, 37, 1, 42, 43, 44, 45, 46, 47, 48, 49, 50, 51, 52, 53, 54, 55, 56, 57, 58, 59] (by decide +kernel) (by decide +kernel)
set_option maxRecDepth 20000 in
theorem gX9_read_X9_changes : GoodIn wsX9_read (wsV RX9 79 RX9 yX9_changes wsX9_changes) := goodIn_app (goodIn_of _ (by decide +kernel)) ggX9_read_X9_changes
set_option maxRecDepth 20000 in
theorem ggX9_read_X9_puts : GoodIn wsX9_read wsX9_puts := goodIn_r _ [41, 1, 42, 43, 44, 45, 46, 47, 48, 49, 50, 51, 52, 53, 54, 55, 56, 57, 58, 59] (by decide +kernel) (by decide +kernel)
set_option maxRecDepth 20000 in
theorem gX9_read_X9_puts : GoodIn wsX9_read (wsV RX9 82 RX9 yX9_puts wsX9_puts) := goodIn_app (goodIn_of _ (by decide +kernel)) ggX9_read_X9_puts
theorem dX9_read_0 : decode cX9_read 0 = .ok (.aload_n 0, 1) := by decide +kernel
theorem dX9_read_1 : decode cX9_read 1 = .ok (.iconst 0, 1) := by decide +kernel
theorem dX9_read_2 : decode cX9_read 2 = .ok (.invokevirtual 153, 3) := by decide +kernel
theorem dX9_read_5 : decode cX9_read 5 = .ok (.bipush (-4), 2) := by decide +kernel
theorem dX9_read_7 : decode cX9_read 7 = .ok (.if_icmp .eq 6, 3) := by decide +kernel
theorem dX9_read_10 : decode cX9_read 10 = .ok (.bipush (-2), 2) := by decide +kernel
theorem dX9_read_12 : decode cX9_read 12 = .ok (.ireturn, 1) := by decide +kernel
theorem dX9_read_13 : decode cX9_read 13 = .ok (.aload_n 0, 1) := by decide +kernel
theorem dX9_read_14 : decode cX9_read 14 = .ok (.getfield 7, 3) := by decide +kernel
theorem dX9_read_17 : decode cX9_read 17 = .ok (.iconst 2, 1) := by decide +kernel
theorem dX9_read_18 : decode cX9_read 18 = .ok (.iaload, 1) := by decide +kernel
theorem dX9_read_19 : decode cX9_read 19 = .ok (.aload_n 0, 1) := by decide +kernel
theorem dX9_read_20 : decode cX9_read 20 = .ok (.getfield 141, 3) := by decide +kernel
theorem dX9_read_23 : decode cX9_read 23 = .ok (.iadd, 1) := by decide +kernel
theorem dX9_read_24 : decode cX9_read 24 = .ok (.bipush 12, 2) := by decide +kernel
theorem dX9_read_26 : decode cX9_read 26 = .ok (.if_icmp .le 6, 3) := by decide +kernel
theorem dX9_read_29 : decode cX9_read 29 = .ok (.bipush (-3), 2) := by decide +kernel
theorem dX9_read_31 : decode cX9_read 31 = .ok (.ireturn, 1) := by decide +kernel
theorem dX9_read_32 : decode cX9_read 32 = .ok (.aload_n 0, 1) := by decide +kernel
theorem dX9_read_33 : decode cX9_read 33 = .ok (.invokevirtual 79, 3) := by decide +kernel
theorem dX9_read_36 : decode cX9_read 36 = .ok (.iconst 0, 1) := by decide +kernel
theorem dX9_read_37 : decode cX9_read 37 = .ok (.istore_n 1, 1) := by decide +kernel
theorem dX9_read_38 : decode cX9_read 38 = .ok (.iload_n 1, 1) := by decide +kernel
theorem dX9_read_39 : decode cX9_read 39 = .ok (.aload_n 0, 1) := by decide +kernel
theorem dX9_read_40 : decode cX9_read 40 = .ok (.getfield 141, 3) := by decide +kernel
theorem dX9_read_43 : decode cX9_read 43 = .ok (.if_icmp .ge 29, 3) := by decide +kernel
theorem dX9_read_46 : decode cX9_read 46 = .ok (.aload_n 0, 1) := by decide +kernel
theorem dX9_read_47 : decode cX9_read 47 = .ok (.aload_n 0, 1) := by decide +kernel
theorem dX9_read_48 : decode cX9_read 48 = .ok (.getfield 7, 3) := by decide +kernel
theorem dX9_read_51 : decode cX9_read 51 = .ok (.iconst 2, 1) := by decide +kernel
theorem dX9_read_52 : decode cX9_read 52 = .ok (.iaload, 1) := by decide +kernel
theorem dX9_read_53 : decode cX9_read 53 = .ok (.aload_n 0, 1) := by decide +kernel
theorem dX9_read_54 : decode cX9_read 54 = .ok (.getfield 34, 3) := by decide +kernel
theorem dX9_read_57 : decode cX9_read 57 = .ok (.iconst 4, 1) := by decide +kernel
theorem dX9_read_58 : decode cX9_read 58 = .ok (.iload_n 1, 1) := by decide +kernel
theorem dX9_read_59 : decode cX9_read 59 = .ok (.imul, 1) := by decide +kernel
theorem dX9_read_60 : decode cX9_read 60 = .ok (.iconst 1, 1) := by decide +kernel
theorem dX9_read_61 : decode cX9_read 61 = .ok (.iadd, 1) := by decide +kernel
theorem dX9_read_62 : decode cX9_read 62 = .ok (.iaload, 1) := by decide +kernel
theorem dX9_read_63 : decode cX9_read 63 = .ok (.invokevirtual 82, 3) := by decide +kernel
theorem dX9_read_66 : decode cX9_read 66 = .ok (.iinc 1 1, 3) := by decide +kernel
theorem dX9_read_69 : decode cX9_read 69 = .ok (.goto (-31), 3) := by decide +kernel
theorem dX9_read_72 : decode cX9_read 72 = .ok (.aload_n 0, 1) := by decide +kernel
theorem dX9_read_73 : decode cX9_read 73 = .ok (.iconst 0, 1) := by decide +kernel
theorem dX9_read_74 : decode cX9_read 74 = .ok (.putfield 132, 3) := by decide +kernel
theorem dX9_read_77 : decode cX9_read 77 = .ok (.aload_n 0, 1) := by decide +kernel
theorem dX9_read_78 : decode cX9_read 78 = .ok (.getfield 7, 3) := by decide +kernel
theorem dX9_read_81 : decode cX9_read 81 = .ok (.iconst 2, 1) := by decide +kernel
theorem dX9_read_82 : decode cX9_read 82 = .ok (.iaload, 1) := by decide +kernel
theorem dX9_read_83 : decode cX9_read 83 = .ok (.ireturn, 1) := by decide +kernel
set_option maxRecDepth 20000 in
theorem ggX9_does_X9_share : GoodIn wsX9_does wsX9_share := goodIn_r _ [6, 7, 8, 9, 5, 10, 11, 12, 13, 14, 15, 16, 17, 18, 19, 20, 21, 22, 23, 24, 25, 26, 27, 28, 29, 30, 31, 32, 33, 34, 35, 36, 77, 78, 79, 80, 81, 82, 83, 84, 85, 86, 87, 88, 89, 90, 91, 92, 93, 94] (by decide +kernel) (by decide +kernel)
set_option maxRecDepth 20000 in
theorem gX9_does_X9_share : GoodIn wsX9_does (wsV RX9 156 RX9 yX9_share wsX9_share) := goodIn_app (goodIn_of _ (by decide +kernel)) ggX9_does_X9_share
set_option maxRecDepth 20000 in
theorem ggX9_does_X9_divide : GoodIn wsX9_does wsX9_divide := goodIn_r _ [40, 41, 42, 43, 5, 44, 11, 12, 13, 14, 19, 20, 21, 22, 26, 27, 28, 29, 30, 31, 32, 45, 46, 47, 48, 49, 50, 51, 52, 53, 54, 55, 56, 57, 58, 59, 60, 61, 62, 63, 64, 77, 78, 79, 80, 81, 82, 83, 84, 85, 86, 87, 88, 89, 90, 91, 92, 93, 94] (by decide +kernel) (by decide +kernel)
set_option maxRecDepth 20000 in
theorem gX9_does_X9_divide : GoodIn wsX9_does (wsV RX9 159 RX9 yX9_divide wsX9_divide) := goodIn_app (goodIn_of _ (by decide +kernel)) ggX9_does_X9_divide
set_option maxRecDepth 20000 in
theorem ggX9_does_X9_strike : GoodIn wsX9_does wsX9_strike := goodIn_r _ [68, 69, 70, 71, 5, 72, 11, 12, 13, 14, 52, 53, 54, 55, 56, 19, 20, 21, 22, 26, 27, 28, 29, 30, 31, 32, 73, 74, 75, 76, 57, 58, 59, 60, 61, 62, 63, 64, 77, 78, 79, 80, 81, 82, 83, 84, 85, 86, 87, 88, 89, 90, 91, 92, 93, 94] (by decide +kernel) (by decide +kernel)
set_option maxRecDepth 20000 in
theorem gX9_does_X9_strike : GoodIn wsX9_does (wsV RX9 162 RX9 yX9_strike wsX9_strike) := goodIn_app (goodIn_of _ (by decide +kernel)) ggX9_does_X9_strike
theorem dX9_does_0 : decode cX9_does 0 = .ok (.aload_n 0, 1) := by decide +kernel
theorem dX9_does_1 : decode cX9_does 1 = .ok (.getfield 34, 3) := by decide +kernel
theorem dX9_does_4 : decode cX9_does 4 = .ok (.iconst 4, 1) := by decide +kernel
theorem dX9_does_5 : decode cX9_does 5 = .ok (.iload_n 1, 1) := by decide +kernel
theorem dX9_does_6 : decode cX9_does 6 = .ok (.imul, 1) := by decide +kernel
theorem dX9_does_7 : decode cX9_does 7 = .ok (.iconst 1, 1) := by decide +kernel
theorem dX9_does_8 : decode cX9_does 8 = .ok (.iadd, 1) := by decide +kernel
theorem dX9_does_9 : decode cX9_does 9 = .ok (.iaload, 1) := by decide +kernel
theorem dX9_does_10 : decode cX9_does 10 = .ok (.istore_n 2, 1) := by decide +kernel
theorem dX9_does_11 : decode cX9_does 11 = .ok (.aload_n 0, 1) := by decide +kernel
theorem dX9_does_12 : decode cX9_does 12 = .ok (.getfield 34, 3) := by decide +kernel
theorem dX9_does_15 : decode cX9_does 15 = .ok (.iconst 4, 1) := by decide +kernel
theorem dX9_does_16 : decode cX9_does 16 = .ok (.iload_n 1, 1) := by decide +kernel
theorem dX9_does_17 : decode cX9_does 17 = .ok (.imul, 1) := by decide +kernel
theorem dX9_does_18 : decode cX9_does 18 = .ok (.iaload, 1) := by decide +kernel
theorem dX9_does_19 : decode cX9_does 19 = .ok (.lookupswitch 37 #[(100, 31), (115, 25)], 25) := by decide +kernel
theorem dX9_does_44 : decode cX9_does 44 = .ok (.aload_n 0, 1) := by decide +kernel
theorem dX9_does_45 : decode cX9_does 45 = .ok (.iload_n 2, 1) := by decide +kernel
theorem dX9_does_46 : decode cX9_does 46 = .ok (.invokevirtual 156, 3) := by decide +kernel
theorem dX9_does_49 : decode cX9_does 49 = .ok (.ireturn, 1) := by decide +kernel
theorem dX9_does_50 : decode cX9_does 50 = .ok (.aload_n 0, 1) := by decide +kernel
theorem dX9_does_51 : decode cX9_does 51 = .ok (.iload_n 2, 1) := by decide +kernel
theorem dX9_does_52 : decode cX9_does 52 = .ok (.invokevirtual 159, 3) := by decide +kernel
theorem dX9_does_55 : decode cX9_does 55 = .ok (.ireturn, 1) := by decide +kernel
theorem dX9_does_56 : decode cX9_does 56 = .ok (.aload_n 0, 1) := by decide +kernel
theorem dX9_does_57 : decode cX9_does 57 = .ok (.iload_n 2, 1) := by decide +kernel
theorem dX9_does_58 : decode cX9_does 58 = .ok (.aload_n 0, 1) := by decide +kernel
theorem dX9_does_59 : decode cX9_does 59 = .ok (.getfield 34, 3) := by decide +kernel
theorem dX9_does_62 : decode cX9_does 62 = .ok (.iconst 4, 1) := by decide +kernel
theorem dX9_does_63 : decode cX9_does 63 = .ok (.iload_n 1, 1) := by decide +kernel
theorem dX9_does_64 : decode cX9_does 64 = .ok (.imul, 1) := by decide +kernel
theorem dX9_does_65 : decode cX9_does 65 = .ok (.iconst 2, 1) := by decide +kernel
theorem dX9_does_66 : decode cX9_does 66 = .ok (.iadd, 1) := by decide +kernel
theorem dX9_does_67 : decode cX9_does 67 = .ok (.iaload, 1) := by decide +kernel
theorem dX9_does_68 : decode cX9_does 68 = .ok (.invokevirtual 162, 3) := by decide +kernel
theorem dX9_does_71 : decode cX9_does 71 = .ok (.ireturn, 1) := by decide +kernel
set_option maxRecDepth 20000 in
theorem ggX9_carryOut_X9_fault : GoodIn wsX9_carryOut wsX9_fault := goodIn_r _ [11, 12, 4, 1, 13, 14, 10, 15, 16, 17, 18, 19, 20, 6, 21, 22, 23, 24, 25, 26, 27, 28, 29, 30, 31, 32, 107, 108, 109, 110, 111, 112, 113, 114, 115, 116, 117, 118, 119, 120, 121, 122, 123, 124] (by decide +kernel) (by decide +kernel)
set_option maxRecDepth 20000 in
theorem gX9_carryOut_X9_fault : GoodIn wsX9_carryOut (wsV RX9 153 RX9 yX9_fault wsX9_fault) := goodIn_app (goodIn_of _ (by decide +kernel)) ggX9_carryOut_X9_fault
set_option maxRecDepth 20000 in
theorem ggX9_carryOut_X9_changes : GoodIn wsX9_carryOut wsX9_changes := goodIn_r _ [36, 2, 37, 38, 39, 107, 108, 109, 110, 111, 112, 113, 114, 115, 116, 117, 118, 119, 120, 121, 122, 123, 124] (by decide +kernel) (by decide +kernel)
set_option maxRecDepth 20000 in
theorem gX9_carryOut_X9_changes : GoodIn wsX9_carryOut (wsV RX9 79 RX9 yX9_changes wsX9_changes) := goodIn_app (goodIn_of _ (by decide +kernel)) ggX9_carryOut_X9_changes
set_option maxRecDepth 20000 in
theorem ggX9_carryOut_X9_does : GoodIn wsX9_carryOut wsX9_does := goodIn_r _ [43, 6, 44, 45, 46, 10, 47, 48, 49, 50, 51, 39, 13, 14, 15, 52, 53, 54, 55, 56, 57, 58, 59, 60, 61, 62, 33, 34, 35, 36, 2, 37, 38, 63, 64, 65, 66, 67, 68, 69, 70, 71, 72, 73, 74, 75, 76, 77, 78, 79, 80, 81, 82, 83, 84, 85, 86, 87, 88, 89, 90, 91, 92, 93, 94, 95, 96, 97, 98, 99, 100, 101, 102, 103, 104, 105, 106, 107, 108, 109, 110, 111, 112, 113, 114, 115, 116, 117, 118, 119, 120, 121, 122, 123, 124] (by decide +kernel) (by decide +kernel)
set_option maxRecDepth 20000 in
theorem gX9_carryOut_X9_does : GoodIn wsX9_carryOut (wsV RX9 168 RX9 yX9_does wsX9_does) := goodIn_app (goodIn_of _ (by decide +kernel)) ggX9_carryOut_X9_does
theorem dX9_carryOut_0 : decode cX9_carryOut 0 = .ok (.aload_n 0, 1) := by decide +kernel
theorem dX9_carryOut_1 : decode cX9_carryOut 1 = .ok (.iconst 1, 1) := by decide +kernel
theorem dX9_carryOut_2 : decode cX9_carryOut 2 = .ok (.invokevirtual 153, 3) := by decide +kernel
theorem dX9_carryOut_5 : decode cX9_carryOut 5 = .ok (.bipush (-4), 2) := by decide +kernel
theorem dX9_carryOut_7 : decode cX9_carryOut 7 = .ok (.if_icmp .eq 6, 3) := by decide +kernel
theorem dX9_carryOut_10 : decode cX9_carryOut 10 = .ok (.bipush (-2), 2) := by decide +kernel
theorem dX9_carryOut_12 : decode cX9_carryOut 12 = .ok (.ireturn, 1) := by decide +kernel
theorem dX9_carryOut_13 : decode cX9_carryOut 13 = .ok (.aload_n 0, 1) := by decide +kernel
theorem dX9_carryOut_14 : decode cX9_carryOut 14 = .ok (.invokevirtual 79, 3) := by decide +kernel
theorem dX9_carryOut_17 : decode cX9_carryOut 17 = .ok (.aload_n 0, 1) := by decide +kernel
theorem dX9_carryOut_18 : decode cX9_carryOut 18 = .ok (.iconst 0, 1) := by decide +kernel
theorem dX9_carryOut_19 : decode cX9_carryOut 19 = .ok (.putfield 132, 3) := by decide +kernel
theorem dX9_carryOut_22 : decode cX9_carryOut 22 = .ok (.aload_n 0, 1) := by decide +kernel
theorem dX9_carryOut_23 : decode cX9_carryOut 23 = .ok (.iconst 1, 1) := by decide +kernel
theorem dX9_carryOut_24 : decode cX9_carryOut 24 = .ok (.putfield 43, 3) := by decide +kernel
theorem dX9_carryOut_27 : decode cX9_carryOut 27 = .ok (.aload_n 0, 1) := by decide +kernel
theorem dX9_carryOut_28 : decode cX9_carryOut 28 = .ok (.iconst 0, 1) := by decide +kernel
theorem dX9_carryOut_29 : decode cX9_carryOut 29 = .ok (.putfield 165, 3) := by decide +kernel
theorem dX9_carryOut_32 : decode cX9_carryOut 32 = .ok (.iconst 0, 1) := by decide +kernel
theorem dX9_carryOut_33 : decode cX9_carryOut 33 = .ok (.istore_n 1, 1) := by decide +kernel
theorem dX9_carryOut_34 : decode cX9_carryOut 34 = .ok (.iload_n 1, 1) := by decide +kernel
theorem dX9_carryOut_35 : decode cX9_carryOut 35 = .ok (.aload_n 0, 1) := by decide +kernel
theorem dX9_carryOut_36 : decode cX9_carryOut 36 = .ok (.getfield 141, 3) := by decide +kernel
theorem dX9_carryOut_39 : decode cX9_carryOut 39 = .ok (.if_icmp .ge 77, 3) := by decide +kernel
theorem dX9_carryOut_42 : decode cX9_carryOut 42 = .ok (.aload_n 0, 1) := by decide +kernel
theorem dX9_carryOut_43 : decode cX9_carryOut 43 = .ok (.getfield 165, 3) := by decide +kernel
theorem dX9_carryOut_46 : decode cX9_carryOut 46 = .ok (.ifCond .ne 70, 3) := by decide +kernel
theorem dX9_carryOut_49 : decode cX9_carryOut 49 = .ok (.aload_n 0, 1) := by decide +kernel
theorem dX9_carryOut_50 : decode cX9_carryOut 50 = .ok (.iload_n 1, 1) := by decide +kernel
theorem dX9_carryOut_51 : decode cX9_carryOut 51 = .ok (.invokevirtual 168, 3) := by decide +kernel
theorem dX9_carryOut_54 : decode cX9_carryOut 54 = .ok (.istore_n 2, 1) := by decide +kernel
theorem dX9_carryOut_55 : decode cX9_carryOut 55 = .ok (.aload_n 0, 1) := by decide +kernel
theorem dX9_carryOut_56 : decode cX9_carryOut 56 = .ok (.iload_n 2, 1) := by decide +kernel
theorem dX9_carryOut_57 : decode cX9_carryOut 57 = .ok (.ifCond .ge 7, 3) := by decide +kernel
theorem dX9_carryOut_60 : decode cX9_carryOut 60 = .ok (.iconst 1, 1) := by decide +kernel
theorem dX9_carryOut_61 : decode cX9_carryOut 61 = .ok (.goto 4, 3) := by decide +kernel
theorem dX9_carryOut_64 : decode cX9_carryOut 64 = .ok (.iconst 0, 1) := by decide +kernel
theorem dX9_carryOut_65 : decode cX9_carryOut 65 = .ok (.putfield 165, 3) := by decide +kernel
theorem dX9_carryOut_68 : decode cX9_carryOut 68 = .ok (.aload_n 0, 1) := by decide +kernel
theorem dX9_carryOut_69 : decode cX9_carryOut 69 = .ok (.getfield 28, 3) := by decide +kernel
theorem dX9_carryOut_72 : decode cX9_carryOut 72 = .ok (.iconst 0, 1) := by decide +kernel
theorem dX9_carryOut_73 : decode cX9_carryOut 73 = .ok (.iload_n 2, 1) := by decide +kernel
theorem dX9_carryOut_74 : decode cX9_carryOut 74 = .ok (.iastore, 1) := by decide +kernel
theorem dX9_carryOut_75 : decode cX9_carryOut 75 = .ok (.aload_n 0, 1) := by decide +kernel
theorem dX9_carryOut_76 : decode cX9_carryOut 76 = .ok (.getfield 28, 3) := by decide +kernel
theorem dX9_carryOut_79 : decode cX9_carryOut 79 = .ok (.iconst 1, 1) := by decide +kernel
theorem dX9_carryOut_80 : decode cX9_carryOut 80 = .ok (.iload_n 1, 1) := by decide +kernel
theorem dX9_carryOut_81 : decode cX9_carryOut 81 = .ok (.iastore, 1) := by decide +kernel
theorem dX9_carryOut_82 : decode cX9_carryOut 82 = .ok (.aload_n 0, 1) := by decide +kernel
theorem dX9_carryOut_83 : decode cX9_carryOut 83 = .ok (.getfield 28, 3) := by decide +kernel
theorem dX9_carryOut_86 : decode cX9_carryOut 86 = .ok (.iconst 2, 1) := by decide +kernel
theorem dX9_carryOut_87 : decode cX9_carryOut 87 = .ok (.aload_n 0, 1) := by decide +kernel
theorem dX9_carryOut_88 : decode cX9_carryOut 88 = .ok (.getfield 34, 3) := by decide +kernel
theorem dX9_carryOut_91 : decode cX9_carryOut 91 = .ok (.iconst 4, 1) := by decide +kernel
theorem dX9_carryOut_92 : decode cX9_carryOut 92 = .ok (.iload_n 1, 1) := by decide +kernel
theorem dX9_carryOut_93 : decode cX9_carryOut 93 = .ok (.imul, 1) := by decide +kernel
theorem dX9_carryOut_94 : decode cX9_carryOut 94 = .ok (.iconst 3, 1) := by decide +kernel
theorem dX9_carryOut_95 : decode cX9_carryOut 95 = .ok (.iadd, 1) := by decide +kernel
theorem dX9_carryOut_96 : decode cX9_carryOut 96 = .ok (.iaload, 1) := by decide +kernel
theorem dX9_carryOut_97 : decode cX9_carryOut 97 = .ok (.iastore, 1) := by decide +kernel
theorem dX9_carryOut_98 : decode cX9_carryOut 98 = .ok (.iload_n 1, 1) := by decide +kernel
theorem dX9_carryOut_99 : decode cX9_carryOut 99 = .ok (.aload_n 0, 1) := by decide +kernel
theorem dX9_carryOut_100 : decode cX9_carryOut 100 = .ok (.getfield 165, 3) := by decide +kernel
theorem dX9_carryOut_103 : decode cX9_carryOut 103 = .ok (.ifCond .eq 7, 3) := by decide +kernel
theorem dX9_carryOut_106 : decode cX9_carryOut 106 = .ok (.iconst 0, 1) := by decide +kernel
theorem dX9_carryOut_107 : decode cX9_carryOut 107 = .ok (.goto 4, 3) := by decide +kernel
theorem dX9_carryOut_110 : decode cX9_carryOut 110 = .ok (.iconst 1, 1) := by decide +kernel
theorem dX9_carryOut_111 : decode cX9_carryOut 111 = .ok (.iadd, 1) := by decide +kernel
theorem dX9_carryOut_112 : decode cX9_carryOut 112 = .ok (.istore_n 1, 1) := by decide +kernel
theorem dX9_carryOut_113 : decode cX9_carryOut 113 = .ok (.goto (-79), 3) := by decide +kernel
theorem dX9_carryOut_116 : decode cX9_carryOut 116 = .ok (.aload_n 0, 1) := by decide +kernel
theorem dX9_carryOut_117 : decode cX9_carryOut 117 = .ok (.iconst 0, 1) := by decide +kernel
theorem dX9_carryOut_118 : decode cX9_carryOut 118 = .ok (.putfield 43, 3) := by decide +kernel
theorem dX9_carryOut_121 : decode cX9_carryOut 121 = .ok (.iload_n 1, 1) := by decide +kernel
theorem dX9_carryOut_122 : decode cX9_carryOut 122 = .ok (.ireturn, 1) := by decide +kernel
set_option maxRecDepth 20000 in
theorem ggX9_why_X9_in : GoodIn wsX9_why wsX9_in := goodIn_r _ [6] (by decide +kernel) (by decide +kernel)
set_option maxRecDepth 20000 in
theorem gX9_why_X9_in : GoodIn wsX9_why (va_wsS RX9 51 yX9_in wsX9_in) := goodIn_app (goodIn_of _ (by decide +kernel)) ggX9_why_X9_in
theorem dX9_why_0 : decode cX9_why 0 = .ok (.iload_n 1, 1) := by decide +kernel
theorem dX9_why_1 : decode cX9_why 1 = .ok (.iconst 0, 1) := by decide +kernel
theorem dX9_why_2 : decode cX9_why 2 = .ok (.iconst 2, 1) := by decide +kernel
theorem dX9_why_3 : decode cX9_why 3 = .ok (.invokestatic 51, 3) := by decide +kernel
theorem dX9_why_6 : decode cX9_why 6 = .ok (.ifCond .ne 7, 3) := by decide +kernel
theorem dX9_why_9 : decode cX9_why 9 = .ok (.iconst (-1), 1) := by decide +kernel
theorem dX9_why_10 : decode cX9_why 10 = .ok (.goto 21, 3) := by decide +kernel
theorem dX9_why_13 : decode cX9_why 13 = .ok (.aload_n 0, 1) := by decide +kernel
theorem dX9_why_14 : decode cX9_why 14 = .ok (.getfield 165, 3) := by decide +kernel
theorem dX9_why_17 : decode cX9_why 17 = .ok (.ifCond .eq 12, 3) := by decide +kernel
theorem dX9_why_20 : decode cX9_why 20 = .ok (.aload_n 0, 1) := by decide +kernel
theorem dX9_why_21 : decode cX9_why 21 = .ok (.getfield 28, 3) := by decide +kernel
theorem dX9_why_24 : decode cX9_why 24 = .ok (.iload_n 1, 1) := by decide +kernel
theorem dX9_why_25 : decode cX9_why 25 = .ok (.iaload, 1) := by decide +kernel
theorem dX9_why_26 : decode cX9_why 26 = .ok (.goto 5, 3) := by decide +kernel
theorem dX9_why_29 : decode cX9_why 29 = .ok (.bipush (-4), 2) := by decide +kernel
theorem dX9_why_31 : decode cX9_why 31 = .ok (.ireturn, 1) := by decide +kernel
set_option maxRecDepth 20000 in
theorem ggX9_ways_X9_areKin : GoodIn wsX9_ways wsX9_areKin := goodIn_r _ [6, 1, 7, 8, 9, 5, 10, 11, 12, 13, 14, 15, 16, 17, 18, 19, 20, 21, 22, 23, 24, 25, 26, 27, 28, 29, 30, 31] (by decide +kernel) (by decide +kernel)
set_option maxRecDepth 20000 in
theorem gX9_ways_X9_areKin : GoodIn wsX9_ways (wsV RX9 66 RX9 yX9_areKin wsX9_areKin) := goodIn_app (goodIn_of _ (by decide +kernel)) ggX9_ways_X9_areKin
theorem dX9_ways_0 : decode cX9_ways 0 = .ok (.iconst 0, 1) := by decide +kernel
theorem dX9_ways_1 : decode cX9_ways 1 = .ok (.istore_n 2, 1) := by decide +kernel
theorem dX9_ways_2 : decode cX9_ways 2 = .ok (.iload_n 1, 1) := by decide +kernel
theorem dX9_ways_3 : decode cX9_ways 3 = .ok (.iconst 1, 1) := by decide +kernel
theorem dX9_ways_4 : decode cX9_ways 4 = .ok (.iadd, 1) := by decide +kernel
theorem dX9_ways_5 : decode cX9_ways 5 = .ok (.istore_n 3, 1) := by decide +kernel
theorem dX9_ways_6 : decode cX9_ways 6 = .ok (.iload_n 3, 1) := by decide +kernel
theorem dX9_ways_7 : decode cX9_ways 7 = .ok (.aload_n 0, 1) := by decide +kernel
theorem dX9_ways_8 : decode cX9_ways 8 = .ok (.getfield 7, 3) := by decide +kernel
theorem dX9_ways_11 : decode cX9_ways 11 = .ok (.iconst 2, 1) := by decide +kernel
theorem dX9_ways_12 : decode cX9_ways 12 = .ok (.iaload, 1) := by decide +kernel
theorem dX9_ways_13 : decode cX9_ways 13 = .ok (.if_icmp .ge 38, 3) := by decide +kernel
theorem dX9_ways_16 : decode cX9_ways 16 = .ok (.iload_n 3, 1) := by decide +kernel
theorem dX9_ways_17 : decode cX9_ways 17 = .ok (.iload_n 1, 1) := by decide +kernel
theorem dX9_ways_18 : decode cX9_ways 18 = .ok (.aload_n 0, 1) := by decide +kernel
theorem dX9_ways_19 : decode cX9_ways 19 = .ok (.getfield 7, 3) := by decide +kernel
theorem dX9_ways_22 : decode cX9_ways 22 = .ok (.iconst 1, 1) := by decide +kernel
theorem dX9_ways_23 : decode cX9_ways 23 = .ok (.iaload, 1) := by decide +kernel
theorem dX9_ways_24 : decode cX9_ways 24 = .ok (.iadd, 1) := by decide +kernel
theorem dX9_ways_25 : decode cX9_ways 25 = .ok (.if_icmp .gt 26, 3) := by decide +kernel
theorem dX9_ways_28 : decode cX9_ways 28 = .ok (.iload_n 2, 1) := by decide +kernel
theorem dX9_ways_29 : decode cX9_ways 29 = .ok (.aload_n 0, 1) := by decide +kernel
theorem dX9_ways_30 : decode cX9_ways 30 = .ok (.iload_n 1, 1) := by decide +kernel
theorem dX9_ways_31 : decode cX9_ways 31 = .ok (.iload_n 3, 1) := by decide +kernel
theorem dX9_ways_32 : decode cX9_ways 32 = .ok (.invokevirtual 66, 3) := by decide +kernel
theorem dX9_ways_35 : decode cX9_ways 35 = .ok (.ifCond .eq 7, 3) := by decide +kernel
theorem dX9_ways_38 : decode cX9_ways 38 = .ok (.iconst 1, 1) := by decide +kernel
theorem dX9_ways_39 : decode cX9_ways 39 = .ok (.goto 4, 3) := by decide +kernel
theorem dX9_ways_42 : decode cX9_ways 42 = .ok (.iconst 0, 1) := by decide +kernel
theorem dX9_ways_43 : decode cX9_ways 43 = .ok (.iadd, 1) := by decide +kernel
theorem dX9_ways_44 : decode cX9_ways 44 = .ok (.istore_n 2, 1) := by decide +kernel
theorem dX9_ways_45 : decode cX9_ways 45 = .ok (.iinc 3 1, 3) := by decide +kernel
theorem dX9_ways_48 : decode cX9_ways 48 = .ok (.goto (-42), 3) := by decide +kernel
theorem dX9_ways_51 : decode cX9_ways 51 = .ok (.iload_n 2, 1) := by decide +kernel
theorem dX9_ways_52 : decode cX9_ways 52 = .ok (.ireturn, 1) := by decide +kernel
set_option maxRecDepth 20000 in
theorem ggX9_step_X9_isStep : GoodIn wsX9_step wsX9_isStep := goodIn_r _ [6, 7, 8, 9, 5, 10, 47, 48, 49, 50, 51, 52, 53, 54, 55, 56, 57, 58, 59, 60, 61, 62, 63, 64] (by decide +kernel) (by decide +kernel)
set_option maxRecDepth 20000 in
theorem gX9_step_X9_isStep : GoodIn wsX9_step (wsV RX9 86 RX9 yX9_isStep wsX9_isStep) := goodIn_app (goodIn_of _ (by decide +kernel)) ggX9_step_X9_isStep
set_option maxRecDepth 20000 in
theorem ggX9_step_X9_in : GoodIn wsX9_step wsX9_in := goodIn_r _ [10] (by decide +kernel) (by decide +kernel)
set_option maxRecDepth 20000 in
theorem gX9_step_X9_in : GoodIn wsX9_step (va_wsS RX9 51 yX9_in wsX9_in) := goodIn_app (goodIn_of _ (by decide +kernel)) ggX9_step_X9_in
set_option maxRecDepth 20000 in
theorem ggX9_step_X9_joins : GoodIn wsX9_step wsX9_joins := goodIn_r _ [14, 1, 7, 15, 16, 17, 5, 18, 19, 20, 21, 22, 23, 24, 25, 47, 48, 49, 50, 51, 52, 53, 54, 55, 56, 57, 58, 59, 60, 61, 62, 63, 64] (by decide +kernel) (by decide +kernel)
set_option maxRecDepth 20000 in
theorem gX9_step_X9_joins : GoodIn wsX9_step (wsV RX9 73 RX9 yX9_joins wsX9_joins) := goodIn_app (goodIn_of _ (by decide +kernel)) ggX9_step_X9_joins
set_option maxRecDepth 20000 in
theorem ggX9_step_X9_of : GoodIn wsX9_step wsX9_of := goodIn_r _ [22, 7, 47, 48, 49, 50, 51, 52, 53, 54, 55, 56, 57, 58, 59, 60, 61, 62, 63, 64] (by decide +kernel) (by decide +kernel)
set_option maxRecDepth 20000 in
theorem gX9_step_X9_of : GoodIn wsX9_step (wsV RX9 59 RX9 yX9_of wsX9_of) := goodIn_app (goodIn_of _ (by decide +kernel)) ggX9_step_X9_of
set_option maxRecDepth 20000 in
theorem ggX9_step_X9_kinOf : GoodIn wsX9_step wsX9_kinOf := goodIn_r _ [29, 7, 15, 16, 17, 5, 18, 19, 20, 21, 22, 23, 24, 25, 47, 48, 49, 50, 51, 52, 53, 54, 55, 56, 57, 58, 59, 60, 61, 62, 63, 64] (by decide +kernel) (by decide +kernel)
set_option maxRecDepth 20000 in
theorem gX9_step_X9_kinOf : GoodIn wsX9_step (wsV RX9 70 RX9 yX9_kinOf wsX9_kinOf) := goodIn_app (goodIn_of _ (by decide +kernel)) ggX9_step_X9_kinOf
set_option maxRecDepth 20000 in
theorem ggX9_step_X9_sizeOf : GoodIn wsX9_step wsX9_sizeOf := goodIn_r _ [33, 7, 1, 47, 48, 49, 50, 51, 52, 53, 54, 55, 56, 57, 58, 59, 60, 61, 62, 63, 64] (by decide +kernel) (by decide +kernel)
set_option maxRecDepth 20000 in
theorem gX9_step_X9_sizeOf : GoodIn wsX9_step (wsV RX9 76 RX9 yX9_sizeOf wsX9_sizeOf) := goodIn_app (goodIn_of _ (by decide +kernel)) ggX9_step_X9_sizeOf
set_option maxRecDepth 20000 in
theorem ggX9_step_X9_factors : GoodIn wsX9_step wsX9_factors := goodIn_r _ [36, 37, 38, 5, 39] (by decide +kernel) (by decide +kernel)
set_option maxRecDepth 20000 in
theorem gX9_step_X9_factors : GoodIn wsX9_step (va_wsS RX9 171 yX9_factors wsX9_factors) := goodIn_app (goodIn_of _ (by decide +kernel)) ggX9_step_X9_factors
set_option maxRecDepth 20000 in
theorem ggX9_step_X9_factorOf : GoodIn wsX9_step wsX9_factorOf := goodIn_r _ [42, 37, 38, 5, 39] (by decide +kernel) (by decide +kernel)
set_option maxRecDepth 20000 in
theorem gX9_step_X9_factorOf : GoodIn wsX9_step (va_wsS RX9 175 yX9_factorOf wsX9_factorOf) := goodIn_app (goodIn_of _ (by decide +kernel)) ggX9_step_X9_factorOf
set_option maxRecDepth 20000 in
theorem ggX9_step_X9_ways : GoodIn wsX9_step wsX9_ways := goodIn_r _ [46, 7, 15, 16, 17, 5, 18, 19, 20, 21, 22, 23, 24, 25, 47, 48, 49, 50, 51, 52, 53, 54, 55, 56, 57, 58, 59, 60, 61, 62, 63, 64] (by decide +kernel) (by decide +kernel)
set_option maxRecDepth 20000 in
theorem gX9_step_X9_ways : GoodIn wsX9_step (wsV RX9 178 RX9 yX9_ways wsX9_ways) := goodIn_app (goodIn_of _ (by decide +kernel)) ggX9_step_X9_ways
theorem dX9_step_0 : decode cX9_step 0 = .ok (.aload_n 0, 1) := by decide +kernel
theorem dX9_step_1 : decode cX9_step 1 = .ok (.iload_n 1, 1) := by decide +kernel
theorem dX9_step_2 : decode cX9_step 2 = .ok (.invokevirtual 86, 3) := by decide +kernel
theorem dX9_step_5 : decode cX9_step 5 = .ok (.ifCond .eq 13, 3) := by decide +kernel
theorem dX9_step_8 : decode cX9_step 8 = .ok (.iload_n 2, 1) := by decide +kernel
theorem dX9_step_9 : decode cX9_step 9 = .ok (.iconst 0, 1) := by decide +kernel
theorem dX9_step_10 : decode cX9_step 10 = .ok (.bipush 7, 2) := by decide +kernel
theorem dX9_step_12 : decode cX9_step 12 = .ok (.invokestatic 51, 3) := by decide +kernel
theorem dX9_step_15 : decode cX9_step 15 = .ok (.ifCond .ne 5, 3) := by decide +kernel
theorem dX9_step_18 : decode cX9_step 18 = .ok (.iconst (-1), 1) := by decide +kernel
theorem dX9_step_19 : decode cX9_step 19 = .ok (.ireturn, 1) := by decide +kernel
theorem dX9_step_20 : decode cX9_step 20 = .ok (.aload_n 0, 1) := by decide +kernel
theorem dX9_step_21 : decode cX9_step 21 = .ok (.invokevirtual 73, 3) := by decide +kernel
theorem dX9_step_24 : decode cX9_step 24 = .ok (.aload_n 0, 1) := by decide +kernel
theorem dX9_step_25 : decode cX9_step 25 = .ok (.iload_n 1, 1) := by decide +kernel
theorem dX9_step_26 : decode cX9_step 26 = .ok (.invokevirtual 59, 3) := by decide +kernel
theorem dX9_step_29 : decode cX9_step 29 = .ok (.istore_n 3, 1) := by decide +kernel
theorem dX9_step_30 : decode cX9_step 30 = .ok (.iload_n 2, 1) := by decide +kernel
theorem dX9_step_31 : decode cX9_step 31 = .ok (.tableswitch 91 0 6 #[41, 43, 49, 56, 67, 73, 79], 41) := by decide +kernel
theorem dX9_step_72 : decode cX9_step 72 = .ok (.iload_n 3, 1) := by decide +kernel
theorem dX9_step_73 : decode cX9_step 73 = .ok (.ireturn, 1) := by decide +kernel
theorem dX9_step_74 : decode cX9_step 74 = .ok (.aload_n 0, 1) := by decide +kernel
theorem dX9_step_75 : decode cX9_step 75 = .ok (.iload_n 1, 1) := by decide +kernel
theorem dX9_step_76 : decode cX9_step 76 = .ok (.invokevirtual 70, 3) := by decide +kernel
theorem dX9_step_79 : decode cX9_step 79 = .ok (.ireturn, 1) := by decide +kernel
theorem dX9_step_80 : decode cX9_step 80 = .ok (.aload_n 0, 1) := by decide +kernel
theorem dX9_step_81 : decode cX9_step 81 = .ok (.getfield 31, 3) := by decide +kernel
theorem dX9_step_84 : decode cX9_step 84 = .ok (.iload_n 1, 1) := by decide +kernel
theorem dX9_step_85 : decode cX9_step 85 = .ok (.iaload, 1) := by decide +kernel
theorem dX9_step_86 : decode cX9_step 86 = .ok (.ireturn, 1) := by decide +kernel
theorem dX9_step_87 : decode cX9_step 87 = .ok (.aload_n 0, 1) := by decide +kernel
theorem dX9_step_88 : decode cX9_step 88 = .ok (.aload_n 0, 1) := by decide +kernel
theorem dX9_step_89 : decode cX9_step 89 = .ok (.getfield 31, 3) := by decide +kernel
theorem dX9_step_92 : decode cX9_step 92 = .ok (.iload_n 1, 1) := by decide +kernel
theorem dX9_step_93 : decode cX9_step 93 = .ok (.iaload, 1) := by decide +kernel
theorem dX9_step_94 : decode cX9_step 94 = .ok (.invokevirtual 76, 3) := by decide +kernel
theorem dX9_step_97 : decode cX9_step 97 = .ok (.ireturn, 1) := by decide +kernel
theorem dX9_step_98 : decode cX9_step 98 = .ok (.iload_n 3, 1) := by decide +kernel
theorem dX9_step_99 : decode cX9_step 99 = .ok (.iconst 1, 1) := by decide +kernel
theorem dX9_step_100 : decode cX9_step 100 = .ok (.invokestatic 171, 3) := by decide +kernel
theorem dX9_step_103 : decode cX9_step 103 = .ok (.ireturn, 1) := by decide +kernel
theorem dX9_step_104 : decode cX9_step 104 = .ok (.iload_n 3, 1) := by decide +kernel
theorem dX9_step_105 : decode cX9_step 105 = .ok (.iconst 0, 1) := by decide +kernel
theorem dX9_step_106 : decode cX9_step 106 = .ok (.invokestatic 171, 3) := by decide +kernel
theorem dX9_step_109 : decode cX9_step 109 = .ok (.ireturn, 1) := by decide +kernel
theorem dX9_step_110 : decode cX9_step 110 = .ok (.iload_n 3, 1) := by decide +kernel
theorem dX9_step_111 : decode cX9_step 111 = .ok (.iload_n 3, 1) := by decide +kernel
theorem dX9_step_112 : decode cX9_step 112 = .ok (.iconst 1, 1) := by decide +kernel
theorem dX9_step_113 : decode cX9_step 113 = .ok (.invokestatic 171, 3) := by decide +kernel
theorem dX9_step_116 : decode cX9_step 116 = .ok (.iconst 1, 1) := by decide +kernel
theorem dX9_step_117 : decode cX9_step 117 = .ok (.isub, 1) := by decide +kernel
theorem dX9_step_118 : decode cX9_step 118 = .ok (.invokestatic 175, 3) := by decide +kernel
theorem dX9_step_121 : decode cX9_step 121 = .ok (.ireturn, 1) := by decide +kernel
theorem dX9_step_122 : decode cX9_step 122 = .ok (.aload_n 0, 1) := by decide +kernel
theorem dX9_step_123 : decode cX9_step 123 = .ok (.iload_n 1, 1) := by decide +kernel
theorem dX9_step_124 : decode cX9_step 124 = .ok (.invokevirtual 178, 3) := by decide +kernel
theorem dX9_step_127 : decode cX9_step 127 = .ok (.ireturn, 1) := by decide +kernel
set_option maxRecDepth 20000 in
theorem ggX9_factor_X9_isStep : GoodIn wsX9_factor wsX9_isStep := goodIn_r _ [5, 6, 7, 8, 4, 9, 20, 21, 22, 23, 24, 25, 26, 27, 28, 29, 30, 31, 32, 33, 34, 35, 36, 37] (by decide +kernel) (by decide +kernel)
set_option maxRecDepth 20000 in
theorem gX9_factor_X9_isStep : GoodIn wsX9_factor (wsV RX9 86 RX9 yX9_isStep wsX9_isStep) := goodIn_app (goodIn_of _ (by decide +kernel)) ggX9_factor_X9_isStep
set_option maxRecDepth 20000 in
theorem ggX9_factor_X9_of : GoodIn wsX9_factor wsX9_of := goodIn_r _ [13, 6, 20, 21, 22, 23, 24, 25, 26, 27, 28, 29, 30, 31, 32, 33, 34, 35, 36, 37] (by decide +kernel) (by decide +kernel)
set_option maxRecDepth 20000 in
theorem gX9_factor_X9_of : GoodIn wsX9_factor (wsV RX9 59 RX9 yX9_of wsX9_of) := goodIn_app (goodIn_of _ (by decide +kernel)) ggX9_factor_X9_of
set_option maxRecDepth 20000 in
theorem ggX9_factor_X9_factorOf : GoodIn wsX9_factor wsX9_factorOf := goodIn_r _ [16, 17, 18, 4, 19] (by decide +kernel) (by decide +kernel)
set_option maxRecDepth 20000 in
theorem gX9_factor_X9_factorOf : GoodIn wsX9_factor (va_wsS RX9 175 yX9_factorOf wsX9_factorOf) := goodIn_app (goodIn_of _ (by decide +kernel)) ggX9_factor_X9_factorOf
theorem dX9_factor_0 : decode cX9_factor 0 = .ok (.aload_n 0, 1) := by decide +kernel
theorem dX9_factor_1 : decode cX9_factor 1 = .ok (.iload_n 1, 1) := by decide +kernel
theorem dX9_factor_2 : decode cX9_factor 2 = .ok (.invokevirtual 86, 3) := by decide +kernel
theorem dX9_factor_5 : decode cX9_factor 5 = .ok (.ifCond .eq 19, 3) := by decide +kernel
theorem dX9_factor_8 : decode cX9_factor 8 = .ok (.iload_n 2, 1) := by decide +kernel
theorem dX9_factor_9 : decode cX9_factor 9 = .ok (.ifCond .lt 15, 3) := by decide +kernel
theorem dX9_factor_12 : decode cX9_factor 12 = .ok (.aload_n 0, 1) := by decide +kernel
theorem dX9_factor_13 : decode cX9_factor 13 = .ok (.iload_n 1, 1) := by decide +kernel
theorem dX9_factor_14 : decode cX9_factor 14 = .ok (.invokevirtual 59, 3) := by decide +kernel
theorem dX9_factor_17 : decode cX9_factor 17 = .ok (.iload_n 2, 1) := by decide +kernel
theorem dX9_factor_18 : decode cX9_factor 18 = .ok (.invokestatic 175, 3) := by decide +kernel
theorem dX9_factor_21 : decode cX9_factor 21 = .ok (.goto 4, 3) := by decide +kernel
theorem dX9_factor_24 : decode cX9_factor 24 = .ok (.iconst (-1), 1) := by decide +kernel
theorem dX9_factor_25 : decode cX9_factor 25 = .ok (.ireturn, 1) := by decide +kernel
set_option maxRecDepth 20000 in
theorem ggX9_commonFactors_X9_leastFactor : GoodIn wsX9_commonFactors wsX9_leastFactor := goodIn_r _ [4] (by decide +kernel) (by decide +kernel)
set_option maxRecDepth 20000 in
theorem gX9_commonFactors_X9_leastFactor : GoodIn wsX9_commonFactors (va_wsS RX9 55 yX9_leastFactor wsX9_leastFactor) := goodIn_app (goodIn_of _ (by decide +kernel)) ggX9_commonFactors_X9_leastFactor
theorem dX9_commonFactors_0 : decode cX9_commonFactors 0 = .ok (.iload_n 0, 1) := by decide +kernel
theorem dX9_commonFactors_1 : decode cX9_commonFactors 1 = .ok (.istore_n 2, 1) := by decide +kernel
theorem dX9_commonFactors_2 : decode cX9_commonFactors 2 = .ok (.iload_n 1, 1) := by decide +kernel
theorem dX9_commonFactors_3 : decode cX9_commonFactors 3 = .ok (.istore_n 3, 1) := by decide +kernel
theorem dX9_commonFactors_4 : decode cX9_commonFactors 4 = .ok (.iconst 1, 1) := by decide +kernel
theorem dX9_commonFactors_5 : decode cX9_commonFactors 5 = .ok (.istore 4, 2) := by decide +kernel
theorem dX9_commonFactors_7 : decode cX9_commonFactors 7 = .ok (.iload_n 2, 1) := by decide +kernel
theorem dX9_commonFactors_8 : decode cX9_commonFactors 8 = .ok (.iconst 1, 1) := by decide +kernel
theorem dX9_commonFactors_9 : decode cX9_commonFactors 9 = .ok (.if_icmp .le 51, 3) := by decide +kernel
theorem dX9_commonFactors_12 : decode cX9_commonFactors 12 = .ok (.iload_n 2, 1) := by decide +kernel
theorem dX9_commonFactors_13 : decode cX9_commonFactors 13 = .ok (.invokestatic 55, 3) := by decide +kernel
theorem dX9_commonFactors_16 : decode cX9_commonFactors 16 = .ok (.istore 5, 2) := by decide +kernel
theorem dX9_commonFactors_18 : decode cX9_commonFactors 18 = .ok (.iload 4, 2) := by decide +kernel
theorem dX9_commonFactors_20 : decode cX9_commonFactors 20 = .ok (.iload_n 3, 1) := by decide +kernel
theorem dX9_commonFactors_21 : decode cX9_commonFactors 21 = .ok (.iload 5, 2) := by decide +kernel
theorem dX9_commonFactors_23 : decode cX9_commonFactors 23 = .ok (.irem, 1) := by decide +kernel
theorem dX9_commonFactors_24 : decode cX9_commonFactors 24 = .ok (.ifCond .ne 8, 3) := by decide +kernel
theorem dX9_commonFactors_27 : decode cX9_commonFactors 27 = .ok (.iload 5, 2) := by decide +kernel
theorem dX9_commonFactors_29 : decode cX9_commonFactors 29 = .ok (.goto 4, 3) := by decide +kernel
theorem dX9_commonFactors_32 : decode cX9_commonFactors 32 = .ok (.iconst 1, 1) := by decide +kernel
theorem dX9_commonFactors_33 : decode cX9_commonFactors 33 = .ok (.imul, 1) := by decide +kernel
theorem dX9_commonFactors_34 : decode cX9_commonFactors 34 = .ok (.istore 4, 2) := by decide +kernel
theorem dX9_commonFactors_36 : decode cX9_commonFactors 36 = .ok (.iload_n 3, 1) := by decide +kernel
theorem dX9_commonFactors_37 : decode cX9_commonFactors 37 = .ok (.iload 5, 2) := by decide +kernel
theorem dX9_commonFactors_39 : decode cX9_commonFactors 39 = .ok (.irem, 1) := by decide +kernel
theorem dX9_commonFactors_40 : decode cX9_commonFactors 40 = .ok (.ifCond .ne 10, 3) := by decide +kernel
theorem dX9_commonFactors_43 : decode cX9_commonFactors 43 = .ok (.iload_n 3, 1) := by decide +kernel
theorem dX9_commonFactors_44 : decode cX9_commonFactors 44 = .ok (.iload 5, 2) := by decide +kernel
theorem dX9_commonFactors_46 : decode cX9_commonFactors 46 = .ok (.idiv, 1) := by decide +kernel
theorem dX9_commonFactors_47 : decode cX9_commonFactors 47 = .ok (.goto 4, 3) := by decide +kernel
theorem dX9_commonFactors_50 : decode cX9_commonFactors 50 = .ok (.iload_n 3, 1) := by decide +kernel
theorem dX9_commonFactors_51 : decode cX9_commonFactors 51 = .ok (.istore_n 3, 1) := by decide +kernel
theorem dX9_commonFactors_52 : decode cX9_commonFactors 52 = .ok (.iload_n 2, 1) := by decide +kernel
theorem dX9_commonFactors_53 : decode cX9_commonFactors 53 = .ok (.iload 5, 2) := by decide +kernel
theorem dX9_commonFactors_55 : decode cX9_commonFactors 55 = .ok (.idiv, 1) := by decide +kernel
theorem dX9_commonFactors_56 : decode cX9_commonFactors 56 = .ok (.istore_n 2, 1) := by decide +kernel
theorem dX9_commonFactors_57 : decode cX9_commonFactors 57 = .ok (.goto (-50), 3) := by decide +kernel
theorem dX9_commonFactors_60 : decode cX9_commonFactors 60 = .ok (.iload 4, 2) := by decide +kernel
theorem dX9_commonFactors_62 : decode cX9_commonFactors 62 = .ok (.ireturn, 1) := by decide +kernel
set_option maxRecDepth 20000 in
theorem ggX9_common_X9_isStep : GoodIn wsX9_common wsX9_isStep := goodIn_r _ [5, 6, 7, 8, 4, 9, 23, 24, 25, 26, 27, 28, 29, 30, 31, 32, 33, 34, 35, 36, 37, 38, 39, 40] (by decide +kernel) (by decide +kernel)
set_option maxRecDepth 20000 in
theorem gX9_common_X9_isStep : GoodIn wsX9_common (wsV RX9 86 RX9 yX9_isStep wsX9_isStep) := goodIn_app (goodIn_of _ (by decide +kernel)) ggX9_common_X9_isStep
set_option maxRecDepth 20000 in
theorem ggX9_common_X9_in : GoodIn wsX9_common wsX9_in := goodIn_r _ [9] (by decide +kernel) (by decide +kernel)
set_option maxRecDepth 20000 in
theorem gX9_common_X9_in : GoodIn wsX9_common (va_wsS RX9 51 yX9_in wsX9_in) := goodIn_app (goodIn_of _ (by decide +kernel)) ggX9_common_X9_in
set_option maxRecDepth 20000 in
theorem ggX9_common_X9_of : GoodIn wsX9_common wsX9_of := goodIn_r _ [13, 6, 23, 24, 25, 26, 27, 28, 29, 30, 31, 32, 33, 34, 35, 36, 37, 38, 39, 40] (by decide +kernel) (by decide +kernel)
set_option maxRecDepth 20000 in
theorem gX9_common_X9_of : GoodIn wsX9_common (wsV RX9 59 RX9 yX9_of wsX9_of) := goodIn_app (goodIn_of _ (by decide +kernel)) ggX9_common_X9_of
set_option maxRecDepth 20000 in
theorem ggX9_common_X9_divisor : GoodIn wsX9_common wsX9_divisor := goodIn_r _ [16] (by decide +kernel) (by decide +kernel)
set_option maxRecDepth 20000 in
theorem gX9_common_X9_divisor : GoodIn wsX9_common (va_wsS RX9 62 yX9_divisor wsX9_divisor) := goodIn_app (goodIn_of _ (by decide +kernel)) ggX9_common_X9_divisor
set_option maxRecDepth 20000 in
theorem ggX9_common_X9_commonFactors : GoodIn wsX9_common wsX9_commonFactors := goodIn_r _ [19, 20, 21, 4, 22] (by decide +kernel) (by decide +kernel)
set_option maxRecDepth 20000 in
theorem gX9_common_X9_commonFactors : GoodIn wsX9_common (va_wsS RX9 181 yX9_commonFactors wsX9_commonFactors) := goodIn_app (goodIn_of _ (by decide +kernel)) ggX9_common_X9_commonFactors
theorem dX9_common_0 : decode cX9_common 0 = .ok (.aload_n 0, 1) := by decide +kernel
theorem dX9_common_1 : decode cX9_common 1 = .ok (.iload_n 1, 1) := by decide +kernel
theorem dX9_common_2 : decode cX9_common 2 = .ok (.invokevirtual 86, 3) := by decide +kernel
theorem dX9_common_5 : decode cX9_common 5 = .ok (.ifCond .eq 20, 3) := by decide +kernel
theorem dX9_common_8 : decode cX9_common 8 = .ok (.aload_n 0, 1) := by decide +kernel
theorem dX9_common_9 : decode cX9_common 9 = .ok (.iload_n 2, 1) := by decide +kernel
theorem dX9_common_10 : decode cX9_common 10 = .ok (.invokevirtual 86, 3) := by decide +kernel
theorem dX9_common_13 : decode cX9_common 13 = .ok (.ifCond .eq 12, 3) := by decide +kernel
theorem dX9_common_16 : decode cX9_common 16 = .ok (.iload_n 3, 1) := by decide +kernel
theorem dX9_common_17 : decode cX9_common 17 = .ok (.iconst 0, 1) := by decide +kernel
theorem dX9_common_18 : decode cX9_common 18 = .ok (.iconst 1, 1) := by decide +kernel
theorem dX9_common_19 : decode cX9_common 19 = .ok (.invokestatic 51, 3) := by decide +kernel
theorem dX9_common_22 : decode cX9_common 22 = .ok (.ifCond .ne 5, 3) := by decide +kernel
theorem dX9_common_25 : decode cX9_common 25 = .ok (.iconst (-1), 1) := by decide +kernel
theorem dX9_common_26 : decode cX9_common 26 = .ok (.ireturn, 1) := by decide +kernel
theorem dX9_common_27 : decode cX9_common 27 = .ok (.iload_n 3, 1) := by decide +kernel
theorem dX9_common_28 : decode cX9_common 28 = .ok (.ifCond .ne 19, 3) := by decide +kernel
theorem dX9_common_31 : decode cX9_common 31 = .ok (.aload_n 0, 1) := by decide +kernel
theorem dX9_common_32 : decode cX9_common 32 = .ok (.iload_n 1, 1) := by decide +kernel
theorem dX9_common_33 : decode cX9_common 33 = .ok (.invokevirtual 59, 3) := by decide +kernel
theorem dX9_common_36 : decode cX9_common 36 = .ok (.aload_n 0, 1) := by decide +kernel
theorem dX9_common_37 : decode cX9_common 37 = .ok (.iload_n 2, 1) := by decide +kernel
theorem dX9_common_38 : decode cX9_common 38 = .ok (.invokevirtual 59, 3) := by decide +kernel
theorem dX9_common_41 : decode cX9_common 41 = .ok (.invokestatic 62, 3) := by decide +kernel
theorem dX9_common_44 : decode cX9_common 44 = .ok (.goto 16, 3) := by decide +kernel
theorem dX9_common_47 : decode cX9_common 47 = .ok (.aload_n 0, 1) := by decide +kernel
theorem dX9_common_48 : decode cX9_common 48 = .ok (.iload_n 1, 1) := by decide +kernel
theorem dX9_common_49 : decode cX9_common 49 = .ok (.invokevirtual 59, 3) := by decide +kernel
theorem dX9_common_52 : decode cX9_common 52 = .ok (.aload_n 0, 1) := by decide +kernel
theorem dX9_common_53 : decode cX9_common 53 = .ok (.iload_n 2, 1) := by decide +kernel
theorem dX9_common_54 : decode cX9_common 54 = .ok (.invokevirtual 59, 3) := by decide +kernel
theorem dX9_common_57 : decode cX9_common 57 = .ok (.invokestatic 181, 3) := by decide +kernel
theorem dX9_common_60 : decode cX9_common 60 = .ok (.ireturn, 1) := by decide +kernel
set_option maxRecDepth 20000 in
theorem ggX9_canGo_X9_areKin : GoodIn wsX9_canGo wsX9_areKin := goodIn_r _ [6, 1, 7, 8, 9, 5, 10, 11, 12, 13, 14, 15, 16, 17, 18, 19, 20, 21, 22, 23, 24, 25, 26, 27, 28, 29, 30, 31] (by decide +kernel) (by decide +kernel)
set_option maxRecDepth 20000 in
theorem gX9_canGo_X9_areKin : GoodIn wsX9_canGo (wsV RX9 66 RX9 yX9_areKin wsX9_areKin) := goodIn_app (goodIn_of _ (by decide +kernel)) ggX9_canGo_X9_areKin
theorem dX9_canGo_0 : decode cX9_canGo 0 = .ok (.iload_n 2, 1) := by decide +kernel
theorem dX9_canGo_1 : decode cX9_canGo 1 = .ok (.iload_n 1, 1) := by decide +kernel
theorem dX9_canGo_2 : decode cX9_canGo 2 = .ok (.if_icmp .le 28, 3) := by decide +kernel
theorem dX9_canGo_5 : decode cX9_canGo 5 = .ok (.iload_n 2, 1) := by decide +kernel
theorem dX9_canGo_6 : decode cX9_canGo 6 = .ok (.iload_n 1, 1) := by decide +kernel
theorem dX9_canGo_7 : decode cX9_canGo 7 = .ok (.isub, 1) := by decide +kernel
theorem dX9_canGo_8 : decode cX9_canGo 8 = .ok (.aload_n 0, 1) := by decide +kernel
theorem dX9_canGo_9 : decode cX9_canGo 9 = .ok (.getfield 7, 3) := by decide +kernel
theorem dX9_canGo_12 : decode cX9_canGo 12 = .ok (.iconst 1, 1) := by decide +kernel
theorem dX9_canGo_13 : decode cX9_canGo 13 = .ok (.iaload, 1) := by decide +kernel
theorem dX9_canGo_14 : decode cX9_canGo 14 = .ok (.if_icmp .gt 16, 3) := by decide +kernel
theorem dX9_canGo_17 : decode cX9_canGo 17 = .ok (.aload_n 0, 1) := by decide +kernel
theorem dX9_canGo_18 : decode cX9_canGo 18 = .ok (.iload_n 1, 1) := by decide +kernel
theorem dX9_canGo_19 : decode cX9_canGo 19 = .ok (.iload_n 2, 1) := by decide +kernel
theorem dX9_canGo_20 : decode cX9_canGo 20 = .ok (.invokevirtual 66, 3) := by decide +kernel
theorem dX9_canGo_23 : decode cX9_canGo 23 = .ok (.ifCond .eq 7, 3) := by decide +kernel
theorem dX9_canGo_26 : decode cX9_canGo 26 = .ok (.iconst 1, 1) := by decide +kernel
theorem dX9_canGo_27 : decode cX9_canGo 27 = .ok (.goto 4, 3) := by decide +kernel
theorem dX9_canGo_30 : decode cX9_canGo 30 = .ok (.iconst 0, 1) := by decide +kernel
theorem dX9_canGo_31 : decode cX9_canGo 31 = .ok (.ireturn, 1) := by decide +kernel
set_option maxRecDepth 20000 in
theorem ggX9_whyNot_X9_isStep : GoodIn wsX9_whyNot wsX9_isStep := goodIn_r _ [6, 1, 7, 8, 5, 9, 21, 22, 23, 24, 25, 26, 27, 28, 29, 30, 31, 32, 33, 34, 35, 36, 37, 38] (by decide +kernel) (by decide +kernel)
set_option maxRecDepth 20000 in
theorem gX9_whyNot_X9_isStep : GoodIn wsX9_whyNot (wsV RX9 86 RX9 yX9_isStep wsX9_isStep) := goodIn_app (goodIn_of _ (by decide +kernel)) ggX9_whyNot_X9_isStep
set_option maxRecDepth 20000 in
theorem ggX9_whyNot_X9_areKin : GoodIn wsX9_whyNot wsX9_areKin := goodIn_r _ [13, 1, 14, 15, 16, 5, 17, 18, 19, 20, 21, 22, 23, 24, 25, 26, 27, 28, 29, 30, 31, 32, 33, 34, 35, 36, 37, 38] (by decide +kernel) (by decide +kernel)
set_option maxRecDepth 20000 in
theorem gX9_whyNot_X9_areKin : GoodIn wsX9_whyNot (wsV RX9 66 RX9 yX9_areKin wsX9_areKin) := goodIn_app (goodIn_of _ (by decide +kernel)) ggX9_whyNot_X9_areKin
theorem dX9_whyNot_0 : decode cX9_whyNot 0 = .ok (.aload_n 0, 1) := by decide +kernel
theorem dX9_whyNot_1 : decode cX9_whyNot 1 = .ok (.iload_n 1, 1) := by decide +kernel
theorem dX9_whyNot_2 : decode cX9_whyNot 2 = .ok (.invokevirtual 86, 3) := by decide +kernel
theorem dX9_whyNot_5 : decode cX9_whyNot 5 = .ok (.ifCond .eq 11, 3) := by decide +kernel
theorem dX9_whyNot_8 : decode cX9_whyNot 8 = .ok (.aload_n 0, 1) := by decide +kernel
theorem dX9_whyNot_9 : decode cX9_whyNot 9 = .ok (.iload_n 2, 1) := by decide +kernel
theorem dX9_whyNot_10 : decode cX9_whyNot 10 = .ok (.invokevirtual 86, 3) := by decide +kernel
theorem dX9_whyNot_13 : decode cX9_whyNot 13 = .ok (.ifCond .ne 5, 3) := by decide +kernel
theorem dX9_whyNot_16 : decode cX9_whyNot 16 = .ok (.iconst (-1), 1) := by decide +kernel
theorem dX9_whyNot_17 : decode cX9_whyNot 17 = .ok (.ireturn, 1) := by decide +kernel
theorem dX9_whyNot_18 : decode cX9_whyNot 18 = .ok (.iload_n 2, 1) := by decide +kernel
theorem dX9_whyNot_19 : decode cX9_whyNot 19 = .ok (.iload_n 1, 1) := by decide +kernel
theorem dX9_whyNot_20 : decode cX9_whyNot 20 = .ok (.if_icmp .gt 7, 3) := by decide +kernel
theorem dX9_whyNot_23 : decode cX9_whyNot 23 = .ok (.iconst 1, 1) := by decide +kernel
theorem dX9_whyNot_24 : decode cX9_whyNot 24 = .ok (.goto 33, 3) := by decide +kernel
theorem dX9_whyNot_27 : decode cX9_whyNot 27 = .ok (.iload_n 2, 1) := by decide +kernel
theorem dX9_whyNot_28 : decode cX9_whyNot 28 = .ok (.iload_n 1, 1) := by decide +kernel
theorem dX9_whyNot_29 : decode cX9_whyNot 29 = .ok (.isub, 1) := by decide +kernel
theorem dX9_whyNot_30 : decode cX9_whyNot 30 = .ok (.aload_n 0, 1) := by decide +kernel
theorem dX9_whyNot_31 : decode cX9_whyNot 31 = .ok (.getfield 7, 3) := by decide +kernel
theorem dX9_whyNot_34 : decode cX9_whyNot 34 = .ok (.iconst 1, 1) := by decide +kernel
theorem dX9_whyNot_35 : decode cX9_whyNot 35 = .ok (.iaload, 1) := by decide +kernel
theorem dX9_whyNot_36 : decode cX9_whyNot 36 = .ok (.if_icmp .le 7, 3) := by decide +kernel
theorem dX9_whyNot_39 : decode cX9_whyNot 39 = .ok (.iconst 2, 1) := by decide +kernel
theorem dX9_whyNot_40 : decode cX9_whyNot 40 = .ok (.goto 17, 3) := by decide +kernel
theorem dX9_whyNot_43 : decode cX9_whyNot 43 = .ok (.aload_n 0, 1) := by decide +kernel
theorem dX9_whyNot_44 : decode cX9_whyNot 44 = .ok (.iload_n 1, 1) := by decide +kernel
theorem dX9_whyNot_45 : decode cX9_whyNot 45 = .ok (.iload_n 2, 1) := by decide +kernel
theorem dX9_whyNot_46 : decode cX9_whyNot 46 = .ok (.invokevirtual 66, 3) := by decide +kernel
theorem dX9_whyNot_49 : decode cX9_whyNot 49 = .ok (.ifCond .eq 7, 3) := by decide +kernel
theorem dX9_whyNot_52 : decode cX9_whyNot 52 = .ok (.iconst 0, 1) := by decide +kernel
theorem dX9_whyNot_53 : decode cX9_whyNot 53 = .ok (.goto 4, 3) := by decide +kernel
theorem dX9_whyNot_56 : decode cX9_whyNot 56 = .ok (.iconst 3, 1) := by decide +kernel
theorem dX9_whyNot_57 : decode cX9_whyNot 57 = .ok (.ireturn, 1) := by decide +kernel
set_option maxRecDepth 20000 in
theorem ggX9_areEnds_X9_isStep : GoodIn wsX9_areEnds wsX9_isStep := goodIn_r _ [5, 6, 7, 8, 4, 9, 10, 11, 12, 13, 14, 15, 16, 17, 18, 19, 20, 21, 22, 23, 24, 25, 26, 27] (by decide +kernel) (by decide +kernel)
set_option maxRecDepth 20000 in
theorem gX9_areEnds_X9_isStep : GoodIn wsX9_areEnds (wsV RX9 86 RX9 yX9_isStep wsX9_isStep) := goodIn_app (goodIn_of _ (by decide +kernel)) ggX9_areEnds_X9_isStep
theorem dX9_areEnds_0 : decode cX9_areEnds 0 = .ok (.aload_n 0, 1) := by decide +kernel
theorem dX9_areEnds_1 : decode cX9_areEnds 1 = .ok (.iload_n 1, 1) := by decide +kernel
theorem dX9_areEnds_2 : decode cX9_areEnds 2 = .ok (.invokevirtual 86, 3) := by decide +kernel
theorem dX9_areEnds_5 : decode cX9_areEnds 5 = .ok (.ifCond .eq 20, 3) := by decide +kernel
theorem dX9_areEnds_8 : decode cX9_areEnds 8 = .ok (.aload_n 0, 1) := by decide +kernel
theorem dX9_areEnds_9 : decode cX9_areEnds 9 = .ok (.iload_n 2, 1) := by decide +kernel
theorem dX9_areEnds_10 : decode cX9_areEnds 10 = .ok (.invokevirtual 86, 3) := by decide +kernel
theorem dX9_areEnds_13 : decode cX9_areEnds 13 = .ok (.ifCond .eq 12, 3) := by decide +kernel
theorem dX9_areEnds_16 : decode cX9_areEnds 16 = .ok (.iload_n 1, 1) := by decide +kernel
theorem dX9_areEnds_17 : decode cX9_areEnds 17 = .ok (.iload_n 2, 1) := by decide +kernel
theorem dX9_areEnds_18 : decode cX9_areEnds 18 = .ok (.if_icmp .gt 7, 3) := by decide +kernel
theorem dX9_areEnds_21 : decode cX9_areEnds 21 = .ok (.iconst 1, 1) := by decide +kernel
theorem dX9_areEnds_22 : decode cX9_areEnds 22 = .ok (.goto 4, 3) := by decide +kernel
theorem dX9_areEnds_25 : decode cX9_areEnds 25 = .ok (.iconst 0, 1) := by decide +kernel
theorem dX9_areEnds_26 : decode cX9_areEnds 26 = .ok (.ireturn, 1) := by decide +kernel
set_option maxRecDepth 20000 in
theorem ggX9_added_X9_canGo : GoodIn wsX9_added wsX9_canGo := goodIn_r _ [6, 7, 8, 9, 10, 5, 11, 12, 13, 14, 15, 16, 17, 18, 19, 20, 21, 22, 23, 24, 25, 26, 27, 28, 29, 30, 31, 32, 33, 34, 35, 36] (by decide +kernel) (by decide +kernel)
set_option maxRecDepth 20000 in
theorem gX9_added_X9_canGo : GoodIn wsX9_added (wsV RX9 184 RX9 yX9_canGo wsX9_canGo) := goodIn_app (goodIn_of _ (by decide +kernel)) ggX9_added_X9_canGo
theorem dX9_added_0 : decode cX9_added 0 = .ok (.iload_n 1, 1) := by decide +kernel
theorem dX9_added_1 : decode cX9_added 1 = .ok (.istore_n 3, 1) := by decide +kernel
theorem dX9_added_2 : decode cX9_added 2 = .ok (.iload_n 3, 1) := by decide +kernel
theorem dX9_added_3 : decode cX9_added 3 = .ok (.iload_n 2, 1) := by decide +kernel
theorem dX9_added_4 : decode cX9_added 4 = .ok (.if_icmp .gt 70, 3) := by decide +kernel
theorem dX9_added_7 : decode cX9_added 7 = .ok (.aload_n 0, 1) := by decide +kernel
theorem dX9_added_8 : decode cX9_added 8 = .ok (.getfield 37, 3) := by decide +kernel
theorem dX9_added_11 : decode cX9_added 11 = .ok (.iload_n 3, 1) := by decide +kernel
theorem dX9_added_12 : decode cX9_added 12 = .ok (.iload_n 3, 1) := by decide +kernel
theorem dX9_added_13 : decode cX9_added 13 = .ok (.iload_n 1, 1) := by decide +kernel
theorem dX9_added_14 : decode cX9_added 14 = .ok (.if_icmp .ne 7, 3) := by decide +kernel
theorem dX9_added_17 : decode cX9_added 17 = .ok (.iconst 1, 1) := by decide +kernel
theorem dX9_added_18 : decode cX9_added 18 = .ok (.goto 4, 3) := by decide +kernel
theorem dX9_added_21 : decode cX9_added 21 = .ok (.iconst 0, 1) := by decide +kernel
theorem dX9_added_22 : decode cX9_added 22 = .ok (.iastore, 1) := by decide +kernel
theorem dX9_added_23 : decode cX9_added 23 = .ok (.iload_n 1, 1) := by decide +kernel
theorem dX9_added_24 : decode cX9_added 24 = .ok (.istore 4, 2) := by decide +kernel
theorem dX9_added_26 : decode cX9_added 26 = .ok (.iload 4, 2) := by decide +kernel
theorem dX9_added_28 : decode cX9_added 28 = .ok (.iload_n 3, 1) := by decide +kernel
theorem dX9_added_29 : decode cX9_added 29 = .ok (.if_icmp .ge 39, 3) := by decide +kernel
theorem dX9_added_32 : decode cX9_added 32 = .ok (.aload_n 0, 1) := by decide +kernel
theorem dX9_added_33 : decode cX9_added 33 = .ok (.getfield 37, 3) := by decide +kernel
theorem dX9_added_36 : decode cX9_added 36 = .ok (.iload_n 3, 1) := by decide +kernel
theorem dX9_added_37 : decode cX9_added 37 = .ok (.dup2, 1) := by decide +kernel
theorem dX9_added_38 : decode cX9_added 38 = .ok (.iaload, 1) := by decide +kernel
theorem dX9_added_39 : decode cX9_added 39 = .ok (.aload_n 0, 1) := by decide +kernel
theorem dX9_added_40 : decode cX9_added 40 = .ok (.iload 4, 2) := by decide +kernel
theorem dX9_added_42 : decode cX9_added 42 = .ok (.iload_n 3, 1) := by decide +kernel
theorem dX9_added_43 : decode cX9_added 43 = .ok (.invokevirtual 184, 3) := by decide +kernel
theorem dX9_added_46 : decode cX9_added 46 = .ok (.ifCond .eq 13, 3) := by decide +kernel
theorem dX9_added_49 : decode cX9_added 49 = .ok (.aload_n 0, 1) := by decide +kernel
theorem dX9_added_50 : decode cX9_added 50 = .ok (.getfield 37, 3) := by decide +kernel
theorem dX9_added_53 : decode cX9_added 53 = .ok (.iload 4, 2) := by decide +kernel
theorem dX9_added_55 : decode cX9_added 55 = .ok (.iaload, 1) := by decide +kernel
theorem dX9_added_56 : decode cX9_added 56 = .ok (.goto 4, 3) := by decide +kernel
theorem dX9_added_59 : decode cX9_added 59 = .ok (.iconst 0, 1) := by decide +kernel
theorem dX9_added_60 : decode cX9_added 60 = .ok (.iadd, 1) := by decide +kernel
theorem dX9_added_61 : decode cX9_added 61 = .ok (.iastore, 1) := by decide +kernel
theorem dX9_added_62 : decode cX9_added 62 = .ok (.iinc 4 1, 3) := by decide +kernel
theorem dX9_added_65 : decode cX9_added 65 = .ok (.goto (-39), 3) := by decide +kernel
theorem dX9_added_68 : decode cX9_added 68 = .ok (.iinc 3 1, 3) := by decide +kernel
theorem dX9_added_71 : decode cX9_added 71 = .ok (.goto (-69), 3) := by decide +kernel
theorem dX9_added_74 : decode cX9_added 74 = .ok (.aload_n 0, 1) := by decide +kernel
theorem dX9_added_75 : decode cX9_added 75 = .ok (.getfield 37, 3) := by decide +kernel
theorem dX9_added_78 : decode cX9_added 78 = .ok (.iload_n 2, 1) := by decide +kernel
theorem dX9_added_79 : decode cX9_added 79 = .ok (.iaload, 1) := by decide +kernel
theorem dX9_added_80 : decode cX9_added 80 = .ok (.ireturn, 1) := by decide +kernel
set_option maxRecDepth 20000 in
theorem ggX9_gone_X9_canGo : GoodIn wsX9_gone wsX9_canGo := goodIn_r _ [7, 8, 9, 10, 11, 6, 12, 13, 14, 15, 16, 17, 18, 19, 20, 21, 22, 23, 24, 25, 26, 27, 28, 29, 30, 31, 32, 33, 34, 35, 36, 37] (by decide +kernel) (by decide +kernel)
set_option maxRecDepth 20000 in
theorem gX9_gone_X9_canGo : GoodIn wsX9_gone (wsV RX9 184 RX9 yX9_canGo wsX9_canGo) := goodIn_app (goodIn_of _ (by decide +kernel)) ggX9_gone_X9_canGo
theorem dX9_gone_0 : decode cX9_gone 0 = .ok (.iconst 0, 1) := by decide +kernel
theorem dX9_gone_1 : decode cX9_gone 1 = .ok (.istore_n 3, 1) := by decide +kernel
theorem dX9_gone_2 : decode cX9_gone 2 = .ok (.iconst 1, 1) := by decide +kernel
theorem dX9_gone_3 : decode cX9_gone 3 = .ok (.istore 4, 2) := by decide +kernel
theorem dX9_gone_5 : decode cX9_gone 5 = .ok (.aload_n 0, 1) := by decide +kernel
theorem dX9_gone_6 : decode cX9_gone 6 = .ok (.getfield 37, 3) := by decide +kernel
theorem dX9_gone_9 : decode cX9_gone 9 = .ok (.iconst 0, 1) := by decide +kernel
theorem dX9_gone_10 : decode cX9_gone 10 = .ok (.iload_n 1, 1) := by decide +kernel
theorem dX9_gone_11 : decode cX9_gone 11 = .ok (.iastore, 1) := by decide +kernel
theorem dX9_gone_12 : decode cX9_gone 12 = .ok (.aload_n 0, 1) := by decide +kernel
theorem dX9_gone_13 : decode cX9_gone 13 = .ok (.getfield 40, 3) := by decide +kernel
theorem dX9_gone_16 : decode cX9_gone 16 = .ok (.iconst 0, 1) := by decide +kernel
theorem dX9_gone_17 : decode cX9_gone 17 = .ok (.iload_n 1, 1) := by decide +kernel
theorem dX9_gone_18 : decode cX9_gone 18 = .ok (.iconst 1, 1) := by decide +kernel
theorem dX9_gone_19 : decode cX9_gone 19 = .ok (.iadd, 1) := by decide +kernel
theorem dX9_gone_20 : decode cX9_gone 20 = .ok (.iastore, 1) := by decide +kernel
theorem dX9_gone_21 : decode cX9_gone 21 = .ok (.iload 4, 2) := by decide +kernel
theorem dX9_gone_23 : decode cX9_gone 23 = .ok (.ifCond .le 107, 3) := by decide +kernel
theorem dX9_gone_26 : decode cX9_gone 26 = .ok (.aload_n 0, 1) := by decide +kernel
theorem dX9_gone_27 : decode cX9_gone 27 = .ok (.getfield 37, 3) := by decide +kernel
theorem dX9_gone_30 : decode cX9_gone 30 = .ok (.iload 4, 2) := by decide +kernel
theorem dX9_gone_32 : decode cX9_gone 32 = .ok (.iconst 1, 1) := by decide +kernel
theorem dX9_gone_33 : decode cX9_gone 33 = .ok (.isub, 1) := by decide +kernel
theorem dX9_gone_34 : decode cX9_gone 34 = .ok (.iaload, 1) := by decide +kernel
theorem dX9_gone_35 : decode cX9_gone 35 = .ok (.istore 5, 2) := by decide +kernel
theorem dX9_gone_37 : decode cX9_gone 37 = .ok (.aload_n 0, 1) := by decide +kernel
theorem dX9_gone_38 : decode cX9_gone 38 = .ok (.getfield 40, 3) := by decide +kernel
theorem dX9_gone_41 : decode cX9_gone 41 = .ok (.iload 4, 2) := by decide +kernel
theorem dX9_gone_43 : decode cX9_gone 43 = .ok (.iconst 1, 1) := by decide +kernel
theorem dX9_gone_44 : decode cX9_gone 44 = .ok (.isub, 1) := by decide +kernel
theorem dX9_gone_45 : decode cX9_gone 45 = .ok (.iaload, 1) := by decide +kernel
theorem dX9_gone_46 : decode cX9_gone 46 = .ok (.istore 6, 2) := by decide +kernel
theorem dX9_gone_48 : decode cX9_gone 48 = .ok (.iload 5, 2) := by decide +kernel
theorem dX9_gone_50 : decode cX9_gone 50 = .ok (.iload_n 2, 1) := by decide +kernel
theorem dX9_gone_51 : decode cX9_gone 51 = .ok (.if_icmp .eq 9, 3) := by decide +kernel
theorem dX9_gone_54 : decode cX9_gone 54 = .ok (.iload 6, 2) := by decide +kernel
theorem dX9_gone_56 : decode cX9_gone 56 = .ok (.iload_n 2, 1) := by decide +kernel
theorem dX9_gone_57 : decode cX9_gone 57 = .ok (.if_icmp .le 23, 3) := by decide +kernel
theorem dX9_gone_60 : decode cX9_gone 60 = .ok (.iload_n 3, 1) := by decide +kernel
theorem dX9_gone_61 : decode cX9_gone 61 = .ok (.iload 5, 2) := by decide +kernel
theorem dX9_gone_63 : decode cX9_gone 63 = .ok (.iload_n 2, 1) := by decide +kernel
theorem dX9_gone_64 : decode cX9_gone 64 = .ok (.if_icmp .ne 7, 3) := by decide +kernel
theorem dX9_gone_67 : decode cX9_gone 67 = .ok (.iconst 1, 1) := by decide +kernel
theorem dX9_gone_68 : decode cX9_gone 68 = .ok (.goto 4, 3) := by decide +kernel
theorem dX9_gone_71 : decode cX9_gone 71 = .ok (.iconst 0, 1) := by decide +kernel
theorem dX9_gone_72 : decode cX9_gone 72 = .ok (.iadd, 1) := by decide +kernel
theorem dX9_gone_73 : decode cX9_gone 73 = .ok (.istore_n 3, 1) := by decide +kernel
theorem dX9_gone_74 : decode cX9_gone 74 = .ok (.iinc 4 (-1), 3) := by decide +kernel
theorem dX9_gone_77 : decode cX9_gone 77 = .ok (.goto 50, 3) := by decide +kernel
theorem dX9_gone_80 : decode cX9_gone 80 = .ok (.aload_n 0, 1) := by decide +kernel
theorem dX9_gone_81 : decode cX9_gone 81 = .ok (.getfield 40, 3) := by decide +kernel
theorem dX9_gone_84 : decode cX9_gone 84 = .ok (.iload 4, 2) := by decide +kernel
theorem dX9_gone_86 : decode cX9_gone 86 = .ok (.iconst 1, 1) := by decide +kernel
theorem dX9_gone_87 : decode cX9_gone 87 = .ok (.isub, 1) := by decide +kernel
theorem dX9_gone_88 : decode cX9_gone 88 = .ok (.dup2, 1) := by decide +kernel
theorem dX9_gone_89 : decode cX9_gone 89 = .ok (.iaload, 1) := by decide +kernel
theorem dX9_gone_90 : decode cX9_gone 90 = .ok (.iconst 1, 1) := by decide +kernel
theorem dX9_gone_91 : decode cX9_gone 91 = .ok (.iadd, 1) := by decide +kernel
theorem dX9_gone_92 : decode cX9_gone 92 = .ok (.iastore, 1) := by decide +kernel
theorem dX9_gone_93 : decode cX9_gone 93 = .ok (.aload_n 0, 1) := by decide +kernel
theorem dX9_gone_94 : decode cX9_gone 94 = .ok (.iload 5, 2) := by decide +kernel
theorem dX9_gone_96 : decode cX9_gone 96 = .ok (.iload 6, 2) := by decide +kernel
theorem dX9_gone_98 : decode cX9_gone 98 = .ok (.invokevirtual 184, 3) := by decide +kernel
theorem dX9_gone_101 : decode cX9_gone 101 = .ok (.ifCond .eq 26, 3) := by decide +kernel
theorem dX9_gone_104 : decode cX9_gone 104 = .ok (.aload_n 0, 1) := by decide +kernel
theorem dX9_gone_105 : decode cX9_gone 105 = .ok (.getfield 37, 3) := by decide +kernel
theorem dX9_gone_108 : decode cX9_gone 108 = .ok (.iload 4, 2) := by decide +kernel
theorem dX9_gone_110 : decode cX9_gone 110 = .ok (.iload 6, 2) := by decide +kernel
theorem dX9_gone_112 : decode cX9_gone 112 = .ok (.iastore, 1) := by decide +kernel
theorem dX9_gone_113 : decode cX9_gone 113 = .ok (.aload_n 0, 1) := by decide +kernel
theorem dX9_gone_114 : decode cX9_gone 114 = .ok (.getfield 40, 3) := by decide +kernel
theorem dX9_gone_117 : decode cX9_gone 117 = .ok (.iload 4, 2) := by decide +kernel
theorem dX9_gone_119 : decode cX9_gone 119 = .ok (.iload 6, 2) := by decide +kernel
