theorem dX0_init_0 : decode cX0_init 0 = .ok (.aload_n 0, 1) := by decide +kernel
theorem dX0_init_1 : decode cX0_init 1 = .ok (.invokespecial 3, 3) := by decide +kernel
theorem dX0_init_4 : decode cX0_init 4 = .ok (.aload_n 0, 1) := by decide +kernel
theorem dX0_init_5 : decode cX0_init 5 = .ok (.bipush 16, 2) := by decide +kernel
theorem dX0_init_7 : decode cX0_init 7 = .ok (.newarray .int, 2) := by decide +kernel
theorem dX0_init_9 : decode cX0_init 9 = .ok (.putfield 9, 3) := by decide +kernel
theorem dX0_init_12 : decode cX0_init 12 = .ok (.aload_n 0, 1) := by decide +kernel
theorem dX0_init_13 : decode cX0_init 13 = .ok (.bipush 16, 2) := by decide +kernel
theorem dX0_init_15 : decode cX0_init 15 = .ok (.newarray .int, 2) := by decide +kernel
theorem dX0_init_17 : decode cX0_init 17 = .ok (.putfield 15, 3) := by decide +kernel
theorem dX0_init_20 : decode cX0_init 20 = .ok (.aload_n 0, 1) := by decide +kernel
theorem dX0_init_21 : decode cX0_init 21 = .ok (.bipush 16, 2) := by decide +kernel
theorem dX0_init_23 : decode cX0_init 23 = .ok (.newarray .int, 2) := by decide +kernel
theorem dX0_init_25 : decode cX0_init 25 = .ok (.putfield 18, 3) := by decide +kernel
theorem dX0_init_28 : decode cX0_init 28 = .ok (.return_, 1) := by decide +kernel
set_option maxRecDepth 20000 in
theorem ggX0_copyFrom_X0_makeRoom : GoodIn wsX0_copyFrom wsX0_makeRoom := goodIn_r _ [9, 2, 10, 11, 12, 13, 14, 15, 16, 3, 4, 17, 18, 19, 20, 21, 31, 32, 33, 34] (by decide +kernel) (by decide +kernel)
set_option maxRecDepth 20000 in
theorem gX0_copyFrom_X0_makeRoom : GoodIn wsX0_copyFrom (wsV RX0 25 RX0 yX0_makeRoom wsX0_makeRoom) := goodIn_app (goodIn_of _ (by decide +kernel)) ggX0_copyFrom_X0_makeRoom
set_option maxRecDepth 20000 in
theorem ggX0_copyFrom_X5_copy : GoodIn wsX0_copyFrom wsX5_copy := goodIn_r _ [24, 25, 26, 19, 27, 28, 29, 30] (by decide +kernel) (by decide +kernel)
set_option maxRecDepth 20000 in
theorem gX0_copyFrom_X5_copy : GoodIn wsX0_copyFrom (va_wsS RX0 29 yX5_copy wsX5_copy) := goodIn_app (goodIn_of _ (by decide +kernel)) ggX0_copyFrom_X5_copy
theorem dX0_copyFrom_0 : decode cX0_copyFrom 0 = .ok (.aload_n 0, 1) := by decide +kernel
theorem dX0_copyFrom_1 : decode cX0_copyFrom 1 = .ok (.aload_n 1, 1) := by decide +kernel
theorem dX0_copyFrom_2 : decode cX0_copyFrom 2 = .ok (.getfield 21, 3) := by decide +kernel
theorem dX0_copyFrom_5 : decode cX0_copyFrom 5 = .ok (.invokevirtual 25, 3) := by decide +kernel
theorem dX0_copyFrom_8 : decode cX0_copyFrom 8 = .ok (.aload_n 0, 1) := by decide +kernel
theorem dX0_copyFrom_9 : decode cX0_copyFrom 9 = .ok (.aload_n 1, 1) := by decide +kernel
theorem dX0_copyFrom_10 : decode cX0_copyFrom 10 = .ok (.getfield 21, 3) := by decide +kernel
theorem dX0_copyFrom_13 : decode cX0_copyFrom 13 = .ok (.putfield 21, 3) := by decide +kernel
theorem dX0_copyFrom_16 : decode cX0_copyFrom 16 = .ok (.aload_n 1, 1) := by decide +kernel
theorem dX0_copyFrom_17 : decode cX0_copyFrom 17 = .ok (.getfield 9, 3) := by decide +kernel
theorem dX0_copyFrom_20 : decode cX0_copyFrom 20 = .ok (.aload_n 0, 1) := by decide +kernel
theorem dX0_copyFrom_21 : decode cX0_copyFrom 21 = .ok (.getfield 9, 3) := by decide +kernel
theorem dX0_copyFrom_24 : decode cX0_copyFrom 24 = .ok (.aload_n 0, 1) := by decide +kernel
theorem dX0_copyFrom_25 : decode cX0_copyFrom 25 = .ok (.getfield 21, 3) := by decide +kernel
theorem dX0_copyFrom_28 : decode cX0_copyFrom 28 = .ok (.invokestatic 29, 3) := by decide +kernel
theorem dX0_copyFrom_31 : decode cX0_copyFrom 31 = .ok (.aload_n 1, 1) := by decide +kernel
theorem dX0_copyFrom_32 : decode cX0_copyFrom 32 = .ok (.getfield 15, 3) := by decide +kernel
theorem dX0_copyFrom_35 : decode cX0_copyFrom 35 = .ok (.aload_n 0, 1) := by decide +kernel
theorem dX0_copyFrom_36 : decode cX0_copyFrom 36 = .ok (.getfield 15, 3) := by decide +kernel
theorem dX0_copyFrom_39 : decode cX0_copyFrom 39 = .ok (.aload_n 0, 1) := by decide +kernel
theorem dX0_copyFrom_40 : decode cX0_copyFrom 40 = .ok (.getfield 21, 3) := by decide +kernel
theorem dX0_copyFrom_43 : decode cX0_copyFrom 43 = .ok (.invokestatic 29, 3) := by decide +kernel
theorem dX0_copyFrom_46 : decode cX0_copyFrom 46 = .ok (.aload_n 1, 1) := by decide +kernel
theorem dX0_copyFrom_47 : decode cX0_copyFrom 47 = .ok (.getfield 18, 3) := by decide +kernel
theorem dX0_copyFrom_50 : decode cX0_copyFrom 50 = .ok (.aload_n 0, 1) := by decide +kernel
theorem dX0_copyFrom_51 : decode cX0_copyFrom 51 = .ok (.getfield 18, 3) := by decide +kernel
theorem dX0_copyFrom_54 : decode cX0_copyFrom 54 = .ok (.aload_n 0, 1) := by decide +kernel
theorem dX0_copyFrom_55 : decode cX0_copyFrom 55 = .ok (.getfield 21, 3) := by decide +kernel
theorem dX0_copyFrom_58 : decode cX0_copyFrom 58 = .ok (.invokestatic 29, 3) := by decide +kernel
theorem dX0_copyFrom_61 : decode cX0_copyFrom 61 = .ok (.return_, 1) := by decide +kernel
set_option maxRecDepth 20000 in
theorem ggX0_book_X0_makeRoom : GoodIn wsX0_book wsX0_makeRoom := goodIn_r _ [8, 9, 10, 11, 12, 13, 14, 15, 16, 2, 3, 17, 18, 19, 20, 21, 46, 47, 48, 49] (by decide +kernel) (by decide +kernel)
set_option maxRecDepth 20000 in
theorem gX0_book_X0_makeRoom : GoodIn wsX0_book (wsV RX0 25 RX0 yX0_makeRoom wsX0_makeRoom) := goodIn_app (goodIn_of _ (by decide +kernel)) ggX0_book_X0_makeRoom
set_option maxRecDepth 20000 in
theorem ggX0_book_X7_leastPrime : GoodIn wsX0_book wsX7_leastPrime := goodIn_r _ [25, 26, 27, 24, 28] (by decide +kernel) (by decide +kernel)
set_option maxRecDepth 20000 in
theorem gX0_book_X7_leastPrime : GoodIn wsX0_book (va_wsS RX0 35 yX7_leastPrime wsX7_leastPrime) := goodIn_app (goodIn_of _ (by decide +kernel)) ggX0_book_X7_leastPrime
set_option maxRecDepth 20000 in
theorem ggX0_book_X0_placeOf : GoodIn wsX0_book wsX0_placeOf := goodIn_r _ [32, 1, 9, 33, 34, 19, 35, 46, 47, 48, 49] (by decide +kernel) (by decide +kernel)
set_option maxRecDepth 20000 in
theorem gX0_book_X0_placeOf : GoodIn wsX0_book (wsV RX0 41 RX0 yX0_placeOf wsX0_placeOf) := goodIn_app (goodIn_of _ (by decide +kernel)) ggX0_book_X0_placeOf
set_option maxRecDepth 20000 in
theorem ggX0_book_X0_openPlace : GoodIn wsX0_book wsX0_openPlace := goodIn_r _ [39, 1, 9, 2, 3, 40, 41, 19, 42, 46, 47, 48, 49] (by decide +kernel) (by decide +kernel)
set_option maxRecDepth 20000 in
theorem gX0_book_X0_openPlace : GoodIn wsX0_book (wsV RX0 44 RX0 yX0_openPlace wsX0_openPlace) := goodIn_app (goodIn_of _ (by decide +kernel)) ggX0_book_X0_openPlace
set_option maxRecDepth 20000 in
theorem ggX0_book_X5_at : GoodIn wsX0_book wsX5_at := goodIn_r _ [35] (by decide +kernel) (by decide +kernel)
set_option maxRecDepth 20000 in
theorem gX0_book_X5_at : GoodIn wsX0_book (va_wsS RX0 47 yX5_at wsX5_at) := goodIn_app (goodIn_of _ (by decide +kernel)) ggX0_book_X5_at
set_option maxRecDepth 20000 in
theorem ggX0_book_X5_put : GoodIn wsX0_book wsX5_put := goodIn_r _ [42] (by decide +kernel) (by decide +kernel)
set_option maxRecDepth 20000 in
theorem gX0_book_X5_put : GoodIn wsX0_book (va_wsS RX0 51 yX5_put wsX5_put) := goodIn_app (goodIn_of _ (by decide +kernel)) ggX0_book_X5_put
set_option maxRecDepth 20000 in
theorem ggX0_book_X7_quotient : GoodIn wsX0_book wsX7_quotient := goodIn_r _ [45] (by decide +kernel) (by decide +kernel)
set_option maxRecDepth 20000 in
theorem gX0_book_X7_quotient : GoodIn wsX0_book (va_wsS RX0 55 yX7_quotient wsX7_quotient) := goodIn_app (goodIn_of _ (by decide +kernel)) ggX0_book_X7_quotient
theorem dX0_book_0 : decode cX0_book 0 = .ok (.aload_n 0, 1) := by decide +kernel
theorem dX0_book_1 : decode cX0_book 1 = .ok (.aload_n 0, 1) := by decide +kernel
theorem dX0_book_2 : decode cX0_book 2 = .ok (.getfield 21, 3) := by decide +kernel
theorem dX0_book_5 : decode cX0_book 5 = .ok (.iconst 5, 1) := by decide +kernel
theorem dX0_book_6 : decode cX0_book 6 = .ok (.iadd, 1) := by decide +kernel
theorem dX0_book_7 : decode cX0_book 7 = .ok (.invokevirtual 25, 3) := by decide +kernel
theorem dX0_book_10 : decode cX0_book 10 = .ok (.iload_n 1, 1) := by decide +kernel
theorem dX0_book_11 : decode cX0_book 11 = .ok (.istore 4, 2) := by decide +kernel
theorem dX0_book_13 : decode cX0_book 13 = .ok (.iconst 0, 1) := by decide +kernel
theorem dX0_book_14 : decode cX0_book 14 = .ok (.istore 5, 2) := by decide +kernel
theorem dX0_book_16 : decode cX0_book 16 = .ok (.iload 5, 2) := by decide +kernel
theorem dX0_book_18 : decode cX0_book 18 = .ok (.bipush 13, 2) := by decide +kernel
theorem dX0_book_20 : decode cX0_book 20 = .ok (.if_icmp .ge 93, 3) := by decide +kernel
theorem dX0_book_23 : decode cX0_book 23 = .ok (.iload 4, 2) := by decide +kernel
theorem dX0_book_25 : decode cX0_book 25 = .ok (.iconst 1, 1) := by decide +kernel
theorem dX0_book_26 : decode cX0_book 26 = .ok (.if_icmp .le 87, 3) := by decide +kernel
theorem dX0_book_29 : decode cX0_book 29 = .ok (.iload 4, 2) := by decide +kernel
theorem dX0_book_31 : decode cX0_book 31 = .ok (.invokestatic 35, 3) := by decide +kernel
theorem dX0_book_34 : decode cX0_book 34 = .ok (.istore 6, 2) := by decide +kernel
theorem dX0_book_36 : decode cX0_book 36 = .ok (.aload_n 0, 1) := by decide +kernel
theorem dX0_book_37 : decode cX0_book 37 = .ok (.iload 6, 2) := by decide +kernel
theorem dX0_book_39 : decode cX0_book 39 = .ok (.invokevirtual 41, 3) := by decide +kernel
theorem dX0_book_42 : decode cX0_book 42 = .ok (.istore 7, 2) := by decide +kernel
theorem dX0_book_44 : decode cX0_book 44 = .ok (.iload 7, 2) := by decide +kernel
theorem dX0_book_46 : decode cX0_book 46 = .ok (.iconst (-1), 1) := by decide +kernel
theorem dX0_book_47 : decode cX0_book 47 = .ok (.if_icmp .ne 11, 3) := by decide +kernel
theorem dX0_book_50 : decode cX0_book 50 = .ok (.aload_n 0, 1) := by decide +kernel
theorem dX0_book_51 : decode cX0_book 51 = .ok (.iload 6, 2) := by decide +kernel
theorem dX0_book_53 : decode cX0_book 53 = .ok (.invokevirtual 44, 3) := by decide +kernel
theorem dX0_book_56 : decode cX0_book 56 = .ok (.istore 7, 2) := by decide +kernel
theorem dX0_book_58 : decode cX0_book 58 = .ok (.aload_n 0, 1) := by decide +kernel
theorem dX0_book_59 : decode cX0_book 59 = .ok (.getfield 15, 3) := by decide +kernel
theorem dX0_book_62 : decode cX0_book 62 = .ok (.iload 7, 2) := by decide +kernel
theorem dX0_book_64 : decode cX0_book 64 = .ok (.aload_n 0, 1) := by decide +kernel
theorem dX0_book_65 : decode cX0_book 65 = .ok (.getfield 15, 3) := by decide +kernel
theorem dX0_book_68 : decode cX0_book 68 = .ok (.iload 7, 2) := by decide +kernel
theorem dX0_book_70 : decode cX0_book 70 = .ok (.invokestatic 47, 3) := by decide +kernel
theorem dX0_book_73 : decode cX0_book 73 = .ok (.iload_n 2, 1) := by decide +kernel
theorem dX0_book_74 : decode cX0_book 74 = .ok (.iadd, 1) := by decide +kernel
theorem dX0_book_75 : decode cX0_book 75 = .ok (.invokestatic 51, 3) := by decide +kernel
theorem dX0_book_78 : decode cX0_book 78 = .ok (.aload_n 0, 1) := by decide +kernel
theorem dX0_book_79 : decode cX0_book 79 = .ok (.getfield 18, 3) := by decide +kernel
theorem dX0_book_82 : decode cX0_book 82 = .ok (.iload 7, 2) := by decide +kernel
theorem dX0_book_84 : decode cX0_book 84 = .ok (.aload_n 0, 1) := by decide +kernel
theorem dX0_book_85 : decode cX0_book 85 = .ok (.getfield 18, 3) := by decide +kernel
theorem dX0_book_88 : decode cX0_book 88 = .ok (.iload 7, 2) := by decide +kernel
theorem dX0_book_90 : decode cX0_book 90 = .ok (.invokestatic 47, 3) := by decide +kernel
theorem dX0_book_93 : decode cX0_book 93 = .ok (.iload_n 3, 1) := by decide +kernel
theorem dX0_book_94 : decode cX0_book 94 = .ok (.iadd, 1) := by decide +kernel
theorem dX0_book_95 : decode cX0_book 95 = .ok (.invokestatic 51, 3) := by decide +kernel
theorem dX0_book_98 : decode cX0_book 98 = .ok (.iload 4, 2) := by decide +kernel
theorem dX0_book_100 : decode cX0_book 100 = .ok (.iload 6, 2) := by decide +kernel
theorem dX0_book_102 : decode cX0_book 102 = .ok (.invokestatic 55, 3) := by decide +kernel
theorem dX0_book_105 : decode cX0_book 105 = .ok (.istore 4, 2) := by decide +kernel
theorem dX0_book_107 : decode cX0_book 107 = .ok (.iinc 5 1, 3) := by decide +kernel
theorem dX0_book_110 : decode cX0_book 110 = .ok (.goto (-94), 3) := by decide +kernel
theorem dX0_book_113 : decode cX0_book 113 = .ok (.return_, 1) := by decide +kernel
set_option maxRecDepth 20000 in
theorem ggX0_chipsOf_X0_placeOf : GoodIn wsX0_chipsOf wsX0_placeOf := goodIn_r _ [6, 7, 8, 9, 10, 11, 12, 13, 14, 15, 16] (by decide +kernel) (by decide +kernel)
set_option maxRecDepth 20000 in
theorem gX0_chipsOf_X0_placeOf : GoodIn wsX0_chipsOf (wsV RX0 41 RX0 yX0_placeOf wsX0_placeOf) := goodIn_app (goodIn_of _ (by decide +kernel)) ggX0_chipsOf_X0_placeOf
set_option maxRecDepth 20000 in
theorem ggX0_chipsOf_X5_at : GoodIn wsX0_chipsOf wsX5_at := goodIn_r _ [12] (by decide +kernel) (by decide +kernel)
set_option maxRecDepth 20000 in
theorem gX0_chipsOf_X5_at : GoodIn wsX0_chipsOf (va_wsS RX0 47 yX5_at wsX5_at) := goodIn_app (goodIn_of _ (by decide +kernel)) ggX0_chipsOf_X5_at
theorem dX0_chipsOf_0 : decode cX0_chipsOf 0 = .ok (.aload_n 0, 1) := by decide +kernel
theorem dX0_chipsOf_1 : decode cX0_chipsOf 1 = .ok (.getfield 15, 3) := by decide +kernel
theorem dX0_chipsOf_4 : decode cX0_chipsOf 4 = .ok (.aload_n 0, 1) := by decide +kernel
theorem dX0_chipsOf_5 : decode cX0_chipsOf 5 = .ok (.iload_n 1, 1) := by decide +kernel
theorem dX0_chipsOf_6 : decode cX0_chipsOf 6 = .ok (.invokevirtual 41, 3) := by decide +kernel
theorem dX0_chipsOf_9 : decode cX0_chipsOf 9 = .ok (.invokestatic 47, 3) := by decide +kernel
theorem dX0_chipsOf_12 : decode cX0_chipsOf 12 = .ok (.ireturn, 1) := by decide +kernel
set_option maxRecDepth 20000 in
theorem ggX0_cameOf_X0_placeOf : GoodIn wsX0_cameOf wsX0_placeOf := goodIn_r _ [6, 7, 8, 9, 10, 11, 12, 13, 14, 15, 16] (by decide +kernel) (by decide +kernel)
set_option maxRecDepth 20000 in
theorem gX0_cameOf_X0_placeOf : GoodIn wsX0_cameOf (wsV RX0 41 RX0 yX0_placeOf wsX0_placeOf) := goodIn_app (goodIn_of _ (by decide +kernel)) ggX0_cameOf_X0_placeOf
set_option maxRecDepth 20000 in
theorem ggX0_cameOf_X5_at : GoodIn wsX0_cameOf wsX5_at := goodIn_r _ [12] (by decide +kernel) (by decide +kernel)
set_option maxRecDepth 20000 in
theorem gX0_cameOf_X5_at : GoodIn wsX0_cameOf (va_wsS RX0 47 yX5_at wsX5_at) := goodIn_app (goodIn_of _ (by decide +kernel)) ggX0_cameOf_X5_at
theorem dX0_cameOf_0 : decode cX0_cameOf 0 = .ok (.aload_n 0, 1) := by decide +kernel
theorem dX0_cameOf_1 : decode cX0_cameOf 1 = .ok (.getfield 18, 3) := by decide +kernel
theorem dX0_cameOf_4 : decode cX0_cameOf 4 = .ok (.aload_n 0, 1) := by decide +kernel
theorem dX0_cameOf_5 : decode cX0_cameOf 5 = .ok (.iload_n 1, 1) := by decide +kernel
theorem dX0_cameOf_6 : decode cX0_cameOf 6 = .ok (.invokevirtual 41, 3) := by decide +kernel
theorem dX0_cameOf_9 : decode cX0_cameOf 9 = .ok (.invokestatic 47, 3) := by decide +kernel
theorem dX0_cameOf_12 : decode cX0_cameOf 12 = .ok (.ireturn, 1) := by decide +kernel
set_option maxRecDepth 20000 in
theorem ggX0_allChips_X5_at : GoodIn wsX0_allChips wsX5_at := goodIn_r _ [6] (by decide +kernel) (by decide +kernel)
set_option maxRecDepth 20000 in
theorem gX0_allChips_X5_at : GoodIn wsX0_allChips (va_wsS RX0 47 yX5_at wsX5_at) := goodIn_app (goodIn_of _ (by decide +kernel)) ggX0_allChips_X5_at
theorem dX0_allChips_0 : decode cX0_allChips 0 = .ok (.iconst 0, 1) := by decide +kernel
theorem dX0_allChips_1 : decode cX0_allChips 1 = .ok (.istore_n 1, 1) := by decide +kernel
theorem dX0_allChips_2 : decode cX0_allChips 2 = .ok (.iconst 0, 1) := by decide +kernel
theorem dX0_allChips_3 : decode cX0_allChips 3 = .ok (.istore_n 2, 1) := by decide +kernel
theorem dX0_allChips_4 : decode cX0_allChips 4 = .ok (.iload_n 2, 1) := by decide +kernel
theorem dX0_allChips_5 : decode cX0_allChips 5 = .ok (.aload_n 0, 1) := by decide +kernel
theorem dX0_allChips_6 : decode cX0_allChips 6 = .ok (.getfield 21, 3) := by decide +kernel
theorem dX0_allChips_9 : decode cX0_allChips 9 = .ok (.if_icmp .ge 20, 3) := by decide +kernel
theorem dX0_allChips_12 : decode cX0_allChips 12 = .ok (.iload_n 1, 1) := by decide +kernel
theorem dX0_allChips_13 : decode cX0_allChips 13 = .ok (.aload_n 0, 1) := by decide +kernel
theorem dX0_allChips_14 : decode cX0_allChips 14 = .ok (.getfield 15, 3) := by decide +kernel
theorem dX0_allChips_17 : decode cX0_allChips 17 = .ok (.iload_n 2, 1) := by decide +kernel
theorem dX0_allChips_18 : decode cX0_allChips 18 = .ok (.invokestatic 47, 3) := by decide +kernel
theorem dX0_allChips_21 : decode cX0_allChips 21 = .ok (.iadd, 1) := by decide +kernel
theorem dX0_allChips_22 : decode cX0_allChips 22 = .ok (.istore_n 1, 1) := by decide +kernel
theorem dX0_allChips_23 : decode cX0_allChips 23 = .ok (.iinc 2 1, 3) := by decide +kernel
theorem dX0_allChips_26 : decode cX0_allChips 26 = .ok (.goto (-22), 3) := by decide +kernel
theorem dX0_allChips_29 : decode cX0_allChips 29 = .ok (.iload_n 1, 1) := by decide +kernel
theorem dX0_allChips_30 : decode cX0_allChips 30 = .ok (.ireturn, 1) := by decide +kernel
set_option maxRecDepth 20000 in
theorem ggX0_kindsOfChips_X5_at : GoodIn wsX0_kindsOfChips wsX5_at := goodIn_r _ [6] (by decide +kernel) (by decide +kernel)
set_option maxRecDepth 20000 in
theorem gX0_kindsOfChips_X5_at : GoodIn wsX0_kindsOfChips (va_wsS RX0 47 yX5_at wsX5_at) := goodIn_app (goodIn_of _ (by decide +kernel)) ggX0_kindsOfChips_X5_at
theorem dX0_kindsOfChips_0 : decode cX0_kindsOfChips 0 = .ok (.iconst 0, 1) := by decide +kernel
theorem dX0_kindsOfChips_1 : decode cX0_kindsOfChips 1 = .ok (.istore_n 1, 1) := by decide +kernel
theorem dX0_kindsOfChips_2 : decode cX0_kindsOfChips 2 = .ok (.iconst 0, 1) := by decide +kernel
theorem dX0_kindsOfChips_3 : decode cX0_kindsOfChips 3 = .ok (.istore_n 2, 1) := by decide +kernel
theorem dX0_kindsOfChips_4 : decode cX0_kindsOfChips 4 = .ok (.iload_n 2, 1) := by decide +kernel
theorem dX0_kindsOfChips_5 : decode cX0_kindsOfChips 5 = .ok (.aload_n 0, 1) := by decide +kernel
theorem dX0_kindsOfChips_6 : decode cX0_kindsOfChips 6 = .ok (.getfield 21, 3) := by decide +kernel
theorem dX0_kindsOfChips_9 : decode cX0_kindsOfChips 9 = .ok (.if_icmp .ge 23, 3) := by decide +kernel
theorem dX0_kindsOfChips_12 : decode cX0_kindsOfChips 12 = .ok (.aload_n 0, 1) := by decide +kernel
theorem dX0_kindsOfChips_13 : decode cX0_kindsOfChips 13 = .ok (.getfield 15, 3) := by decide +kernel
theorem dX0_kindsOfChips_16 : decode cX0_kindsOfChips 16 = .ok (.iload_n 2, 1) := by decide +kernel
theorem dX0_kindsOfChips_17 : decode cX0_kindsOfChips 17 = .ok (.invokestatic 47, 3) := by decide +kernel
theorem dX0_kindsOfChips_20 : decode cX0_kindsOfChips 20 = .ok (.ifCond .le 6, 3) := by decide +kernel
theorem dX0_kindsOfChips_23 : decode cX0_kindsOfChips 23 = .ok (.iinc 1 1, 3) := by decide +kernel
theorem dX0_kindsOfChips_26 : decode cX0_kindsOfChips 26 = .ok (.iinc 2 1, 3) := by decide +kernel
theorem dX0_kindsOfChips_29 : decode cX0_kindsOfChips 29 = .ok (.goto (-25), 3) := by decide +kernel
theorem dX0_kindsOfChips_32 : decode cX0_kindsOfChips 32 = .ok (.iload_n 1, 1) := by decide +kernel
theorem dX0_kindsOfChips_33 : decode cX0_kindsOfChips 33 = .ok (.ireturn, 1) := by decide +kernel
set_option maxRecDepth 20000 in
theorem ggX0_placeOf_X5_at : GoodIn wsX0_placeOf wsX5_at := goodIn_r _ [6] (by decide +kernel) (by decide +kernel)
set_option maxRecDepth 20000 in
theorem gX0_placeOf_X5_at : GoodIn wsX0_placeOf (va_wsS RX0 47 yX5_at wsX5_at) := goodIn_app (goodIn_of _ (by decide +kernel)) ggX0_placeOf_X5_at
theorem dX0_placeOf_0 : decode cX0_placeOf 0 = .ok (.iconst 0, 1) := by decide +kernel
theorem dX0_placeOf_1 : decode cX0_placeOf 1 = .ok (.istore_n 2, 1) := by decide +kernel
theorem dX0_placeOf_2 : decode cX0_placeOf 2 = .ok (.iload_n 2, 1) := by decide +kernel
theorem dX0_placeOf_3 : decode cX0_placeOf 3 = .ok (.aload_n 0, 1) := by decide +kernel
theorem dX0_placeOf_4 : decode cX0_placeOf 4 = .ok (.getfield 21, 3) := by decide +kernel
theorem dX0_placeOf_7 : decode cX0_placeOf 7 = .ok (.if_icmp .ge 23, 3) := by decide +kernel
theorem dX0_placeOf_10 : decode cX0_placeOf 10 = .ok (.aload_n 0, 1) := by decide +kernel
theorem dX0_placeOf_11 : decode cX0_placeOf 11 = .ok (.getfield 9, 3) := by decide +kernel
theorem dX0_placeOf_14 : decode cX0_placeOf 14 = .ok (.iload_n 2, 1) := by decide +kernel
theorem dX0_placeOf_15 : decode cX0_placeOf 15 = .ok (.invokestatic 47, 3) := by decide +kernel
theorem dX0_placeOf_18 : decode cX0_placeOf 18 = .ok (.iload_n 1, 1) := by decide +kernel
theorem dX0_placeOf_19 : decode cX0_placeOf 19 = .ok (.if_icmp .ne 5, 3) := by decide +kernel
theorem dX0_placeOf_22 : decode cX0_placeOf 22 = .ok (.iload_n 2, 1) := by decide +kernel
theorem dX0_placeOf_23 : decode cX0_placeOf 23 = .ok (.ireturn, 1) := by decide +kernel
theorem dX0_placeOf_24 : decode cX0_placeOf 24 = .ok (.iinc 2 1, 3) := by decide +kernel
theorem dX0_placeOf_27 : decode cX0_placeOf 27 = .ok (.goto (-25), 3) := by decide +kernel
theorem dX0_placeOf_30 : decode cX0_placeOf 30 = .ok (.iconst (-1), 1) := by decide +kernel
theorem dX0_placeOf_31 : decode cX0_placeOf 31 = .ok (.ireturn, 1) := by decide +kernel
set_option maxRecDepth 20000 in
theorem ggX0_openPlace_X5_put : GoodIn wsX0_openPlace wsX5_put := goodIn_r _ [8] (by decide +kernel) (by decide +kernel)
set_option maxRecDepth 20000 in
theorem gX0_openPlace_X5_put : GoodIn wsX0_openPlace (va_wsS RX0 51 yX5_put wsX5_put) := goodIn_app (goodIn_of _ (by decide +kernel)) ggX0_openPlace_X5_put
theorem dX0_openPlace_0 : decode cX0_openPlace 0 = .ok (.aload_n 0, 1) := by decide +kernel
theorem dX0_openPlace_1 : decode cX0_openPlace 1 = .ok (.getfield 21, 3) := by decide +kernel
theorem dX0_openPlace_4 : decode cX0_openPlace 4 = .ok (.istore_n 2, 1) := by decide +kernel
theorem dX0_openPlace_5 : decode cX0_openPlace 5 = .ok (.aload_n 0, 1) := by decide +kernel
theorem dX0_openPlace_6 : decode cX0_openPlace 6 = .ok (.getfield 9, 3) := by decide +kernel
theorem dX0_openPlace_9 : decode cX0_openPlace 9 = .ok (.iload_n 2, 1) := by decide +kernel
theorem dX0_openPlace_10 : decode cX0_openPlace 10 = .ok (.iload_n 1, 1) := by decide +kernel
theorem dX0_openPlace_11 : decode cX0_openPlace 11 = .ok (.invokestatic 51, 3) := by decide +kernel
theorem dX0_openPlace_14 : decode cX0_openPlace 14 = .ok (.aload_n 0, 1) := by decide +kernel
theorem dX0_openPlace_15 : decode cX0_openPlace 15 = .ok (.getfield 15, 3) := by decide +kernel
theorem dX0_openPlace_18 : decode cX0_openPlace 18 = .ok (.iload_n 2, 1) := by decide +kernel
theorem dX0_openPlace_19 : decode cX0_openPlace 19 = .ok (.iconst 0, 1) := by decide +kernel
theorem dX0_openPlace_20 : decode cX0_openPlace 20 = .ok (.invokestatic 51, 3) := by decide +kernel
theorem dX0_openPlace_23 : decode cX0_openPlace 23 = .ok (.aload_n 0, 1) := by decide +kernel
theorem dX0_openPlace_24 : decode cX0_openPlace 24 = .ok (.getfield 18, 3) := by decide +kernel
theorem dX0_openPlace_27 : decode cX0_openPlace 27 = .ok (.iload_n 2, 1) := by decide +kernel
theorem dX0_openPlace_28 : decode cX0_openPlace 28 = .ok (.iconst 0, 1) := by decide +kernel
theorem dX0_openPlace_29 : decode cX0_openPlace 29 = .ok (.invokestatic 51, 3) := by decide +kernel
theorem dX0_openPlace_32 : decode cX0_openPlace 32 = .ok (.aload_n 0, 1) := by decide +kernel
theorem dX0_openPlace_33 : decode cX0_openPlace 33 = .ok (.dup, 1) := by decide +kernel
theorem dX0_openPlace_34 : decode cX0_openPlace 34 = .ok (.getfield 21, 3) := by decide +kernel
theorem dX0_openPlace_37 : decode cX0_openPlace 37 = .ok (.iconst 1, 1) := by decide +kernel
theorem dX0_openPlace_38 : decode cX0_openPlace 38 = .ok (.iadd, 1) := by decide +kernel
theorem dX0_openPlace_39 : decode cX0_openPlace 39 = .ok (.putfield 21, 3) := by decide +kernel
theorem dX0_openPlace_42 : decode cX0_openPlace 42 = .ok (.iload_n 2, 1) := by decide +kernel
theorem dX0_openPlace_43 : decode cX0_openPlace 43 = .ok (.ireturn, 1) := by decide +kernel
set_option maxRecDepth 20000 in
theorem ggX0_makeRoom_X5_longer : GoodIn wsX0_makeRoom wsX5_longer := goodIn_r _ [14, 15] (by decide +kernel) (by decide +kernel)
set_option maxRecDepth 20000 in
theorem gX0_makeRoom_X5_longer : GoodIn wsX0_makeRoom (va_wsS RX0 67 yX5_longer wsX5_longer) := goodIn_app (goodIn_of _ (by decide +kernel)) ggX0_makeRoom_X5_longer
theorem dX0_makeRoom_0 : decode cX0_makeRoom 0 = .ok (.iload_n 1, 1) := by decide +kernel
theorem dX0_makeRoom_1 : decode cX0_makeRoom 1 = .ok (.aload_n 0, 1) := by decide +kernel
theorem dX0_makeRoom_2 : decode cX0_makeRoom 2 = .ok (.getfield 9, 3) := by decide +kernel
theorem dX0_makeRoom_5 : decode cX0_makeRoom 5 = .ok (.arraylength, 1) := by decide +kernel
theorem dX0_makeRoom_6 : decode cX0_makeRoom 6 = .ok (.if_icmp .le 14, 3) := by decide +kernel
theorem dX0_makeRoom_9 : decode cX0_makeRoom 9 = .ok (.aload_n 0, 1) := by decide +kernel
theorem dX0_makeRoom_10 : decode cX0_makeRoom 10 = .ok (.getfield 9, 3) := by decide +kernel
theorem dX0_makeRoom_13 : decode cX0_makeRoom 13 = .ok (.arraylength, 1) := by decide +kernel
theorem dX0_makeRoom_14 : decode cX0_makeRoom 14 = .ok (.sipush 1229, 3) := by decide +kernel
theorem dX0_makeRoom_17 : decode cX0_makeRoom 17 = .ok (.if_icmp .lt 4, 3) := by decide +kernel
theorem dX0_makeRoom_20 : decode cX0_makeRoom 20 = .ok (.return_, 1) := by decide +kernel
theorem dX0_makeRoom_21 : decode cX0_makeRoom 21 = .ok (.sipush 1229, 3) := by decide +kernel
theorem dX0_makeRoom_24 : decode cX0_makeRoom 24 = .ok (.iload_n 1, 1) := by decide +kernel
theorem dX0_makeRoom_25 : decode cX0_makeRoom 25 = .ok (.iconst 2, 1) := by decide +kernel
theorem dX0_makeRoom_26 : decode cX0_makeRoom 26 = .ok (.aload_n 0, 1) := by decide +kernel
theorem dX0_makeRoom_27 : decode cX0_makeRoom 27 = .ok (.getfield 9, 3) := by decide +kernel
theorem dX0_makeRoom_30 : decode cX0_makeRoom 30 = .ok (.arraylength, 1) := by decide +kernel
theorem dX0_makeRoom_31 : decode cX0_makeRoom 31 = .ok (.imul, 1) := by decide +kernel
theorem dX0_makeRoom_32 : decode cX0_makeRoom 32 = .ok (.invokestatic 59, 3) := by decide +kernel
theorem dX0_makeRoom_35 : decode cX0_makeRoom 35 = .ok (.invokestatic 64, 3) := by decide +kernel
theorem dX0_makeRoom_38 : decode cX0_makeRoom 38 = .ok (.istore_n 2, 1) := by decide +kernel
theorem dX0_makeRoom_39 : decode cX0_makeRoom 39 = .ok (.aload_n 0, 1) := by decide +kernel
theorem dX0_makeRoom_40 : decode cX0_makeRoom 40 = .ok (.aload_n 0, 1) := by decide +kernel
theorem dX0_makeRoom_41 : decode cX0_makeRoom 41 = .ok (.getfield 9, 3) := by decide +kernel
theorem dX0_makeRoom_44 : decode cX0_makeRoom 44 = .ok (.iload_n 2, 1) := by decide +kernel
theorem dX0_makeRoom_45 : decode cX0_makeRoom 45 = .ok (.invokestatic 67, 3) := by decide +kernel
theorem dX0_makeRoom_48 : decode cX0_makeRoom 48 = .ok (.putfield 9, 3) := by decide +kernel
theorem dX0_makeRoom_51 : decode cX0_makeRoom 51 = .ok (.aload_n 0, 1) := by decide +kernel
theorem dX0_makeRoom_52 : decode cX0_makeRoom 52 = .ok (.aload_n 0, 1) := by decide +kernel
theorem dX0_makeRoom_53 : decode cX0_makeRoom 53 = .ok (.getfield 15, 3) := by decide +kernel
theorem dX0_makeRoom_56 : decode cX0_makeRoom 56 = .ok (.iload_n 2, 1) := by decide +kernel
theorem dX0_makeRoom_57 : decode cX0_makeRoom 57 = .ok (.invokestatic 67, 3) := by decide +kernel
theorem dX0_makeRoom_60 : decode cX0_makeRoom 60 = .ok (.putfield 15, 3) := by decide +kernel
theorem dX0_makeRoom_63 : decode cX0_makeRoom 63 = .ok (.aload_n 0, 1) := by decide +kernel
theorem dX0_makeRoom_64 : decode cX0_makeRoom 64 = .ok (.aload_n 0, 1) := by decide +kernel
theorem dX0_makeRoom_65 : decode cX0_makeRoom 65 = .ok (.getfield 18, 3) := by decide +kernel
theorem dX0_makeRoom_68 : decode cX0_makeRoom 68 = .ok (.iload_n 2, 1) := by decide +kernel
theorem dX0_makeRoom_69 : decode cX0_makeRoom 69 = .ok (.invokestatic 67, 3) := by decide +kernel
theorem dX0_makeRoom_72 : decode cX0_makeRoom 72 = .ok (.putfield 18, 3) := by decide +kernel
theorem dX0_makeRoom_75 : decode cX0_makeRoom 75 = .ok (.return_, 1) := by decide +kernel
theorem dX1_init_0 : decode cX1_init 0 = .ok (.aload_n 0, 1) := by decide +kernel
theorem dX1_init_1 : decode cX1_init 1 = .ok (.invokespecial 3, 3) := by decide +kernel
theorem dX1_init_4 : decode cX1_init 4 = .ok (.aload_n 0, 1) := by decide +kernel
theorem dX1_init_5 : decode cX1_init 5 = .ok (.bipush 12, 2) := by decide +kernel
theorem dX1_init_7 : decode cX1_init 7 = .ok (.newarray .int, 2) := by decide +kernel
theorem dX1_init_9 : decode cX1_init 9 = .ok (.putfield 9, 3) := by decide +kernel
theorem dX1_init_12 : decode cX1_init 12 = .ok (.aload_n 0, 1) := by decide +kernel
theorem dX1_init_13 : decode cX1_init 13 = .ok (.bipush 12, 2) := by decide +kernel
theorem dX1_init_15 : decode cX1_init 15 = .ok (.newarray .int, 2) := by decide +kernel
theorem dX1_init_17 : decode cX1_init 17 = .ok (.putfield 15, 3) := by decide +kernel
theorem dX1_init_20 : decode cX1_init 20 = .ok (.aload_n 0, 1) := by decide +kernel
theorem dX1_init_21 : decode cX1_init 21 = .ok (.bipush 12, 2) := by decide +kernel
theorem dX1_init_23 : decode cX1_init 23 = .ok (.newarray .int, 2) := by decide +kernel
theorem dX1_init_25 : decode cX1_init 25 = .ok (.putfield 18, 3) := by decide +kernel
theorem dX1_init_28 : decode cX1_init 28 = .ok (.aload_n 0, 1) := by decide +kernel
theorem dX1_init_29 : decode cX1_init 29 = .ok (.bipush 12, 2) := by decide +kernel
theorem dX1_init_31 : decode cX1_init 31 = .ok (.newarray .int, 2) := by decide +kernel
theorem dX1_init_33 : decode cX1_init 33 = .ok (.putfield 21, 3) := by decide +kernel
theorem dX1_init_36 : decode cX1_init 36 = .ok (.return_, 1) := by decide +kernel
theorem dX2_init_0 : decode cX2_init 0 = .ok (.aload_n 0, 1) := by decide +kernel
theorem dX2_init_1 : decode cX2_init 1 = .ok (.invokespecial 3, 3) := by decide +kernel
theorem dX2_init_4 : decode cX2_init 4 = .ok (.aload_n 0, 1) := by decide +kernel
theorem dX2_init_5 : decode cX2_init 5 = .ok (.bipush 12, 2) := by decide +kernel
theorem dX2_init_7 : decode cX2_init 7 = .ok (.newarray .int, 2) := by decide +kernel
theorem dX2_init_9 : decode cX2_init 9 = .ok (.putfield 9, 3) := by decide +kernel
theorem dX2_init_12 : decode cX2_init 12 = .ok (.return_, 1) := by decide +kernel
set_option maxRecDepth 20000 in
theorem ggX2_find_X5_put : GoodIn wsX2_find wsX5_put := goodIn_r _ [6] (by decide +kernel) (by decide +kernel)
set_option maxRecDepth 20000 in
theorem gX2_find_X5_put : GoodIn wsX2_find (va_wsS RX2 22 yX5_put wsX5_put) := goodIn_app (goodIn_of _ (by decide +kernel)) ggX2_find_X5_put
set_option maxRecDepth 20000 in
theorem ggX2_find_X6_isKin : GoodIn wsX2_find wsX6_isKin := goodIn_r _ [11, 12, 13, 14, 15, 10, 16, 17, 18, 19, 20, 21, 22, 23, 24, 25, 42, 43, 44, 45, 46, 47] (by decide +kernel) (by decide +kernel)
set_option maxRecDepth 20000 in
theorem gX2_find_X6_isKin : GoodIn wsX2_find (wsV RX2 28 RX6 yX6_isKin wsX6_isKin) := goodIn_app (goodIn_of _ (by decide +kernel)) ggX2_find_X6_isKin
set_option maxRecDepth 20000 in
theorem ggX2_find_X2_lowestOf : GoodIn wsX2_find wsX2_lowestOf := goodIn_r _ [30, 2, 31, 32, 5, 33, 48, 49] (by decide +kernel) (by decide +kernel)
set_option maxRecDepth 20000 in
theorem gX2_find_X2_lowestOf : GoodIn wsX2_find (wsV RX2 32 RX2 yX2_lowestOf wsX2_lowestOf) := goodIn_app (goodIn_of _ (by decide +kernel)) ggX2_find_X2_lowestOf
set_option maxRecDepth 20000 in
theorem ggX2_find_X2_join : GoodIn wsX2_find wsX2_join := goodIn_r _ [37, 38, 39, 40, 41, 1, 2, 26, 27, 28, 29, 30, 31, 32, 5, 33, 3, 4, 6, 48, 49] (by decide +kernel) (by decide +kernel)
set_option maxRecDepth 20000 in
theorem gX2_find_X2_join : GoodIn wsX2_find (wsV RX2 36 RX2 yX2_join wsX2_join) := goodIn_app (goodIn_of _ (by decide +kernel)) ggX2_find_X2_join
theorem dX2_find_0 : decode cX2_find 0 = .ok (.aload_n 0, 1) := by decide +kernel
theorem dX2_find_1 : decode cX2_find 1 = .ok (.aload_n 1, 1) := by decide +kernel
theorem dX2_find_2 : decode cX2_find 2 = .ok (.getfield 15, 3) := by decide +kernel
theorem dX2_find_5 : decode cX2_find 5 = .ok (.putfield 21, 3) := by decide +kernel
theorem dX2_find_8 : decode cX2_find 8 = .ok (.iconst 0, 1) := by decide +kernel
theorem dX2_find_9 : decode cX2_find 9 = .ok (.istore_n 2, 1) := by decide +kernel
theorem dX2_find_10 : decode cX2_find 10 = .ok (.iload_n 2, 1) := by decide +kernel
theorem dX2_find_11 : decode cX2_find 11 = .ok (.aload_n 0, 1) := by decide +kernel
theorem dX2_find_12 : decode cX2_find 12 = .ok (.getfield 21, 3) := by decide +kernel
theorem dX2_find_15 : decode cX2_find 15 = .ok (.if_icmp .ge 18, 3) := by decide +kernel
theorem dX2_find_18 : decode cX2_find 18 = .ok (.aload_n 0, 1) := by decide +kernel
theorem dX2_find_19 : decode cX2_find 19 = .ok (.getfield 9, 3) := by decide +kernel
theorem dX2_find_22 : decode cX2_find 22 = .ok (.iload_n 2, 1) := by decide +kernel
theorem dX2_find_23 : decode cX2_find 23 = .ok (.iload_n 2, 1) := by decide +kernel
theorem dX2_find_24 : decode cX2_find 24 = .ok (.invokestatic 22, 3) := by decide +kernel
theorem dX2_find_27 : decode cX2_find 27 = .ok (.iinc 2 1, 3) := by decide +kernel
theorem dX2_find_30 : decode cX2_find 30 = .ok (.goto (-20), 3) := by decide +kernel
theorem dX2_find_33 : decode cX2_find 33 = .ok (.iconst 1, 1) := by decide +kernel
theorem dX2_find_34 : decode cX2_find 34 = .ok (.istore_n 2, 1) := by decide +kernel
theorem dX2_find_35 : decode cX2_find 35 = .ok (.iload_n 2, 1) := by decide +kernel
theorem dX2_find_36 : decode cX2_find 36 = .ok (.aload_n 0, 1) := by decide +kernel
theorem dX2_find_37 : decode cX2_find 37 = .ok (.getfield 21, 3) := by decide +kernel
theorem dX2_find_40 : decode cX2_find 40 = .ok (.if_icmp .ge 45, 3) := by decide +kernel
theorem dX2_find_43 : decode cX2_find 43 = .ok (.iconst 0, 1) := by decide +kernel
theorem dX2_find_44 : decode cX2_find 44 = .ok (.istore_n 3, 1) := by decide +kernel
theorem dX2_find_45 : decode cX2_find 45 = .ok (.iload_n 3, 1) := by decide +kernel
theorem dX2_find_46 : decode cX2_find 46 = .ok (.iload_n 2, 1) := by decide +kernel
theorem dX2_find_47 : decode cX2_find 47 = .ok (.if_icmp .ge 32, 3) := by decide +kernel
theorem dX2_find_50 : decode cX2_find 50 = .ok (.aload_n 1, 1) := by decide +kernel
theorem dX2_find_51 : decode cX2_find 51 = .ok (.iload_n 3, 1) := by decide +kernel
theorem dX2_find_52 : decode cX2_find 52 = .ok (.iload_n 2, 1) := by decide +kernel
theorem dX2_find_53 : decode cX2_find 53 = .ok (.invokevirtual 28, 3) := by decide +kernel
theorem dX2_find_56 : decode cX2_find 56 = .ok (.ifCond .eq 17, 3) := by decide +kernel
theorem dX2_find_59 : decode cX2_find 59 = .ok (.aload_n 0, 1) := by decide +kernel
theorem dX2_find_60 : decode cX2_find 60 = .ok (.aload_n 0, 1) := by decide +kernel
theorem dX2_find_61 : decode cX2_find 61 = .ok (.iload_n 3, 1) := by decide +kernel
theorem dX2_find_62 : decode cX2_find 62 = .ok (.invokevirtual 32, 3) := by decide +kernel
theorem dX2_find_65 : decode cX2_find 65 = .ok (.aload_n 0, 1) := by decide +kernel
theorem dX2_find_66 : decode cX2_find 66 = .ok (.iload_n 2, 1) := by decide +kernel
theorem dX2_find_67 : decode cX2_find 67 = .ok (.invokevirtual 32, 3) := by decide +kernel
theorem dX2_find_70 : decode cX2_find 70 = .ok (.invokevirtual 36, 3) := by decide +kernel
theorem dX2_find_73 : decode cX2_find 73 = .ok (.iinc 3 1, 3) := by decide +kernel
theorem dX2_find_76 : decode cX2_find 76 = .ok (.goto (-31), 3) := by decide +kernel
theorem dX2_find_79 : decode cX2_find 79 = .ok (.iinc 2 1, 3) := by decide +kernel
theorem dX2_find_82 : decode cX2_find 82 = .ok (.goto (-47), 3) := by decide +kernel
theorem dX2_find_85 : decode cX2_find 85 = .ok (.return_, 1) := by decide +kernel
set_option maxRecDepth 20000 in
theorem ggX2_lowestOf_X5_at : GoodIn wsX2_lowestOf wsX5_at := goodIn_r _ [5] (by decide +kernel) (by decide +kernel)
set_option maxRecDepth 20000 in
theorem gX2_lowestOf_X5_at : GoodIn wsX2_lowestOf (va_wsS RX2 40 yX5_at wsX5_at) := goodIn_app (goodIn_of _ (by decide +kernel)) ggX2_lowestOf_X5_at
theorem dX2_lowestOf_0 : decode cX2_lowestOf 0 = .ok (.aload_n 0, 1) := by decide +kernel
theorem dX2_lowestOf_1 : decode cX2_lowestOf 1 = .ok (.getfield 9, 3) := by decide +kernel
theorem dX2_lowestOf_4 : decode cX2_lowestOf 4 = .ok (.iload_n 1, 1) := by decide +kernel
theorem dX2_lowestOf_5 : decode cX2_lowestOf 5 = .ok (.invokestatic 40, 3) := by decide +kernel
theorem dX2_lowestOf_8 : decode cX2_lowestOf 8 = .ok (.ireturn, 1) := by decide +kernel
set_option maxRecDepth 20000 in
theorem ggX2_sizeOf_X2_lowestOf : GoodIn wsX2_sizeOf wsX2_lowestOf := goodIn_r _ [6, 7, 8, 9, 10, 11, 12, 13] (by decide +kernel) (by decide +kernel)
set_option maxRecDepth 20000 in
theorem gX2_sizeOf_X2_lowestOf : GoodIn wsX2_sizeOf (wsV RX2 32 RX2 yX2_lowestOf wsX2_lowestOf) := goodIn_app (goodIn_of _ (by decide +kernel)) ggX2_sizeOf_X2_lowestOf
theorem dX2_sizeOf_0 : decode cX2_sizeOf 0 = .ok (.iconst 0, 1) := by decide +kernel
theorem dX2_sizeOf_1 : decode cX2_sizeOf 1 = .ok (.istore_n 2, 1) := by decide +kernel
theorem dX2_sizeOf_2 : decode cX2_sizeOf 2 = .ok (.iconst 0, 1) := by decide +kernel
theorem dX2_sizeOf_3 : decode cX2_sizeOf 3 = .ok (.istore_n 3, 1) := by decide +kernel
theorem dX2_sizeOf_4 : decode cX2_sizeOf 4 = .ok (.iload_n 3, 1) := by decide +kernel
theorem dX2_sizeOf_5 : decode cX2_sizeOf 5 = .ok (.aload_n 0, 1) := by decide +kernel
theorem dX2_sizeOf_6 : decode cX2_sizeOf 6 = .ok (.getfield 21, 3) := by decide +kernel
theorem dX2_sizeOf_9 : decode cX2_sizeOf 9 = .ok (.if_icmp .ge 21, 3) := by decide +kernel
theorem dX2_sizeOf_12 : decode cX2_sizeOf 12 = .ok (.aload_n 0, 1) := by decide +kernel
theorem dX2_sizeOf_13 : decode cX2_sizeOf 13 = .ok (.iload_n 3, 1) := by decide +kernel
theorem dX2_sizeOf_14 : decode cX2_sizeOf 14 = .ok (.invokevirtual 32, 3) := by decide +kernel
theorem dX2_sizeOf_17 : decode cX2_sizeOf 17 = .ok (.iload_n 1, 1) := by decide +kernel
theorem dX2_sizeOf_18 : decode cX2_sizeOf 18 = .ok (.if_icmp .ne 6, 3) := by decide +kernel
theorem dX2_sizeOf_21 : decode cX2_sizeOf 21 = .ok (.iinc 2 1, 3) := by decide +kernel
theorem dX2_sizeOf_24 : decode cX2_sizeOf 24 = .ok (.iinc 3 1, 3) := by decide +kernel
theorem dX2_sizeOf_27 : decode cX2_sizeOf 27 = .ok (.goto (-23), 3) := by decide +kernel
theorem dX2_sizeOf_30 : decode cX2_sizeOf 30 = .ok (.iload_n 2, 1) := by decide +kernel
theorem dX2_sizeOf_31 : decode cX2_sizeOf 31 = .ok (.ireturn, 1) := by decide +kernel
set_option maxRecDepth 20000 in
theorem ggX2_many_X2_lowestOf : GoodIn wsX2_many wsX2_lowestOf := goodIn_r _ [6, 7, 8, 9, 10, 11, 12, 13] (by decide +kernel) (by decide +kernel)
set_option maxRecDepth 20000 in
theorem gX2_many_X2_lowestOf : GoodIn wsX2_many (wsV RX2 32 RX2 yX2_lowestOf wsX2_lowestOf) := goodIn_app (goodIn_of _ (by decide +kernel)) ggX2_many_X2_lowestOf
theorem dX2_many_0 : decode cX2_many 0 = .ok (.iconst 0, 1) := by decide +kernel
theorem dX2_many_1 : decode cX2_many 1 = .ok (.istore_n 1, 1) := by decide +kernel
theorem dX2_many_2 : decode cX2_many 2 = .ok (.iconst 0, 1) := by decide +kernel
theorem dX2_many_3 : decode cX2_many 3 = .ok (.istore_n 2, 1) := by decide +kernel
theorem dX2_many_4 : decode cX2_many 4 = .ok (.iload_n 2, 1) := by decide +kernel
theorem dX2_many_5 : decode cX2_many 5 = .ok (.aload_n 0, 1) := by decide +kernel
theorem dX2_many_6 : decode cX2_many 6 = .ok (.getfield 21, 3) := by decide +kernel
theorem dX2_many_9 : decode cX2_many 9 = .ok (.if_icmp .ge 21, 3) := by decide +kernel
theorem dX2_many_12 : decode cX2_many 12 = .ok (.aload_n 0, 1) := by decide +kernel
theorem dX2_many_13 : decode cX2_many 13 = .ok (.iload_n 2, 1) := by decide +kernel
theorem dX2_many_14 : decode cX2_many 14 = .ok (.invokevirtual 32, 3) := by decide +kernel
theorem dX2_many_17 : decode cX2_many 17 = .ok (.iload_n 2, 1) := by decide +kernel
theorem dX2_many_18 : decode cX2_many 18 = .ok (.if_icmp .ne 6, 3) := by decide +kernel
theorem dX2_many_21 : decode cX2_many 21 = .ok (.iinc 1 1, 3) := by decide +kernel
theorem dX2_many_24 : decode cX2_many 24 = .ok (.iinc 2 1, 3) := by decide +kernel
theorem dX2_many_27 : decode cX2_many 27 = .ok (.goto (-23), 3) := by decide +kernel
theorem dX2_many_30 : decode cX2_many 30 = .ok (.iload_n 1, 1) := by decide +kernel
theorem dX2_many_31 : decode cX2_many 31 = .ok (.ireturn, 1) := by decide +kernel
set_option maxRecDepth 20000 in
theorem ggX2_greatest_X2_sizeOf : GoodIn wsX2_greatest wsX2_sizeOf := goodIn_r _ [10, 1, 11, 12, 13, 9, 14, 15, 16, 17, 18, 19, 20, 21] (by decide +kernel) (by decide +kernel)
set_option maxRecDepth 20000 in
theorem gX2_greatest_X2_sizeOf : GoodIn wsX2_greatest (wsV RX2 44 RX2 yX2_sizeOf wsX2_sizeOf) := goodIn_app (goodIn_of _ (by decide +kernel)) ggX2_greatest_X2_sizeOf
theorem dX2_greatest_0 : decode cX2_greatest 0 = .ok (.iconst 0, 1) := by decide +kernel
theorem dX2_greatest_1 : decode cX2_greatest 1 = .ok (.istore_n 1, 1) := by decide +kernel
theorem dX2_greatest_2 : decode cX2_greatest 2 = .ok (.iconst 0, 1) := by decide +kernel
theorem dX2_greatest_3 : decode cX2_greatest 3 = .ok (.istore_n 2, 1) := by decide +kernel
theorem dX2_greatest_4 : decode cX2_greatest 4 = .ok (.iload_n 2, 1) := by decide +kernel
theorem dX2_greatest_5 : decode cX2_greatest 5 = .ok (.aload_n 0, 1) := by decide +kernel
theorem dX2_greatest_6 : decode cX2_greatest 6 = .ok (.getfield 21, 3) := by decide +kernel
theorem dX2_greatest_9 : decode cX2_greatest 9 = .ok (.if_icmp .ge 19, 3) := by decide +kernel
theorem dX2_greatest_12 : decode cX2_greatest 12 = .ok (.iload_n 1, 1) := by decide +kernel
theorem dX2_greatest_13 : decode cX2_greatest 13 = .ok (.aload_n 0, 1) := by decide +kernel
theorem dX2_greatest_14 : decode cX2_greatest 14 = .ok (.iload_n 2, 1) := by decide +kernel
theorem dX2_greatest_15 : decode cX2_greatest 15 = .ok (.invokevirtual 44, 3) := by decide +kernel
theorem dX2_greatest_18 : decode cX2_greatest 18 = .ok (.invokestatic 47, 3) := by decide +kernel
theorem dX2_greatest_21 : decode cX2_greatest 21 = .ok (.istore_n 1, 1) := by decide +kernel
theorem dX2_greatest_22 : decode cX2_greatest 22 = .ok (.iinc 2 1, 3) := by decide +kernel
theorem dX2_greatest_25 : decode cX2_greatest 25 = .ok (.goto (-21), 3) := by decide +kernel
theorem dX2_greatest_28 : decode cX2_greatest 28 = .ok (.iload_n 1, 1) := by decide +kernel
theorem dX2_greatest_29 : decode cX2_greatest 29 = .ok (.ireturn, 1) := by decide +kernel
set_option maxRecDepth 20000 in
theorem ggX2_join_X2_lowestOf : GoodIn wsX2_join wsX2_lowestOf := goodIn_r _ [11, 6, 12, 13, 14, 15, 19, 20] (by decide +kernel) (by decide +kernel)
set_option maxRecDepth 20000 in
theorem gX2_join_X2_lowestOf : GoodIn wsX2_join (wsV RX2 32 RX2 yX2_lowestOf wsX2_lowestOf) := goodIn_app (goodIn_of _ (by decide +kernel)) ggX2_join_X2_lowestOf
set_option maxRecDepth 20000 in
theorem ggX2_join_X5_put : GoodIn wsX2_join wsX5_put := goodIn_r _ [18] (by decide +kernel) (by decide +kernel)
set_option maxRecDepth 20000 in
theorem gX2_join_X5_put : GoodIn wsX2_join (va_wsS RX2 22 yX5_put wsX5_put) := goodIn_app (goodIn_of _ (by decide +kernel)) ggX2_join_X5_put
theorem dX2_join_0 : decode cX2_join 0 = .ok (.iload_n 1, 1) := by decide +kernel
theorem dX2_join_1 : decode cX2_join 1 = .ok (.iload_n 2, 1) := by decide +kernel
theorem dX2_join_2 : decode cX2_join 2 = .ok (.invokestatic 53, 3) := by decide +kernel
theorem dX2_join_5 : decode cX2_join 5 = .ok (.istore_n 3, 1) := by decide +kernel
theorem dX2_join_6 : decode cX2_join 6 = .ok (.iconst 0, 1) := by decide +kernel
theorem dX2_join_7 : decode cX2_join 7 = .ok (.istore 4, 2) := by decide +kernel
theorem dX2_join_9 : decode cX2_join 9 = .ok (.iload 4, 2) := by decide +kernel
theorem dX2_join_11 : decode cX2_join 11 = .ok (.aload_n 0, 1) := by decide +kernel
theorem dX2_join_12 : decode cX2_join 12 = .ok (.getfield 21, 3) := by decide +kernel
theorem dX2_join_15 : decode cX2_join 15 = .ok (.if_icmp .ge 39, 3) := by decide +kernel
theorem dX2_join_18 : decode cX2_join 18 = .ok (.aload_n 0, 1) := by decide +kernel
theorem dX2_join_19 : decode cX2_join 19 = .ok (.iload 4, 2) := by decide +kernel
theorem dX2_join_21 : decode cX2_join 21 = .ok (.invokevirtual 32, 3) := by decide +kernel
theorem dX2_join_24 : decode cX2_join 24 = .ok (.iload_n 1, 1) := by decide +kernel
theorem dX2_join_25 : decode cX2_join 25 = .ok (.if_icmp .eq 13, 3) := by decide +kernel
theorem dX2_join_28 : decode cX2_join 28 = .ok (.aload_n 0, 1) := by decide +kernel
theorem dX2_join_29 : decode cX2_join 29 = .ok (.iload 4, 2) := by decide +kernel
theorem dX2_join_31 : decode cX2_join 31 = .ok (.invokevirtual 32, 3) := by decide +kernel
theorem dX2_join_34 : decode cX2_join 34 = .ok (.iload_n 2, 1) := by decide +kernel
theorem dX2_join_35 : decode cX2_join 35 = .ok (.if_icmp .ne 13, 3) := by decide +kernel
theorem dX2_join_38 : decode cX2_join 38 = .ok (.aload_n 0, 1) := by decide +kernel
theorem dX2_join_39 : decode cX2_join 39 = .ok (.getfield 9, 3) := by decide +kernel
theorem dX2_join_42 : decode cX2_join 42 = .ok (.iload 4, 2) := by decide +kernel
theorem dX2_join_44 : decode cX2_join 44 = .ok (.iload_n 3, 1) := by decide +kernel
theorem dX2_join_45 : decode cX2_join 45 = .ok (.invokestatic 22, 3) := by decide +kernel
theorem dX2_join_48 : decode cX2_join 48 = .ok (.iinc 4 1, 3) := by decide +kernel
theorem dX2_join_51 : decode cX2_join 51 = .ok (.goto (-42), 3) := by decide +kernel
theorem dX2_join_54 : decode cX2_join 54 = .ok (.return_, 1) := by decide +kernel
set_option maxRecDepth 20000 in
theorem ggX3_init_X6_init : GoodIn wsX3_init wsX6_init := goodIn_r _ [10, 11, 2, 3, 12, 13, 14, 15, 16, 17, 18, 19, 20, 21, 22, 23, 24, 25, 29, 30, 31, 32, 33, 34, 35, 36, 37, 38] (by decide +kernel) (by decide +kernel)
set_option maxRecDepth 20000 in
theorem gX3_init_X6_init : GoodIn wsX3_init (wsX6_init) := ggX3_init_X6_init
theorem dX3_init_0 : decode cX3_init 0 = .ok (.aload_n 0, 1) := by decide +kernel
theorem dX3_init_1 : decode cX3_init 1 = .ok (.invokespecial 3, 3) := by decide +kernel
theorem dX3_init_4 : decode cX3_init 4 = .ok (.aload_n 0, 1) := by decide +kernel
theorem dX3_init_5 : decode cX3_init 5 = .ok (.iconst 5, 1) := by decide +kernel
theorem dX3_init_6 : decode cX3_init 6 = .ok (.anewarray 9, 3) := by decide +kernel
theorem dX3_init_9 : decode cX3_init 9 = .ok (.putfield 11, 3) := by decide +kernel
theorem dX3_init_12 : decode cX3_init 12 = .ok (.iconst 0, 1) := by decide +kernel
theorem dX3_init_13 : decode cX3_init 13 = .ok (.istore_n 1, 1) := by decide +kernel
theorem dX3_init_14 : decode cX3_init 14 = .ok (.iload_n 1, 1) := by decide +kernel
theorem dX3_init_15 : decode cX3_init 15 = .ok (.aload_n 0, 1) := by decide +kernel
theorem dX3_init_16 : decode cX3_init 16 = .ok (.getfield 11, 3) := by decide +kernel
theorem dX3_init_19 : decode cX3_init 19 = .ok (.arraylength, 1) := by decide +kernel
theorem dX3_init_20 : decode cX3_init 20 = .ok (.if_icmp .ge 22, 3) := by decide +kernel
theorem dX3_init_23 : decode cX3_init 23 = .ok (.aload_n 0, 1) := by decide +kernel
theorem dX3_init_24 : decode cX3_init 24 = .ok (.getfield 11, 3) := by decide +kernel
theorem dX3_init_27 : decode cX3_init 27 = .ok (.iload_n 1, 1) := by decide +kernel
theorem dX3_init_28 : decode cX3_init 28 = .ok (.new 9, 3) := by decide +kernel
theorem dX3_init_31 : decode cX3_init 31 = .ok (.dup, 1) := by decide +kernel
theorem dX3_init_32 : decode cX3_init 32 = .ok (.invokespecial 17, 3) := by decide +kernel
theorem dX3_init_35 : decode cX3_init 35 = .ok (.aastore, 1) := by decide +kernel
theorem dX3_init_36 : decode cX3_init 36 = .ok (.iinc 1 1, 3) := by decide +kernel
theorem dX3_init_39 : decode cX3_init 39 = .ok (.goto (-25), 3) := by decide +kernel
theorem dX3_init_42 : decode cX3_init 42 = .ok (.return_, 1) := by decide +kernel
set_option maxRecDepth 20000 in
theorem ggX3_prepare_X3_stateAt : GoodIn wsX3_prepare wsX3_stateAt := goodIn_r _ [6, 7, 8, 55, 56, 57] (by decide +kernel) (by decide +kernel)
