theorem dX0_init_0 : decode cX0_init 0 = .ok (.aload_n 0, 1) := by decide +kernel
theorem dX0_init_1 : decode cX0_init 1 = .ok (.invokespecial 3, 3) := by decide +kernel
theorem dX0_init_4 : decode cX0_init 4 = .ok (.aload_n 0, 1) := by decide +kernel
theorem dX0_init_5 : decode cX0_init 5 = .ok (.bipush 16, 2) := by decide +kernel
theorem dX0_init_7 : decode cX0_init 7 = .ok (.newarray .int, 2) := by decide +kernel
theorem dX0_init_9 : decode cX0_init 9 = .ok (.putfield 9, 3) := by decide +kernel
theorem dX0_init_12 : decode cX0_init 12 = .ok (.aload_n 0, 1) := by decide +kernel
theorem dX0_init_13 : decode cX0_init 13 = .ok (.bipush 16, 2) := by decide +kernel
theorem dX0_init_15 : decode cX0_init 15 = .ok (.newarray .int, 2) := by decide +kernel
theorem dX0_init_17 : decode cX0_init 17 = .ok (.putfield 15, 3) := by decide +kernel
theorem dX0_init_20 : decode cX0_init 20 = .ok (.aload_n 0, 1) := by decide +kernel
theorem dX0_init_21 : decode cX0_init 21 = .ok (.bipush 16, 2) := by decide +kernel
theorem dX0_init_23 : decode cX0_init 23 = .ok (.newarray .int, 2) := by decide +kernel
theorem dX0_init_25 : decode cX0_init 25 = .ok (.putfield 18, 3) := by decide +kernel
theorem dX0_init_28 : decode cX0_init 28 = .ok (.return_, 1) := by decide +kernel
set_option maxRecDepth 20000 in
theorem ggX0_copyFrom_X0_makeRoom : GoodIn wsX0_copyFrom wsX0_makeRoom := goodIn_r _ [9, 2, 10, 11, 12, 13, 14, 15, 16, 3, 4, 17, 18, 19, 20, 21, 31, 32, 33, 34] (by decide +kernel) (by decide +kernel)
set_option maxRecDepth 20000 in
theorem gX0_copyFrom_X0_makeRoom : GoodIn wsX0_copyFrom (wsV RX0 25 RX0 yX0_makeRoom wsX0_makeRoom) := goodIn_app (goodIn_of _ (by decide +kernel)) ggX0_copyFrom_X0_makeRoom
set_option maxRecDepth 20000 in
theorem ggX0_copyFrom_X5_copy : GoodIn wsX0_copyFrom wsX5_copy := goodIn_r _ [24, 25, 26, 19, 27, 28, 29, 30] (by decide +kernel) (by decide +kernel)
set_option maxRecDepth 20000 in
theorem gX0_copyFrom_X5_copy : GoodIn wsX0_copyFrom (va_wsS RX0 29 yX5_copy wsX5_copy) := goodIn_app (goodIn_of _ (by decide +kernel)) ggX0_copyFrom_X5_copy
theorem dX0_copyFrom_0 : decode cX0_copyFrom 0 = .ok (.aload_n 0, 1) := by decide +kernel
theorem dX0_copyFrom_1 : decode cX0_copyFrom 1 = .ok (.aload_n 1, 1) := by decide +kernel
theorem dX0_copyFrom_2 : decode cX0_copyFrom 2 = .ok (.getfield 21, 3) := by decide +kernel
theorem dX0_copyFrom_5 : decode cX0_copyFrom 5 = .ok (.invokevirtual 25, 3) := by decide +kernel
theorem dX0_copyFrom_8 : decode cX0_copyFrom 8 = .ok (.aload_n 0, 1) := by decide +kernel
theorem dX0_copyFrom_9 : decode cX0_copyFrom 9 = .ok (.aload_n 1, 1) := by decide +kernel
theorem dX0_copyFrom_10 : decode cX0_copyFrom 10 = .ok (.getfield 21, 3) := by decide +kernel
theorem dX0_copyFrom_13 : decode cX0_copyFrom 13 = .ok (.putfield 21, 3) := by decide +kernel
theorem dX0_copyFrom_16 : decode cX0_copyFrom 16 = .ok (.aload_n 1, 1) := by decide +kernel
theorem dX0_copyFrom_17 : decode cX0_copyFrom 17 = .ok (.getfield 9, 3) := by decide +kernel
theorem dX0_copyFrom_20 : decode cX0_copyFrom 20 = .ok (.aload_n 0, 1) := by decide +kernel
theorem dX0_copyFrom_21 : decode cX0_copyFrom 21 = .ok (.getfield 9, 3) := by decide +kernel
theorem dX0_copyFrom_24 : decode cX0_copyFrom 24 = .ok (.aload_n 0, 1) := by decide +kernel
theorem dX0_copyFrom_25 : decode cX0_copyFrom 25 = .ok (.getfield 21, 3) := by decide +kernel
theorem dX0_copyFrom_28 : decode cX0_copyFrom 28 = .ok (.invokestatic 29, 3) := by decide +kernel
theorem dX0_copyFrom_31 : decode cX0_copyFrom 31 = .ok (.aload_n 1, 1) := by decide +kernel
theorem dX0_copyFrom_32 : decode cX0_copyFrom 32 = .ok (.getfield 15, 3) := by decide +kernel
theorem dX0_copyFrom_35 : decode cX0_copyFrom 35 = .ok (.aload_n 0, 1) := by decide +kernel
theorem dX0_copyFrom_36 : decode cX0_copyFrom 36 = .ok (.getfield 15, 3) := by decide +kernel
theorem dX0_copyFrom_39 : decode cX0_copyFrom 39 = .ok (.aload_n 0, 1) := by decide +kernel
theorem dX0_copyFrom_40 : decode cX0_copyFrom 40 = .ok (.getfield 21, 3) := by decide +kernel
theorem dX0_copyFrom_43 : decode cX0_copyFrom 43 = .ok (.invokestatic 29, 3) := by decide +kernel
theorem dX0_copyFrom_46 : decode cX0_copyFrom 46 = .ok (.aload_n 1, 1) := by decide +kernel
theorem dX0_copyFrom_47 : decode cX0_copyFrom 47 = .ok (.getfield 18, 3) := by decide +kernel
theorem dX0_copyFrom_50 : decode cX0_copyFrom 50 = .ok (.aload_n 0, 1) := by decide +kernel
theorem dX0_copyFrom_51 : decode cX0_copyFrom 51 = .ok (.getfield 18, 3) := by decide +kernel
theorem dX0_copyFrom_54 : decode cX0_copyFrom 54 = .ok (.aload_n 0, 1) := by decide +kernel
theorem dX0_copyFrom_55 : decode cX0_copyFrom 55 = .ok (.getfield 21, 3) := by decide +kernel
theorem dX0_copyFrom_58 : decode cX0_copyFrom 58 = .ok (.invokestatic 29, 3) := by decide +kernel
theorem dX0_copyFrom_61 : decode cX0_copyFrom 61 = .ok (.return_, 1) := by decide +kernel
set_option maxRecDepth 20000 in
theorem ggX0_book_X0_makeRoom : GoodIn wsX0_book wsX0_makeRoom := goodIn_r _ [8, 9, 10, 11, 12, 13, 14, 15, 16, 2, 3, 17, 18, 19, 20, 21, 46, 47, 48, 49] (by decide +kernel) (by decide +kernel)
set_option maxRecDepth 20000 in
theorem gX0_book_X0_makeRoom : GoodIn wsX0_book (wsV RX0 25 RX0 yX0_makeRoom wsX0_makeRoom) := goodIn_app (goodIn_of _ (by decide +kernel)) ggX0_book_X0_makeRoom
set_option maxRecDepth 20000 in
theorem ggX0_book_X7_leastPrime : GoodIn wsX0_book wsX7_leastPrime := goodIn_r _ [25, 26, 27, 24, 28] (by decide +kernel) (by decide +kernel)
set_option maxRecDepth 20000 in
theorem gX0_book_X7_leastPrime : GoodIn wsX0_book (va_wsS RX0 35 yX7_leastPrime wsX7_leastPrime) := goodIn_app (goodIn_of _ (by decide +kernel)) ggX0_book_X7_leastPrime
set_option maxRecDepth 20000 in
theorem ggX0_book_X0_placeOf : GoodIn wsX0_book wsX0_placeOf := goodIn_r _ [32, 1, 9, 33, 34, 19, 35, 46, 47, 48, 49] (by decide +kernel) (by decide +kernel)
set_option maxRecDepth 20000 in
theorem gX0_book_X0_placeOf : GoodIn wsX0_book (wsV RX0 41 RX0 yX0_placeOf wsX0_placeOf) := goodIn_app (goodIn_of _ (by decide +kernel)) ggX0_book_X0_placeOf
set_option maxRecDepth 20000 in
theorem ggX0_book_X0_openPlace : GoodIn wsX0_book wsX0_openPlace := goodIn_r _ [39, 1, 9, 2, 3, 40, 41, 19, 42, 46, 47, 48, 49] (by decide +kernel) (by decide +kernel)
set_option maxRecDepth 20000 in
theorem gX0_book_X0_openPlace : GoodIn wsX0_book (wsV RX0 44 RX0 yX0_openPlace wsX0_openPlace) := goodIn_app (goodIn_of _ (by decide +kernel)) ggX0_book_X0_openPlace
set_option maxRecDepth 20000 in
theorem ggX0_book_X5_at : GoodIn wsX0_book wsX5_at := goodIn_r _ [35] (by decide +kernel) (by decide +kernel)
set_option maxRecDepth 20000 in
theorem gX0_book_X5_at : GoodIn wsX0_book (va_wsS RX0 47 yX5_at wsX5_at) := goodIn_app (goodIn_of _ (by decide +kernel)) ggX0_book_X5_at
set_option maxRecDepth 20000 in
theorem ggX0_book_X5_put : GoodIn wsX0_book wsX5_put := goodIn_r _ [42] (by decide +kernel) (by decide +kernel)
set_option maxRecDepth 20000 in
theorem gX0_book_X5_put : GoodIn wsX0_book (va_wsS RX0 51 yX5_put wsX5_put) := goodIn_app (goodIn_of _ (by decide +kernel)) ggX0_book_X5_put
set_option maxRecDepth 20000 in
theorem ggX0_book_X7_quotient : GoodIn wsX0_book wsX7_quotient := goodIn_r _ [45] (by decide +kernel) (by decide +kernel)
set_option maxRecDepth 20000 in
theorem gX0_book_X7_quotient : GoodIn wsX0_book (va_wsS RX0 55 yX7_quotient wsX7_quotient) := goodIn_app (goodIn_of _ (by decide +kernel)) ggX0_book_X7_quotient
theorem dX0_book_0 : decode cX0_book 0 = .ok (.aload_n 0, 1) := by decide +kernel
theorem dX0_book_1 : decode cX0_book 1 = .ok (.aload_n 0, 1) := by decide +kernel
theorem dX0_book_2 : decode cX0_book 2 = .ok (.getfield 21, 3) := by decide +kernel
theorem dX0_book_5 : decode cX0_book 5 = .ok (.iconst 5, 1) := by decide +kernel
theorem dX0_book_6 : decode cX0_book 6 = .ok (.iadd, 1) := by decide +kernel
theorem dX0_book_7 : decode cX0_book 7 = .ok (.invokevirtual 25, 3) := by decide +kernel
theorem dX0_book_10 : decode cX0_book 10 = .ok (.iload_n 1, 1) := by decide +kernel
theorem dX0_book_11 : decode cX0_book 11 = .ok (.istore 4, 2) := by decide +kernel
theorem dX0_book_13 : decode cX0_book 13 = .ok (.iconst 0, 1) := by decide +kernel
theorem dX0_book_14 : decode cX0_book 14 = .ok (.istore 5, 2) := by decide +kernel
theorem dX0_book_16 : decode cX0_book 16 = .ok (.iload 5, 2) := by decide +kernel
theorem dX0_book_18 : decode cX0_book 18 = .ok (.bipush 13, 2) := by decide +kernel
theorem dX0_book_20 : decode cX0_book 20 = .ok (.if_icmp .ge 93, 3) := by decide +kernel
theorem dX0_book_23 : decode cX0_book 23 = .ok (.iload 4, 2) := by decide +kernel
theorem dX0_book_25 : decode cX0_book 25 = .ok (.iconst 1, 1) := by decide +kernel
theorem dX0_book_26 : decode cX0_book 26 = .ok (.if_icmp .le 87, 3) := by decide +kernel
theorem dX0_book_29 : decode cX0_book 29 = .ok (.iload 4, 2) := by decide +kernel
theorem dX0_book_31 : decode cX0_book 31 = .ok (.invokestatic 35, 3) := by decide +kernel
theorem dX0_book_34 : decode cX0_book 34 = .ok (.istore 6, 2) := by decide +kernel
theorem dX0_book_36 : decode cX0_book 36 = .ok (.aload_n 0, 1) := by decide +kernel
theorem dX0_book_37 : decode cX0_book 37 = .ok (.iload 6, 2) := by decide +kernel
theorem dX0_book_39 : decode cX0_book 39 = .ok (.invokevirtual 41, 3) := by decide +kernel
theorem dX0_book_42 : decode cX0_book 42 = .ok (.istore 7, 2) := by decide +kernel
theorem dX0_book_44 : decode cX0_book 44 = .ok (.iload 7, 2) := by decide +kernel
theorem dX0_book_46 : decode cX0_book 46 = .ok (.iconst (-1), 1) := by decide +kernel
theorem dX0_book_47 : decode cX0_book 47 = .ok (.if_icmp .ne 11, 3) := by decide +kernel
theorem dX0_book_50 : decode cX0_book 50 = .ok (.aload_n 0, 1) := by decide +kernel
theorem dX0_book_51 : decode cX0_book 51 = .ok (.iload 6, 2) := by decide +kernel
theorem dX0_book_53 : decode cX0_book 53 = .ok (.invokevirtual 44, 3) := by decide +kernel
theorem dX0_book_56 : decode cX0_book 56 = .ok (.istore 7, 2) := by decide +kernel
theorem dX0_book_58 : decode cX0_book 58 = .ok (.aload_n 0, 1) := by decide +kernel
theorem dX0_book_59 : decode cX0_book 59 = .ok (.getfield 15, 3) := by decide +kernel
theorem dX0_book_62 : decode cX0_book 62 = .ok (.iload 7, 2) := by decide +kernel
theorem dX0_book_64 : decode cX0_book 64 = .ok (.aload_n 0, 1) := by decide +kernel
theorem dX0_book_65 : decode cX0_book 65 = .ok (.getfield 15, 3) := by decide +kernel
theorem dX0_book_68 : decode cX0_book 68 = .ok (.iload 7, 2) := by decide +kernel
theorem dX0_book_70 : decode cX0_book 70 = .ok (.invokestatic 47, 3) := by decide +kernel
theorem dX0_book_73 : decode cX0_book 73 = .ok (.iload_n 2, 1) := by decide +kernel
theorem dX0_book_74 : decode cX0_book 74 = .ok (.iadd, 1) := by decide +kernel
theorem dX0_book_75 : decode cX0_book 75 = .ok (.invokestatic 51, 3) := by decide +kernel
theorem dX0_book_78 : decode cX0_book 78 = .ok (.aload_n 0, 1) := by decide +kernel
theorem dX0_book_79 : decode cX0_book 79 = .ok (.getfield 18, 3) := by decide +kernel
theorem dX0_book_82 : decode cX0_book 82 = .ok (.iload 7, 2) := by decide +kernel
theorem dX0_book_84 : decode cX0_book 84 = .ok (.aload_n 0, 1) := by decide +kernel
theorem dX0_book_85 : decode cX0_book 85 = .ok (.getfield 18, 3) := by decide +kernel
theorem dX0_book_88 : decode cX0_book 88 = .ok (.iload 7, 2) := by decide +kernel
theorem dX0_book_90 : decode cX0_book 90 = .ok (.invokestatic 47, 3) := by decide +kernel
theorem dX0_book_93 : decode cX0_book 93 = .ok (.iload_n 3, 1) := by decide +kernel
theorem dX0_book_94 : decode cX0_book 94 = .ok (.iadd, 1) := by decide +kernel
theorem dX0_book_95 : decode cX0_book 95 = .ok (.invokestatic 51, 3) := by decide +kernel
theorem dX0_book_98 : decode cX0_book 98 = .ok (.iload 4, 2) := by decide +kernel
theorem dX0_book_100 : decode cX0_book 100 = .ok (.iload 6, 2) := by decide +kernel
theorem dX0_book_102 : decode cX0_book 102 = .ok (.invokestatic 55, 3) := by decide +kernel
theorem dX0_book_105 : decode cX0_book 105 = .ok (.istore 4, 2) := by decide +kernel
theorem dX0_book_107 : decode cX0_book 107 = .ok (.iinc 5 1, 3) := by decide +kernel
theorem dX0_book_110 : decode cX0_book 110 = .ok (.goto (-94), 3) := by decide +kernel
theorem dX0_book_113 : decode cX0_book 113 = .ok (.return_, 1) := by decide +kernel
set_option maxRecDepth 20000 in
theorem ggX0_chipsOf_X0_placeOf : GoodIn wsX0_chipsOf wsX0_placeOf := goodIn_r _ [6, 7, 8, 9, 10, 11, 12, 13, 14, 15, 16] (by decide +kernel) (by decide +kernel)
set_option maxRecDepth 20000 in
theorem gX0_chipsOf_X0_placeOf : GoodIn wsX0_chipsOf (wsV RX0 41 RX0 yX0_placeOf wsX0_placeOf) := goodIn_app (goodIn_of _ (by decide +kernel)) ggX0_chipsOf_X0_placeOf
set_option maxRecDepth 20000 in
theorem ggX0_chipsOf_X5_at : GoodIn wsX0_chipsOf wsX5_at := goodIn_r _ [12] (by decide +kernel) (by decide +kernel)
set_option maxRecDepth 20000 in
theorem gX0_chipsOf_X5_at : GoodIn wsX0_chipsOf (va_wsS RX0 47 yX5_at wsX5_at) := goodIn_app (goodIn_of _ (by decide +kernel)) ggX0_chipsOf_X5_at
theorem dX0_chipsOf_0 : decode cX0_chipsOf 0 = .ok (.aload_n 0, 1) := by decide +kernel
theorem dX0_chipsOf_1 : decode cX0_chipsOf 1 = .ok (.getfield 15, 3) := by decide +kernel
theorem dX0_chipsOf_4 : decode cX0_chipsOf 4 = .ok (.aload_n 0, 1) := by decide +kernel
theorem dX0_chipsOf_5 : decode cX0_chipsOf 5 = .ok (.iload_n 1, 1) := by decide +kernel
theorem dX0_chipsOf_6 : decode cX0_chipsOf 6 = .ok (.invokevirtual 41, 3) := by decide +kernel
theorem dX0_chipsOf_9 : decode cX0_chipsOf 9 = .ok (.invokestatic 47, 3) := by decide +kernel
theorem dX0_chipsOf_12 : decode cX0_chipsOf 12 = .ok (.ireturn, 1) := by decide +kernel
set_option maxRecDepth 20000 in
theorem ggX0_cameOf_X0_placeOf : GoodIn wsX0_cameOf wsX0_placeOf := goodIn_r _ [6, 7, 8, 9, 10, 11, 12, 13, 14, 15, 16] (by decide +kernel) (by decide +kernel)
set_option maxRecDepth 20000 in
theorem gX0_cameOf_X0_placeOf : GoodIn wsX0_cameOf (wsV RX0 41 RX0 yX0_placeOf wsX0_placeOf) := goodIn_app (goodIn_of _ (by decide +kernel)) ggX0_cameOf_X0_placeOf
set_option maxRecDepth 20000 in
theorem ggX0_cameOf_X5_at : GoodIn wsX0_cameOf wsX5_at := goodIn_r _ [12] (by decide +kernel) (by decide +kernel)
set_option maxRecDepth 20000 in
theorem gX0_cameOf_X5_at : GoodIn wsX0_cameOf (va_wsS RX0 47 yX5_at wsX5_at) := goodIn_app (goodIn_of _ (by decide +kernel)) ggX0_cameOf_X5_at
theorem dX0_cameOf_0 : decode cX0_cameOf 0 = .ok (.aload_n 0, 1) := by decide +kernel
theorem dX0_cameOf_1 : decode cX0_cameOf 1 = .ok (.getfield 18, 3) := by decide +kernel
theorem dX0_cameOf_4 : decode cX0_cameOf 4 = .ok (.aload_n 0, 1) := by decide +kernel
theorem dX0_cameOf_5 : decode cX0_cameOf 5 = .ok (.iload_n 1, 1) := by decide +kernel
theorem dX0_cameOf_6 : decode cX0_cameOf 6 = .ok (.invokevirtual 41, 3) := by decide +kernel
theorem dX0_cameOf_9 : decode cX0_cameOf 9 = .ok (.invokestatic 47, 3) := by decide +kernel
theorem dX0_cameOf_12 : decode cX0_cameOf 12 = .ok (.ireturn, 1) := by decide +kernel
set_option maxRecDepth 20000 in
theorem ggX0_allChips_X5_at : GoodIn wsX0_allChips wsX5_at := goodIn_r _ [6] (by decide +kernel) (by decide +kernel)
set_option maxRecDepth 20000 in
theorem gX0_allChips_X5_at : GoodIn wsX0_allChips (va_wsS RX0 47 yX5_at wsX5_at) := goodIn_app (goodIn_of _ (by decide +kernel)) ggX0_allChips_X5_at
theorem dX0_allChips_0 : decode cX0_allChips 0 = .ok (.iconst 0, 1) := by decide +kernel
theorem dX0_allChips_1 : decode cX0_allChips 1 = .ok (.istore_n 1, 1) := by decide +kernel
theorem dX0_allChips_2 : decode cX0_allChips 2 = .ok (.iconst 0, 1) := by decide +kernel
theorem dX0_allChips_3 : decode cX0_allChips 3 = .ok (.istore_n 2, 1) := by decide +kernel
theorem dX0_allChips_4 : decode cX0_allChips 4 = .ok (.iload_n 2, 1) := by decide +kernel
theorem dX0_allChips_5 : decode cX0_allChips 5 = .ok (.aload_n 0, 1) := by decide +kernel
theorem dX0_allChips_6 : decode cX0_allChips 6 = .ok (.getfield 21, 3) := by decide +kernel
theorem dX0_allChips_9 : decode cX0_allChips 9 = .ok (.if_icmp .ge 20, 3) := by decide +kernel
theorem dX0_allChips_12 : decode cX0_allChips 12 = .ok (.iload_n 1, 1) := by decide +kernel
theorem dX0_allChips_13 : decode cX0_allChips 13 = .ok (.aload_n 0, 1) := by decide +kernel
theorem dX0_allChips_14 : decode cX0_allChips 14 = .ok (.getfield 15, 3) := by decide +kernel
theorem dX0_allChips_17 : decode cX0_allChips 17 = .ok (.iload_n 2, 1) := by decide +kernel
theorem dX0_allChips_18 : decode cX0_allChips 18 = .ok (.invokestatic 47, 3) := by decide +kernel
theorem dX0_allChips_21 : decode cX0_allChips 21 = .ok (.iadd, 1) := by decide +kernel
theorem dX0_allChips_22 : decode cX0_allChips 22 = .ok (.istore_n 1, 1) := by decide +kernel
theorem dX0_allChips_23 : decode cX0_allChips 23 = .ok (.iinc 2 1, 3) := by decide +kernel
theorem dX0_allChips_26 : decode cX0_allChips 26 = .ok (.goto (-22), 3) := by decide +kernel
theorem dX0_allChips_29 : decode cX0_allChips 29 = .ok (.iload_n 1, 1) := by decide +kernel
theorem dX0_allChips_30 : decode cX0_allChips 30 = .ok (.ireturn, 1) := by decide +kernel
set_option maxRecDepth 20000 in
theorem ggX0_kindsOfChips_X5_at : GoodIn wsX0_kindsOfChips wsX5_at := goodIn_r _ [6] (by decide +kernel) (by decide +kernel)
set_option maxRecDepth 20000 in
theorem gX0_kindsOfChips_X5_at : GoodIn wsX0_kindsOfChips (va_wsS RX0 47 yX5_at wsX5_at) := goodIn_app (goodIn_of _ (by decide +kernel)) ggX0_kindsOfChips_X5_at
theorem dX0_kindsOfChips_0 : decode cX0_kindsOfChips 0 = .ok (.iconst 0, 1) := by decide +kernel
theorem dX0_kindsOfChips_1 : decode cX0_kindsOfChips 1 = .ok (.istore_n 1, 1) := by decide +kernel
theorem dX0_kindsOfChips_2 : decode cX0_kindsOfChips 2 = .ok (.iconst 0, 1) := by decide +kernel
theorem dX0_kindsOfChips_3 : decode cX0_kindsOfChips 3 = .ok (.istore_n 2, 1) := by decide +kernel
theorem dX0_kindsOfChips_4 : decode cX0_kindsOfChips 4 = .ok (.iload_n 2, 1) := by decide +kernel
theorem dX0_kindsOfChips_5 : decode cX0_kindsOfChips 5 = .ok (.aload_n 0, 1) := by decide +kernel
theorem dX0_kindsOfChips_6 : decode cX0_kindsOfChips 6 = .ok (.getfield 21, 3) := by decide +kernel
theorem dX0_kindsOfChips_9 : decode cX0_kindsOfChips 9 = .ok (.if_icmp .ge 23, 3) := by decide +kernel
theorem dX0_kindsOfChips_12 : decode cX0_kindsOfChips 12 = .ok (.aload_n 0, 1) := by decide +kernel
theorem dX0_kindsOfChips_13 : decode cX0_kindsOfChips 13 = .ok (.getfield 15, 3) := by decide +kernel
theorem dX0_kindsOfChips_16 : decode cX0_kindsOfChips 16 = .ok (.iload_n 2, 1) := by decide +kernel
theorem dX0_kindsOfChips_17 : decode cX0_kindsOfChips 17 = .ok (.invokestatic 47, 3) := by decide +kernel
theorem dX0_kindsOfChips_20 : decode cX0_kindsOfChips 20 = .ok (.ifCond .le 6, 3) := by decide +kernel
theorem dX0_kindsOfChips_23 : decode cX0_kindsOfChips 23 = .ok (.iinc 1 1, 3) := by decide +kernel
theorem dX0_kindsOfChips_26 : decode cX0_kindsOfChips 26 = .ok (.iinc 2 1, 3) := by decide +kernel
theorem dX0_kindsOfChips_29 : decode cX0_kindsOfChips 29 = .ok (.goto (-25), 3) := by decide +kernel
theorem dX0_kindsOfChips_32 : decode cX0_kindsOfChips 32 = .ok (.iload_n 1, 1) := by decide +kernel
theorem dX0_kindsOfChips_33 : decode cX0_kindsOfChips 33 = .ok (.ireturn, 1) := by decide +kernel
set_option maxRecDepth 20000 in
theorem ggX0_placeOf_X5_at : GoodIn wsX0_placeOf wsX5_at := goodIn_r _ [6] (by decide +kernel) (by decide +kernel)
set_option maxRecDepth 20000 in
theorem gX0_placeOf_X5_at : GoodIn wsX0_placeOf (va_wsS RX0 47 yX5_at wsX5_at) := goodIn_app (goodIn_of _ (by decide +kernel)) ggX0_placeOf_X5_at
theorem dX0_placeOf_0 : decode cX0_placeOf 0 = .ok (.iconst 0, 1) := by decide +kernel
theorem dX0_placeOf_1 : decode cX0_placeOf 1 = .ok (.istore_n 2, 1) := by decide +kernel
theorem dX0_placeOf_2 : decode cX0_placeOf 2 = .ok (.iload_n 2, 1) := by decide +kernel
theorem dX0_placeOf_3 : decode cX0_placeOf 3 = .ok (.aload_n 0, 1) := by decide +kernel
theorem dX0_placeOf_4 : decode cX0_placeOf 4 = .ok (.getfield 21, 3) := by decide +kernel
theorem dX0_placeOf_7 : decode cX0_placeOf 7 = .ok (.if_icmp .ge 23, 3) := by decide +kernel
theorem dX0_placeOf_10 : decode cX0_placeOf 10 = .ok (.aload_n 0, 1) := by decide +kernel
theorem dX0_placeOf_11 : decode cX0_placeOf 11 = .ok (.getfield 9, 3) := by decide +kernel
theorem dX0_placeOf_14 : decode cX0_placeOf 14 = .ok (.iload_n 2, 1) := by decide +kernel
theorem dX0_placeOf_15 : decode cX0_placeOf 15 = .ok (.invokestatic 47, 3) := by decide +kernel
theorem dX0_placeOf_18 : decode cX0_placeOf 18 = .ok (.iload_n 1, 1) := by decide +kernel
theorem dX0_placeOf_19 : decode cX0_placeOf 19 = .ok (.if_icmp .ne 5, 3) := by decide +kernel
theorem dX0_placeOf_22 : decode cX0_placeOf 22 = .ok (.iload_n 2, 1) := by decide +kernel
theorem dX0_placeOf_23 : decode cX0_placeOf 23 = .ok (.ireturn, 1) := by decide +kernel
theorem dX0_placeOf_24 : decode cX0_placeOf 24 = .ok (.iinc 2 1, 3) := by decide +kernel
theorem dX0_placeOf_27 : decode cX0_placeOf 27 = .ok (.goto (-25), 3) := by decide +kernel
theorem dX0_placeOf_30 : decode cX0_placeOf 30 = .ok (.iconst (-1), 1) := by decide +kernel
theorem dX0_placeOf_31 : decode cX0_placeOf 31 = .ok (.ireturn, 1) := by decide +kernel
set_option maxRecDepth 20000 in
theorem ggX0_openPlace_X5_put : GoodIn wsX0_openPlace wsX5_put := goodIn_r _ [8] (by decide +kernel) (by decide +kernel)
set_option maxRecDepth 20000 in
theorem gX0_openPlace_X5_put : GoodIn wsX0_openPlace (va_wsS RX0 51 yX5_put wsX5_put) := goodIn_app (goodIn_of _ (by decide +kernel)) ggX0_openPlace_X5_put
theorem dX0_openPlace_0 : decode cX0_openPlace 0 = .ok (.aload_n 0, 1) := by decide +kernel
theorem dX0_openPlace_1 : decode cX0_openPlace 1 = .ok (.getfield 21, 3) := by decide +kernel
theorem dX0_openPlace_4 : decode cX0_openPlace 4 = .ok (.istore_n 2, 1) := by decide +kernel
theorem dX0_openPlace_5 : decode cX0_openPlace 5 = .ok (.aload_n 0, 1) := by decide +kernel
theorem dX0_openPlace_6 : decode cX0_openPlace 6 = .ok (.getfield 9, 3) := by decide +kernel
theorem dX0_openPlace_9 : decode cX0_openPlace 9 = .ok (.iload_n 2, 1) := by decide +kernel
theorem dX0_openPlace_10 : decode cX0_openPlace 10 = .ok (.iload_n 1, 1) := by decide +kernel
theorem dX0_openPlace_11 : decode cX0_openPlace 11 = .ok (.invokestatic 51, 3) := by decide +kernel
theorem dX0_openPlace_14 : decode cX0_openPlace 14 = .ok (.aload_n 0, 1) := by decide +kernel
theorem dX0_openPlace_15 : decode cX0_openPlace 15 = .ok (.getfield 15, 3) := by decide +kernel
theorem dX0_openPlace_18 : decode cX0_openPlace 18 = .ok (.iload_n 2, 1) := by decide +kernel
theorem dX0_openPlace_19 : decode cX0_openPlace 19 = .ok (.iconst 0, 1) := by decide +kernel
theorem dX0_openPlace_20 : decode cX0_openPlace 20 = .ok (.invokestatic 51, 3) := by decide +kernel
theorem dX0_openPlace_23 : decode cX0_openPlace 23 = .ok (.aload_n 0, 1) := by decide +kernel
theorem dX0_openPlace_24 : decode cX0_openPlace 24 = .ok (.getfield 18, 3) := by decide +kernel
theorem dX0_openPlace_27 : decode cX0_openPlace 27 = .ok (.iload_n 2, 1) := by decide +kernel
theorem dX0_openPlace_28 : decode cX0_openPlace 28 = .ok (.iconst 0, 1) := by decide +kernel
theorem dX0_openPlace_29 : decode cX0_openPlace 29 = .ok (.invokestatic 51, 3) := by decide +kernel
theorem dX0_openPlace_32 : decode cX0_openPlace 32 = .ok (.aload_n 0, 1) := by decide +kernel
theorem dX0_openPlace_33 : decode cX0_openPlace 33 = .ok (.dup, 1) := by decide +kernel
theorem dX0_openPlace_34 : decode cX0_openPlace 34 = .ok (.getfield 21, 3) := by decide +kernel
theorem dX0_openPlace_37 : decode cX0_openPlace 37 = .ok (.iconst 1, 1) := by decide +kernel
theorem dX0_openPlace_38 : decode cX0_openPlace 38 = .ok (.iadd, 1) := by decide +kernel
theorem dX0_openPlace_39 : decode cX0_openPlace 39 = .ok (.putfield 21, 3) := by decide +kernel
theorem dX0_openPlace_42 : decode cX0_openPlace 42 = .ok (.iload_n 2, 1) := by decide +kernel
theorem dX0_openPlace_43 : decode cX0_openPlace 43 = .ok (.ireturn, 1) := by decide +kernel
set_option maxRecDepth 20000 in
theorem ggX0_makeRoom_X5_longer : GoodIn wsX0_makeRoom wsX5_longer := goodIn_r _ [14, 15] (by decide +kernel) (by decide +kernel)
set_option maxRecDepth 20000 in
theorem gX0_makeRoom_X5_longer : GoodIn wsX0_makeRoom (va_wsS RX0 67 yX5_longer wsX5_longer) := goodIn_app (goodIn_of _ (by decide +kernel)) ggX0_makeRoom_X5_longer
theorem dX0_makeRoom_0 : decode cX0_makeRoom 0 = .ok (.iload_n 1, 1) := by decide +kernel
theorem dX0_makeRoom_1 : decode cX0_makeRoom 1 = .ok (.aload_n 0, 1) := by decide +kernel
theorem dX0_makeRoom_2 : decode cX0_makeRoom 2 = .ok (.getfield 9, 3) := by decide +kernel
theorem dX0_makeRoom_5 : decode cX0_makeRoom 5 = .ok (.arraylength, 1) := by decide +kernel
theorem dX0_makeRoom_6 : decode cX0_makeRoom 6 = .ok (.if_icmp .le 14, 3) := by decide +kernel
theorem dX0_makeRoom_9 : decode cX0_makeRoom 9 = .ok (.aload_n 0, 1) := by decide +kernel
theorem dX0_makeRoom_10 : decode cX0_makeRoom 10 = .ok (.getfield 9, 3) := by decide +kernel
theorem dX0_makeRoom_13 : decode cX0_makeRoom 13 = .ok (.arraylength, 1) := by decide +kernel
theorem dX0_makeRoom_14 : decode cX0_makeRoom 14 = .ok (.sipush 1229, 3) := by decide +kernel
theorem dX0_makeRoom_17 : decode cX0_makeRoom 17 = .ok (.if_icmp .lt 4, 3) := by decide +kernel
theorem dX0_makeRoom_20 : decode cX0_makeRoom 20 = .ok (.return_, 1) := by decide +kernel
theorem dX0_makeRoom_21 : decode cX0_makeRoom 21 = .ok (.sipush 1229, 3) := by decide +kernel
theorem dX0_makeRoom_24 : decode cX0_makeRoom 24 = .ok (.iload_n 1, 1) := by decide +kernel
theorem dX0_makeRoom_25 : decode cX0_makeRoom 25 = .ok (.iconst 2, 1) := by decide +kernel
theorem dX0_makeRoom_26 : decode cX0_makeRoom 26 = .ok (.aload_n 0, 1) := by decide +kernel
theorem dX0_makeRoom_27 : decode cX0_makeRoom 27 = .ok (.getfield 9, 3) := by decide +kernel
theorem dX0_makeRoom_30 : decode cX0_makeRoom 30 = .ok (.arraylength, 1) := by decide +kernel
theorem dX0_makeRoom_31 : decode cX0_makeRoom 31 = .ok (.imul, 1) := by decide +kernel
theorem dX0_makeRoom_32 : decode cX0_makeRoom 32 = .ok (.invokestatic 59, 3) := by decide +kernel
theorem dX0_makeRoom_35 : decode cX0_makeRoom 35 = .ok (.invokestatic 64, 3) := by decide +kernel
theorem dX0_makeRoom_38 : decode cX0_makeRoom 38 = .ok (.istore_n 2, 1) := by decide +kernel
theorem dX0_makeRoom_39 : decode cX0_makeRoom 39 = .ok (.aload_n 0, 1) := by decide +kernel
theorem dX0_makeRoom_40 : decode cX0_makeRoom 40 = .ok (.aload_n 0, 1) := by decide +kernel
theorem dX0_makeRoom_41 : decode cX0_makeRoom 41 = .ok (.getfield 9, 3) := by decide +kernel
theorem dX0_makeRoom_44 : decode cX0_makeRoom 44 = .ok (.iload_n 2, 1) := by decide +kernel
theorem dX0_makeRoom_45 : decode cX0_makeRoom 45 = .ok (.invokestatic 67, 3) := by decide +kernel
theorem dX0_makeRoom_48 : decode cX0_makeRoom 48 = .ok (.putfield 9, 3) := by decide +kernel
theorem dX0_makeRoom_51 : decode cX0_makeRoom 51 = .ok (.aload_n 0, 1) := by decide +kernel
theorem dX0_makeRoom_52 : decode cX0_makeRoom 52 = .ok (.aload_n 0, 1) := by decide +kernel
theorem dX0_makeRoom_53 : decode cX0_makeRoom 53 = .ok (.getfield 15, 3) := by decide +kernel
theorem dX0_makeRoom_56 : decode cX0_makeRoom 56 = .ok (.iload_n 2, 1) := by decide +kernel
theorem dX0_makeRoom_57 : decode cX0_makeRoom 57 = .ok (.invokestatic 67, 3) := by decide +kernel
theorem dX0_makeRoom_60 : decode cX0_makeRoom 60 = .ok (.putfield 15, 3) := by decide +kernel
theorem dX0_makeRoom_63 : decode cX0_makeRoom 63 = .ok (.aload_n 0, 1) := by decide +kernel
theorem dX0_makeRoom_64 : decode cX0_makeRoom 64 = .ok (.aload_n 0, 1) := by decide +kernel
theorem dX0_makeRoom_65 : decode cX0_makeRoom 65 = .ok (.getfield 18, 3) := by decide +kernel
theorem dX0_makeRoom_68 : decode cX0_makeRoom 68 = .ok (.iload_n 2, 1) := by decide +kernel
theorem dX0_makeRoom_69 : decode cX0_makeRoom 69 = .ok (.invokestatic 67, 3) := by decide +kernel
theorem dX0_makeRoom_72 : decode cX0_makeRoom 72 = .ok (.putfield 18, 3) := by decide +kernel
theorem dX0_makeRoom_75 : decode cX0_makeRoom 75 = .ok (.return_, 1) := by decide +kernel
theorem dX1_init_0 : decode cX1_init 0 = .ok (.aload_n 0, 1) := by decide +kernel
theorem dX1_init_1 : decode cX1_init 1 = .ok (.invokespecial 3, 3) := by decide +kernel
theorem dX1_init_4 : decode cX1_init 4 = .ok (.aload_n 0, 1) := by decide +kernel
theorem dX1_init_5 : decode cX1_init 5 = .ok (.bipush 12, 2) := by decide +kernel
theorem dX1_init_7 : decode cX1_init 7 = .ok (.newarray .int, 2) := by decide +kernel
theorem dX1_init_9 : decode cX1_init 9 = .ok (.putfield 9, 3) := by decide +kernel
theorem dX1_init_12 : decode cX1_init 12 = .ok (.aload_n 0, 1) := by decide +kernel
theorem dX1_init_13 : decode cX1_init 13 = .ok (.bipush 12, 2) := by decide +kernel
theorem dX1_init_15 : decode cX1_init 15 = .ok (.newarray .int, 2) := by decide +kernel
theorem dX1_init_17 : decode cX1_init 17 = .ok (.putfield 15, 3) := by decide +kernel
theorem dX1_init_20 : decode cX1_init 20 = .ok (.aload_n 0, 1) := by decide +kernel
theorem dX1_init_21 : decode cX1_init 21 = .ok (.bipush 12, 2) := by decide +kernel
theorem dX1_init_23 : decode cX1_init 23 = .ok (.newarray .int, 2) := by decide +kernel
theorem dX1_init_25 : decode cX1_init 25 = .ok (.putfield 18, 3) := by decide +kernel
theorem dX1_init_28 : decode cX1_init 28 = .ok (.aload_n 0, 1) := by decide +kernel
theorem dX1_init_29 : decode cX1_init 29 = .ok (.bipush 12, 2) := by decide +kernel
theorem dX1_init_31 : decode cX1_init 31 = .ok (.newarray .int, 2) := by decide +kernel
theorem dX1_init_33 : decode cX1_init 33 = .ok (.putfield 21, 3) := by decide +kernel
theorem dX1_init_36 : decode cX1_init 36 = .ok (.return_, 1) := by decide +kernel
set_option maxRecDepth 20000 in
theorem ggX1_addUp_X5_put : GoodIn wsX1_addUp wsX5_put := goodIn_r _ [5] (by decide +kernel) (by decide +kernel)
set_option maxRecDepth 20000 in
theorem gX1_addUp_X5_put : GoodIn wsX1_addUp (va_wsS RX1 24 yX5_put wsX5_put) := goodIn_app (goodIn_of _ (by decide +kernel)) ggX1_addUp_X5_put
set_option maxRecDepth 20000 in
theorem ggX1_addUp_X6_leads : GoodIn wsX1_addUp wsX6_leads := goodIn_r _ [10, 11, 12, 13, 9, 14, 15, 16, 17, 18, 19, 20, 21, 22, 23, 24, 25, 26, 27, 28, 29, 30, 31, 32, 33, 45, 46, 47, 48, 49, 50] (by decide +kernel) (by decide +kernel)
set_option maxRecDepth 20000 in
theorem gX1_addUp_X6_leads : GoodIn wsX1_addUp (wsV RX1 30 RX6 yX6_leads wsX6_leads) := goodIn_app (goodIn_of _ (by decide +kernel)) ggX1_addUp_X6_leads
set_option maxRecDepth 20000 in
theorem ggX1_addUp_X5_at : GoodIn wsX1_addUp wsX5_at := goodIn_r _ [36] (by decide +kernel) (by decide +kernel)
set_option maxRecDepth 20000 in
theorem gX1_addUp_X5_at : GoodIn wsX1_addUp (va_wsS RX1 36 yX5_at wsX5_at) := goodIn_app (goodIn_of _ (by decide +kernel)) ggX1_addUp_X5_at
theorem dX1_addUp_0 : decode cX1_addUp 0 = .ok (.aload_n 0, 1) := by decide +kernel
theorem dX1_addUp_1 : decode cX1_addUp 1 = .ok (.getfield 15, 3) := by decide +kernel
theorem dX1_addUp_4 : decode cX1_addUp 4 = .ok (.iload_n 2, 1) := by decide +kernel
theorem dX1_addUp_5 : decode cX1_addUp 5 = .ok (.iconst 1, 1) := by decide +kernel
theorem dX1_addUp_6 : decode cX1_addUp 6 = .ok (.invokestatic 24, 3) := by decide +kernel
theorem dX1_addUp_9 : decode cX1_addUp 9 = .ok (.iload_n 2, 1) := by decide +kernel
theorem dX1_addUp_10 : decode cX1_addUp 10 = .ok (.iconst 1, 1) := by decide +kernel
theorem dX1_addUp_11 : decode cX1_addUp 11 = .ok (.iadd, 1) := by decide +kernel
theorem dX1_addUp_12 : decode cX1_addUp 12 = .ok (.istore 4, 2) := by decide +kernel
theorem dX1_addUp_14 : decode cX1_addUp 14 = .ok (.iload 4, 2) := by decide +kernel
theorem dX1_addUp_16 : decode cX1_addUp 16 = .ok (.iload_n 3, 1) := by decide +kernel
theorem dX1_addUp_17 : decode cX1_addUp 17 = .ok (.if_icmp .gt 64, 3) := by decide +kernel
theorem dX1_addUp_20 : decode cX1_addUp 20 = .ok (.iconst 0, 1) := by decide +kernel
theorem dX1_addUp_21 : decode cX1_addUp 21 = .ok (.istore 5, 2) := by decide +kernel
theorem dX1_addUp_23 : decode cX1_addUp 23 = .ok (.iload_n 2, 1) := by decide +kernel
theorem dX1_addUp_24 : decode cX1_addUp 24 = .ok (.istore 6, 2) := by decide +kernel
theorem dX1_addUp_26 : decode cX1_addUp 26 = .ok (.iload 6, 2) := by decide +kernel
theorem dX1_addUp_28 : decode cX1_addUp 28 = .ok (.iload 4, 2) := by decide +kernel
theorem dX1_addUp_30 : decode cX1_addUp 30 = .ok (.if_icmp .ge 34, 3) := by decide +kernel
theorem dX1_addUp_33 : decode cX1_addUp 33 = .ok (.aload_n 1, 1) := by decide +kernel
theorem dX1_addUp_34 : decode cX1_addUp 34 = .ok (.iload 6, 2) := by decide +kernel
theorem dX1_addUp_36 : decode cX1_addUp 36 = .ok (.iload 4, 2) := by decide +kernel
theorem dX1_addUp_38 : decode cX1_addUp 38 = .ok (.invokevirtual 30, 3) := by decide +kernel
theorem dX1_addUp_41 : decode cX1_addUp 41 = .ok (.ifCond .eq 17, 3) := by decide +kernel
theorem dX1_addUp_44 : decode cX1_addUp 44 = .ok (.iload 5, 2) := by decide +kernel
theorem dX1_addUp_46 : decode cX1_addUp 46 = .ok (.aload_n 0, 1) := by decide +kernel
theorem dX1_addUp_47 : decode cX1_addUp 47 = .ok (.getfield 15, 3) := by decide +kernel
theorem dX1_addUp_50 : decode cX1_addUp 50 = .ok (.iload 6, 2) := by decide +kernel
theorem dX1_addUp_52 : decode cX1_addUp 52 = .ok (.invokestatic 36, 3) := by decide +kernel
theorem dX1_addUp_55 : decode cX1_addUp 55 = .ok (.iadd, 1) := by decide +kernel
theorem dX1_addUp_56 : decode cX1_addUp 56 = .ok (.istore 5, 2) := by decide +kernel
theorem dX1_addUp_58 : decode cX1_addUp 58 = .ok (.iinc 6 1, 3) := by decide +kernel
theorem dX1_addUp_61 : decode cX1_addUp 61 = .ok (.goto (-35), 3) := by decide +kernel
theorem dX1_addUp_64 : decode cX1_addUp 64 = .ok (.aload_n 0, 1) := by decide +kernel
theorem dX1_addUp_65 : decode cX1_addUp 65 = .ok (.getfield 15, 3) := by decide +kernel
theorem dX1_addUp_68 : decode cX1_addUp 68 = .ok (.iload 4, 2) := by decide +kernel
theorem dX1_addUp_70 : decode cX1_addUp 70 = .ok (.iload 5, 2) := by decide +kernel
theorem dX1_addUp_72 : decode cX1_addUp 72 = .ok (.invokestatic 24, 3) := by decide +kernel
theorem dX1_addUp_75 : decode cX1_addUp 75 = .ok (.iinc 4 1, 3) := by decide +kernel
theorem dX1_addUp_78 : decode cX1_addUp 78 = .ok (.goto (-64), 3) := by decide +kernel
theorem dX1_addUp_81 : decode cX1_addUp 81 = .ok (.aload_n 0, 1) := by decide +kernel
theorem dX1_addUp_82 : decode cX1_addUp 82 = .ok (.getfield 15, 3) := by decide +kernel
theorem dX1_addUp_85 : decode cX1_addUp 85 = .ok (.iload_n 3, 1) := by decide +kernel
theorem dX1_addUp_86 : decode cX1_addUp 86 = .ok (.invokestatic 36, 3) := by decide +kernel
theorem dX1_addUp_89 : decode cX1_addUp 89 = .ok (.ireturn, 1) := by decide +kernel
set_option maxRecDepth 20000 in
theorem ggX1_goEach_X6_leads : GoodIn wsX1_goEach wsX6_leads := goodIn_r _ [5, 6, 7, 8, 4, 9, 10, 11, 12, 13, 14, 15, 16, 17, 18, 19, 20, 21, 22, 23, 24, 25, 26, 27, 28, 32, 33, 34, 35, 36, 37] (by decide +kernel) (by decide +kernel)
set_option maxRecDepth 20000 in
theorem gX1_goEach_X6_leads : GoodIn wsX1_goEach (wsV RX1 30 RX6 yX6_leads wsX6_leads) := goodIn_app (goodIn_of _ (by decide +kernel)) ggX1_goEach_X6_leads
set_option maxRecDepth 20000 in
theorem ggX1_goEach_X1_goEach : GoodIn wsX1_goEach wsX1_goEach := goodIn_r _ [0, 1, 2, 3, 4, 5, 6, 7, 8, 9, 10, 11, 12, 13, 14, 15, 16, 17, 18, 19, 20, 21, 22, 23, 24, 25, 26, 27, 28, 29, 30, 31, 32, 33, 34, 35, 36, 37] (by decide +kernel) (by decide +kernel)
set_option maxRecDepth 20000 in
theorem gX1_goEach_X1_goEach : GoodIn wsX1_goEach (va_wsS RX1 40 yX1_goEach wsX1_goEach) := goodIn_app (goodIn_of _ (by decide +kernel)) ggX1_goEach_X1_goEach
theorem dX1_goEach_0 : decode cX1_goEach 0 = .ok (.iload_n 1, 1) := by decide +kernel
theorem dX1_goEach_1 : decode cX1_goEach 1 = .ok (.iload_n 2, 1) := by decide +kernel
theorem dX1_goEach_2 : decode cX1_goEach 2 = .ok (.if_icmp .ne 5, 3) := by decide +kernel
theorem dX1_goEach_5 : decode cX1_goEach 5 = .ok (.iconst 1, 1) := by decide +kernel
theorem dX1_goEach_6 : decode cX1_goEach 6 = .ok (.ireturn, 1) := by decide +kernel
theorem dX1_goEach_7 : decode cX1_goEach 7 = .ok (.iconst 0, 1) := by decide +kernel
theorem dX1_goEach_8 : decode cX1_goEach 8 = .ok (.istore 4, 2) := by decide +kernel
theorem dX1_goEach_10 : decode cX1_goEach 10 = .ok (.iload_n 1, 1) := by decide +kernel
theorem dX1_goEach_11 : decode cX1_goEach 11 = .ok (.iconst 1, 1) := by decide +kernel
theorem dX1_goEach_12 : decode cX1_goEach 12 = .ok (.iadd, 1) := by decide +kernel
theorem dX1_goEach_13 : decode cX1_goEach 13 = .ok (.istore 5, 2) := by decide +kernel
theorem dX1_goEach_15 : decode cX1_goEach 15 = .ok (.iload 5, 2) := by decide +kernel
theorem dX1_goEach_17 : decode cX1_goEach 17 = .ok (.iload_n 2, 1) := by decide +kernel
theorem dX1_goEach_18 : decode cX1_goEach 18 = .ok (.if_icmp .gt 40, 3) := by decide +kernel
theorem dX1_goEach_21 : decode cX1_goEach 21 = .ok (.iload_n 3, 1) := by decide +kernel
theorem dX1_goEach_22 : decode cX1_goEach 22 = .ok (.bipush 12, 2) := by decide +kernel
theorem dX1_goEach_24 : decode cX1_goEach 24 = .ok (.if_icmp .ge 34, 3) := by decide +kernel
theorem dX1_goEach_27 : decode cX1_goEach 27 = .ok (.aload_n 0, 1) := by decide +kernel
theorem dX1_goEach_28 : decode cX1_goEach 28 = .ok (.iload_n 1, 1) := by decide +kernel
theorem dX1_goEach_29 : decode cX1_goEach 29 = .ok (.iload 5, 2) := by decide +kernel
theorem dX1_goEach_31 : decode cX1_goEach 31 = .ok (.invokevirtual 30, 3) := by decide +kernel
theorem dX1_goEach_34 : decode cX1_goEach 34 = .ok (.ifCond .eq 18, 3) := by decide +kernel
theorem dX1_goEach_37 : decode cX1_goEach 37 = .ok (.iload 4, 2) := by decide +kernel
theorem dX1_goEach_39 : decode cX1_goEach 39 = .ok (.aload_n 0, 1) := by decide +kernel
theorem dX1_goEach_40 : decode cX1_goEach 40 = .ok (.iload 5, 2) := by decide +kernel
theorem dX1_goEach_42 : decode cX1_goEach 42 = .ok (.iload_n 2, 1) := by decide +kernel
theorem dX1_goEach_43 : decode cX1_goEach 43 = .ok (.iload_n 3, 1) := by decide +kernel
theorem dX1_goEach_44 : decode cX1_goEach 44 = .ok (.iconst 1, 1) := by decide +kernel
theorem dX1_goEach_45 : decode cX1_goEach 45 = .ok (.iadd, 1) := by decide +kernel
theorem dX1_goEach_46 : decode cX1_goEach 46 = .ok (.invokestatic 40, 3) := by decide +kernel
theorem dX1_goEach_49 : decode cX1_goEach 49 = .ok (.iadd, 1) := by decide +kernel
theorem dX1_goEach_50 : decode cX1_goEach 50 = .ok (.istore 4, 2) := by decide +kernel
theorem dX1_goEach_52 : decode cX1_goEach 52 = .ok (.iinc 5 1, 3) := by decide +kernel
theorem dX1_goEach_55 : decode cX1_goEach 55 = .ok (.goto (-40), 3) := by decide +kernel
theorem dX1_goEach_58 : decode cX1_goEach 58 = .ok (.iload 4, 2) := by decide +kernel
theorem dX1_goEach_60 : decode cX1_goEach 60 = .ok (.ireturn, 1) := by decide +kernel
set_option maxRecDepth 20000 in
theorem ggX1_seek_X1_bestNext : GoodIn wsX1_seek wsX1_bestNext := goodIn_r _ [9, 2, 1, 10, 11, 12, 13, 14, 15, 16, 17, 18, 19, 20, 21, 22, 23, 24, 25, 26, 27, 28, 29, 30, 31, 32, 33, 34, 35, 36, 37, 38, 39, 40, 41, 49, 50, 51, 52, 53, 54, 55, 56, 57, 58, 59, 60, 61, 62] (by decide +kernel) (by decide +kernel)
set_option maxRecDepth 20000 in
theorem gX1_seek_X1_bestNext : GoodIn wsX1_seek (wsV RX1 44 RX1 yX1_bestNext wsX1_bestNext) := goodIn_app (goodIn_of _ (by decide +kernel)) ggX1_seek_X1_bestNext
set_option maxRecDepth 20000 in
theorem ggX1_seek_X5_at : GoodIn wsX1_seek wsX5_at := goodIn_r _ [13] (by decide +kernel) (by decide +kernel)
set_option maxRecDepth 20000 in
theorem gX1_seek_X5_at : GoodIn wsX1_seek (va_wsS RX1 36 yX5_at wsX5_at) := goodIn_app (goodIn_of _ (by decide +kernel)) ggX1_seek_X5_at
set_option maxRecDepth 20000 in
theorem ggX1_seek_X5_put : GoodIn wsX1_seek wsX5_put := goodIn_r _ [44] (by decide +kernel) (by decide +kernel)
set_option maxRecDepth 20000 in
theorem gX1_seek_X5_put : GoodIn wsX1_seek (va_wsS RX1 24 yX5_put wsX5_put) := goodIn_app (goodIn_of _ (by decide +kernel)) ggX1_seek_X5_put
set_option maxRecDepth 20000 in
theorem ggX1_seek_X6_numberOf : GoodIn wsX1_seek wsX6_numberOf := goodIn_r _ [32, 33, 34, 57, 58, 59, 60, 61, 62] (by decide +kernel) (by decide +kernel)
set_option maxRecDepth 20000 in
theorem gX1_seek_X6_numberOf : GoodIn wsX1_seek (wsV RX1 48 RX6 yX6_numberOf wsX6_numberOf) := goodIn_app (goodIn_of _ (by decide +kernel)) ggX1_seek_X6_numberOf
set_option maxRecDepth 20000 in
theorem ggX1_seek_X1_ownWorth : GoodIn wsX1_seek wsX1_ownWorth := goodIn_r _ [48] (by decide +kernel) (by decide +kernel)
set_option maxRecDepth 20000 in
theorem gX1_seek_X1_ownWorth : GoodIn wsX1_seek (va_wsS RX1 52 yX1_ownWorth wsX1_ownWorth) := goodIn_app (goodIn_of _ (by decide +kernel)) ggX1_seek_X1_ownWorth
theorem dX1_seek_0 : decode cX1_seek 0 = .ok (.iload_n 3, 1) := by decide +kernel
theorem dX1_seek_1 : decode cX1_seek 1 = .ok (.istore 5, 2) := by decide +kernel
theorem dX1_seek_3 : decode cX1_seek 3 = .ok (.iload 5, 2) := by decide +kernel
theorem dX1_seek_5 : decode cX1_seek 5 = .ok (.iload_n 2, 1) := by decide +kernel
theorem dX1_seek_6 : decode cX1_seek 6 = .ok (.if_icmp .lt 91, 3) := by decide +kernel
theorem dX1_seek_9 : decode cX1_seek 9 = .ok (.iload 5, 2) := by decide +kernel
theorem dX1_seek_11 : decode cX1_seek 11 = .ok (.iload_n 3, 1) := by decide +kernel
theorem dX1_seek_12 : decode cX1_seek 12 = .ok (.if_icmp .ne 8, 3) := by decide +kernel
theorem dX1_seek_15 : decode cX1_seek 15 = .ok (.iload 5, 2) := by decide +kernel
theorem dX1_seek_17 : decode cX1_seek 17 = .ok (.goto 11, 3) := by decide +kernel
theorem dX1_seek_20 : decode cX1_seek 20 = .ok (.aload_n 0, 1) := by decide +kernel
theorem dX1_seek_21 : decode cX1_seek 21 = .ok (.aload_n 1, 1) := by decide +kernel
theorem dX1_seek_22 : decode cX1_seek 22 = .ok (.iload 5, 2) := by decide +kernel
theorem dX1_seek_24 : decode cX1_seek 24 = .ok (.iload_n 3, 1) := by decide +kernel
theorem dX1_seek_25 : decode cX1_seek 25 = .ok (.invokevirtual 44, 3) := by decide +kernel
theorem dX1_seek_28 : decode cX1_seek 28 = .ok (.istore 6, 2) := by decide +kernel
theorem dX1_seek_30 : decode cX1_seek 30 = .ok (.iload 5, 2) := by decide +kernel
theorem dX1_seek_32 : decode cX1_seek 32 = .ok (.iload_n 3, 1) := by decide +kernel
theorem dX1_seek_33 : decode cX1_seek 33 = .ok (.if_icmp .eq 9, 3) := by decide +kernel
theorem dX1_seek_36 : decode cX1_seek 36 = .ok (.iload 6, 2) := by decide +kernel
theorem dX1_seek_38 : decode cX1_seek 38 = .ok (.iconst (-1), 1) := by decide +kernel
theorem dX1_seek_39 : decode cX1_seek 39 = .ok (.if_icmp .ne 7, 3) := by decide +kernel
theorem dX1_seek_42 : decode cX1_seek 42 = .ok (.iconst 0, 1) := by decide +kernel
theorem dX1_seek_43 : decode cX1_seek 43 = .ok (.goto 12, 3) := by decide +kernel
theorem dX1_seek_46 : decode cX1_seek 46 = .ok (.aload_n 0, 1) := by decide +kernel
theorem dX1_seek_47 : decode cX1_seek 47 = .ok (.getfield 15, 3) := by decide +kernel
theorem dX1_seek_50 : decode cX1_seek 50 = .ok (.iload 6, 2) := by decide +kernel
theorem dX1_seek_52 : decode cX1_seek 52 = .ok (.invokestatic 36, 3) := by decide +kernel
theorem dX1_seek_55 : decode cX1_seek 55 = .ok (.istore 7, 2) := by decide +kernel
theorem dX1_seek_57 : decode cX1_seek 57 = .ok (.aload_n 0, 1) := by decide +kernel
theorem dX1_seek_58 : decode cX1_seek 58 = .ok (.getfield 18, 3) := by decide +kernel
theorem dX1_seek_61 : decode cX1_seek 61 = .ok (.iload 5, 2) := by decide +kernel
theorem dX1_seek_63 : decode cX1_seek 63 = .ok (.iload 6, 2) := by decide +kernel
theorem dX1_seek_65 : decode cX1_seek 65 = .ok (.invokestatic 24, 3) := by decide +kernel
theorem dX1_seek_68 : decode cX1_seek 68 = .ok (.aload_n 0, 1) := by decide +kernel
theorem dX1_seek_69 : decode cX1_seek 69 = .ok (.getfield 15, 3) := by decide +kernel
theorem dX1_seek_72 : decode cX1_seek 72 = .ok (.iload 5, 2) := by decide +kernel
theorem dX1_seek_74 : decode cX1_seek 74 = .ok (.aload_n 1, 1) := by decide +kernel
theorem dX1_seek_75 : decode cX1_seek 75 = .ok (.iload 5, 2) := by decide +kernel
theorem dX1_seek_77 : decode cX1_seek 77 = .ok (.invokevirtual 48, 3) := by decide +kernel
theorem dX1_seek_80 : decode cX1_seek 80 = .ok (.iload 4, 2) := by decide +kernel
theorem dX1_seek_82 : decode cX1_seek 82 = .ok (.invokestatic 52, 3) := by decide +kernel
theorem dX1_seek_85 : decode cX1_seek 85 = .ok (.iload 7, 2) := by decide +kernel
theorem dX1_seek_87 : decode cX1_seek 87 = .ok (.iadd, 1) := by decide +kernel
theorem dX1_seek_88 : decode cX1_seek 88 = .ok (.invokestatic 24, 3) := by decide +kernel
theorem dX1_seek_91 : decode cX1_seek 91 = .ok (.iinc 5 (-1), 3) := by decide +kernel
theorem dX1_seek_94 : decode cX1_seek 94 = .ok (.goto (-91), 3) := by decide +kernel
theorem dX1_seek_97 : decode cX1_seek 97 = .ok (.aload_n 0, 1) := by decide +kernel
theorem dX1_seek_98 : decode cX1_seek 98 = .ok (.iconst 0, 1) := by decide +kernel
theorem dX1_seek_99 : decode cX1_seek 99 = .ok (.putfield 56, 3) := by decide +kernel
theorem dX1_seek_102 : decode cX1_seek 102 = .ok (.aload_n 0, 1) := by decide +kernel
theorem dX1_seek_103 : decode cX1_seek 103 = .ok (.getfield 18, 3) := by decide +kernel
theorem dX1_seek_106 : decode cX1_seek 106 = .ok (.iload_n 2, 1) := by decide +kernel
theorem dX1_seek_107 : decode cX1_seek 107 = .ok (.invokestatic 36, 3) := by decide +kernel
theorem dX1_seek_110 : decode cX1_seek 110 = .ok (.iconst (-1), 1) := by decide +kernel
theorem dX1_seek_111 : decode cX1_seek 111 = .ok (.if_icmp .ne 7, 3) := by decide +kernel
theorem dX1_seek_114 : decode cX1_seek 114 = .ok (.iconst (-1), 1) := by decide +kernel
theorem dX1_seek_115 : decode cX1_seek 115 = .ok (.goto 4, 3) := by decide +kernel
theorem dX1_seek_118 : decode cX1_seek 118 = .ok (.iload_n 2, 1) := by decide +kernel
theorem dX1_seek_119 : decode cX1_seek 119 = .ok (.istore 5, 2) := by decide +kernel
theorem dX1_seek_121 : decode cX1_seek 121 = .ok (.iconst 0, 1) := by decide +kernel
theorem dX1_seek_122 : decode cX1_seek 122 = .ok (.istore 6, 2) := by decide +kernel
theorem dX1_seek_124 : decode cX1_seek 124 = .ok (.iload 6, 2) := by decide +kernel
theorem dX1_seek_126 : decode cX1_seek 126 = .ok (.bipush 12, 2) := by decide +kernel
theorem dX1_seek_128 : decode cX1_seek 128 = .ok (.if_icmp .ge 59, 3) := by decide +kernel
theorem dX1_seek_131 : decode cX1_seek 131 = .ok (.iload 5, 2) := by decide +kernel
theorem dX1_seek_133 : decode cX1_seek 133 = .ok (.iconst (-1), 1) := by decide +kernel
theorem dX1_seek_134 : decode cX1_seek 134 = .ok (.if_icmp .eq 53, 3) := by decide +kernel
theorem dX1_seek_137 : decode cX1_seek 137 = .ok (.aload_n 0, 1) := by decide +kernel
theorem dX1_seek_138 : decode cX1_seek 138 = .ok (.getfield 9, 3) := by decide +kernel
theorem dX1_seek_141 : decode cX1_seek 141 = .ok (.aload_n 0, 1) := by decide +kernel
theorem dX1_seek_142 : decode cX1_seek 142 = .ok (.getfield 56, 3) := by decide +kernel
theorem dX1_seek_145 : decode cX1_seek 145 = .ok (.iload 5, 2) := by decide +kernel
theorem dX1_seek_147 : decode cX1_seek 147 = .ok (.invokestatic 24, 3) := by decide +kernel
theorem dX1_seek_150 : decode cX1_seek 150 = .ok (.aload_n 0, 1) := by decide +kernel
theorem dX1_seek_151 : decode cX1_seek 151 = .ok (.dup, 1) := by decide +kernel
theorem dX1_seek_152 : decode cX1_seek 152 = .ok (.getfield 56, 3) := by decide +kernel
theorem dX1_seek_155 : decode cX1_seek 155 = .ok (.iconst 1, 1) := by decide +kernel
theorem dX1_seek_156 : decode cX1_seek 156 = .ok (.iadd, 1) := by decide +kernel
theorem dX1_seek_157 : decode cX1_seek 157 = .ok (.putfield 56, 3) := by decide +kernel
theorem dX1_seek_160 : decode cX1_seek 160 = .ok (.iload 5, 2) := by decide +kernel
theorem dX1_seek_162 : decode cX1_seek 162 = .ok (.iload_n 3, 1) := by decide +kernel
theorem dX1_seek_163 : decode cX1_seek 163 = .ok (.if_icmp .ne 7, 3) := by decide +kernel
theorem dX1_seek_166 : decode cX1_seek 166 = .ok (.iconst (-1), 1) := by decide +kernel
theorem dX1_seek_167 : decode cX1_seek 167 = .ok (.goto 12, 3) := by decide +kernel
theorem dX1_seek_170 : decode cX1_seek 170 = .ok (.aload_n 0, 1) := by decide +kernel
theorem dX1_seek_171 : decode cX1_seek 171 = .ok (.getfield 18, 3) := by decide +kernel
theorem dX1_seek_174 : decode cX1_seek 174 = .ok (.iload 5, 2) := by decide +kernel
theorem dX1_seek_176 : decode cX1_seek 176 = .ok (.invokestatic 36, 3) := by decide +kernel
theorem dX1_seek_179 : decode cX1_seek 179 = .ok (.istore 5, 2) := by decide +kernel
theorem dX1_seek_181 : decode cX1_seek 181 = .ok (.iinc 6 1, 3) := by decide +kernel
theorem dX1_seek_184 : decode cX1_seek 184 = .ok (.goto (-60), 3) := by decide +kernel
theorem dX1_seek_187 : decode cX1_seek 187 = .ok (.return_, 1) := by decide +kernel
set_option maxRecDepth 20000 in
theorem ggX1_sumOf_X5_at : GoodIn wsX1_sumOf wsX5_at := goodIn_r _ [6] (by decide +kernel) (by decide +kernel)
set_option maxRecDepth 20000 in
theorem gX1_sumOf_X5_at : GoodIn wsX1_sumOf (va_wsS RX1 36 yX5_at wsX5_at) := goodIn_app (goodIn_of _ (by decide +kernel)) ggX1_sumOf_X5_at
set_option maxRecDepth 20000 in
theorem ggX1_sumOf_X6_numberOf : GoodIn wsX1_sumOf wsX6_numberOf := goodIn_r _ [11, 12, 13, 22, 23, 24, 25, 26, 27] (by decide +kernel) (by decide +kernel)
set_option maxRecDepth 20000 in
theorem gX1_sumOf_X6_numberOf : GoodIn wsX1_sumOf (wsV RX1 48 RX6 yX6_numberOf wsX6_numberOf) := goodIn_app (goodIn_of _ (by decide +kernel)) ggX1_sumOf_X6_numberOf
theorem dX1_sumOf_0 : decode cX1_sumOf 0 = .ok (.iconst 0, 1) := by decide +kernel
theorem dX1_sumOf_1 : decode cX1_sumOf 1 = .ok (.istore_n 2, 1) := by decide +kernel
theorem dX1_sumOf_2 : decode cX1_sumOf 2 = .ok (.iconst 0, 1) := by decide +kernel
theorem dX1_sumOf_3 : decode cX1_sumOf 3 = .ok (.istore_n 3, 1) := by decide +kernel
theorem dX1_sumOf_4 : decode cX1_sumOf 4 = .ok (.iload_n 3, 1) := by decide +kernel
theorem dX1_sumOf_5 : decode cX1_sumOf 5 = .ok (.aload_n 0, 1) := by decide +kernel
theorem dX1_sumOf_6 : decode cX1_sumOf 6 = .ok (.getfield 56, 3) := by decide +kernel
theorem dX1_sumOf_9 : decode cX1_sumOf 9 = .ok (.if_icmp .ge 24, 3) := by decide +kernel
theorem dX1_sumOf_12 : decode cX1_sumOf 12 = .ok (.iload_n 2, 1) := by decide +kernel
theorem dX1_sumOf_13 : decode cX1_sumOf 13 = .ok (.aload_n 1, 1) := by decide +kernel
theorem dX1_sumOf_14 : decode cX1_sumOf 14 = .ok (.aload_n 0, 1) := by decide +kernel
theorem dX1_sumOf_15 : decode cX1_sumOf 15 = .ok (.getfield 9, 3) := by decide +kernel
theorem dX1_sumOf_18 : decode cX1_sumOf 18 = .ok (.iload_n 3, 1) := by decide +kernel
theorem dX1_sumOf_19 : decode cX1_sumOf 19 = .ok (.invokestatic 36, 3) := by decide +kernel
theorem dX1_sumOf_22 : decode cX1_sumOf 22 = .ok (.invokevirtual 48, 3) := by decide +kernel
theorem dX1_sumOf_25 : decode cX1_sumOf 25 = .ok (.iadd, 1) := by decide +kernel
theorem dX1_sumOf_26 : decode cX1_sumOf 26 = .ok (.istore_n 2, 1) := by decide +kernel
theorem dX1_sumOf_27 : decode cX1_sumOf 27 = .ok (.iinc 3 1, 3) := by decide +kernel
theorem dX1_sumOf_30 : decode cX1_sumOf 30 = .ok (.goto (-26), 3) := by decide +kernel
theorem dX1_sumOf_33 : decode cX1_sumOf 33 = .ok (.iload_n 2, 1) := by decide +kernel
theorem dX1_sumOf_34 : decode cX1_sumOf 34 = .ok (.ireturn, 1) := by decide +kernel
set_option maxRecDepth 20000 in
theorem ggX1_divisorOf_X5_at : GoodIn wsX1_divisorOf wsX5_at := goodIn_r _ [6] (by decide +kernel) (by decide +kernel)
set_option maxRecDepth 20000 in
theorem gX1_divisorOf_X5_at : GoodIn wsX1_divisorOf (va_wsS RX1 36 yX5_at wsX5_at) := goodIn_app (goodIn_of _ (by decide +kernel)) ggX1_divisorOf_X5_at
set_option maxRecDepth 20000 in
theorem ggX1_divisorOf_X6_numberOf : GoodIn wsX1_divisorOf wsX6_numberOf := goodIn_r _ [11, 12, 13, 26, 27, 28, 29, 30, 31] (by decide +kernel) (by decide +kernel)
set_option maxRecDepth 20000 in
theorem gX1_divisorOf_X6_numberOf : GoodIn wsX1_divisorOf (wsV RX1 48 RX6 yX6_numberOf wsX6_numberOf) := goodIn_app (goodIn_of _ (by decide +kernel)) ggX1_divisorOf_X6_numberOf
set_option maxRecDepth 20000 in
theorem ggX1_divisorOf_X7_divisorByRemainders : GoodIn wsX1_divisorOf wsX7_divisorByRemainders := goodIn_r _ [17] (by decide +kernel) (by decide +kernel)
set_option maxRecDepth 20000 in
theorem gX1_divisorOf_X7_divisorByRemainders : GoodIn wsX1_divisorOf (va_wsS RX1 60 yX7_divisorByRemainders wsX7_divisorByRemainders) := goodIn_app (goodIn_of _ (by decide +kernel)) ggX1_divisorOf_X7_divisorByRemainders
theorem dX1_divisorOf_0 : decode cX1_divisorOf 0 = .ok (.iconst 0, 1) := by decide +kernel
theorem dX1_divisorOf_1 : decode cX1_divisorOf 1 = .ok (.istore_n 2, 1) := by decide +kernel
theorem dX1_divisorOf_2 : decode cX1_divisorOf 2 = .ok (.iconst 0, 1) := by decide +kernel
theorem dX1_divisorOf_3 : decode cX1_divisorOf 3 = .ok (.istore_n 3, 1) := by decide +kernel
theorem dX1_divisorOf_4 : decode cX1_divisorOf 4 = .ok (.iload_n 3, 1) := by decide +kernel
theorem dX1_divisorOf_5 : decode cX1_divisorOf 5 = .ok (.aload_n 0, 1) := by decide +kernel
theorem dX1_divisorOf_6 : decode cX1_divisorOf 6 = .ok (.getfield 56, 3) := by decide +kernel
theorem dX1_divisorOf_9 : decode cX1_divisorOf 9 = .ok (.if_icmp .ge 26, 3) := by decide +kernel
theorem dX1_divisorOf_12 : decode cX1_divisorOf 12 = .ok (.iload_n 2, 1) := by decide +kernel
theorem dX1_divisorOf_13 : decode cX1_divisorOf 13 = .ok (.aload_n 1, 1) := by decide +kernel
theorem dX1_divisorOf_14 : decode cX1_divisorOf 14 = .ok (.aload_n 0, 1) := by decide +kernel
theorem dX1_divisorOf_15 : decode cX1_divisorOf 15 = .ok (.getfield 9, 3) := by decide +kernel
theorem dX1_divisorOf_18 : decode cX1_divisorOf 18 = .ok (.iload_n 3, 1) := by decide +kernel
theorem dX1_divisorOf_19 : decode cX1_divisorOf 19 = .ok (.invokestatic 36, 3) := by decide +kernel
theorem dX1_divisorOf_22 : decode cX1_divisorOf 22 = .ok (.invokevirtual 48, 3) := by decide +kernel
theorem dX1_divisorOf_25 : decode cX1_divisorOf 25 = .ok (.invokestatic 60, 3) := by decide +kernel
theorem dX1_divisorOf_28 : decode cX1_divisorOf 28 = .ok (.istore_n 2, 1) := by decide +kernel
theorem dX1_divisorOf_29 : decode cX1_divisorOf 29 = .ok (.iinc 3 1, 3) := by decide +kernel
theorem dX1_divisorOf_32 : decode cX1_divisorOf 32 = .ok (.goto (-28), 3) := by decide +kernel
theorem dX1_divisorOf_35 : decode cX1_divisorOf 35 = .ok (.iload_n 2, 1) := by decide +kernel
theorem dX1_divisorOf_36 : decode cX1_divisorOf 36 = .ok (.ireturn, 1) := by decide +kernel
set_option maxRecDepth 20000 in
theorem ggX1_seekLongest_X1_seekLongestFrom : GoodIn wsX1_seekLongest wsX1_seekLongestFrom := goodIn_r _ [10, 2, 4, 11, 12, 13, 14, 15, 16, 17, 18, 19, 20, 21, 22, 23, 24, 25, 26, 27, 28, 29, 30, 31, 32, 33, 34, 35, 36, 37, 38, 39, 40, 41, 42, 43, 44, 45, 54, 55, 56, 57, 58, 59, 46, 47, 48, 49, 50, 51, 52, 53] (by decide +kernel) (by decide +kernel)
set_option maxRecDepth 20000 in
theorem gX1_seekLongest_X1_seekLongestFrom : GoodIn wsX1_seekLongest (wsV RX1 71 RX1 yX1_seekLongestFrom wsX1_seekLongestFrom) := goodIn_app (goodIn_of _ (by decide +kernel)) ggX1_seekLongest_X1_seekLongestFrom
set_option maxRecDepth 20000 in
theorem ggX1_seekLongest_X5_at : GoodIn wsX1_seekLongest wsX5_at := goodIn_r _ [42] (by decide +kernel) (by decide +kernel)
set_option maxRecDepth 20000 in
theorem gX1_seekLongest_X5_at : GoodIn wsX1_seekLongest (va_wsS RX1 36 yX5_at wsX5_at) := goodIn_app (goodIn_of _ (by decide +kernel)) ggX1_seekLongest_X5_at
theorem dX1_seekLongest_0 : decode cX1_seekLongest 0 = .ok (.aload_n 0, 1) := by decide +kernel
theorem dX1_seekLongest_1 : decode cX1_seekLongest 1 = .ok (.iconst 0, 1) := by decide +kernel
theorem dX1_seekLongest_2 : decode cX1_seekLongest 2 = .ok (.putfield 65, 3) := by decide +kernel
theorem dX1_seekLongest_5 : decode cX1_seekLongest 5 = .ok (.aload_n 1, 1) := by decide +kernel
theorem dX1_seekLongest_6 : decode cX1_seekLongest 6 = .ok (.getfield 68, 3) := by decide +kernel
theorem dX1_seekLongest_9 : decode cX1_seekLongest 9 = .ok (.iconst 1, 1) := by decide +kernel
theorem dX1_seekLongest_10 : decode cX1_seekLongest 10 = .ok (.isub, 1) := by decide +kernel
theorem dX1_seekLongest_11 : decode cX1_seekLongest 11 = .ok (.istore_n 2, 1) := by decide +kernel
theorem dX1_seekLongest_12 : decode cX1_seekLongest 12 = .ok (.iload_n 2, 1) := by decide +kernel
theorem dX1_seekLongest_13 : decode cX1_seekLongest 13 = .ok (.ifCond .lt 59, 3) := by decide +kernel
theorem dX1_seekLongest_16 : decode cX1_seekLongest 16 = .ok (.aload_n 0, 1) := by decide +kernel
theorem dX1_seekLongest_17 : decode cX1_seekLongest 17 = .ok (.aload_n 1, 1) := by decide +kernel
theorem dX1_seekLongest_18 : decode cX1_seekLongest 18 = .ok (.iload_n 2, 1) := by decide +kernel
theorem dX1_seekLongest_19 : decode cX1_seekLongest 19 = .ok (.invokevirtual 71, 3) := by decide +kernel
theorem dX1_seekLongest_22 : decode cX1_seekLongest 22 = .ok (.aload_n 0, 1) := by decide +kernel
theorem dX1_seekLongest_23 : decode cX1_seekLongest 23 = .ok (.getfield 15, 3) := by decide +kernel
theorem dX1_seekLongest_26 : decode cX1_seekLongest 26 = .ok (.iload_n 2, 1) := by decide +kernel
theorem dX1_seekLongest_27 : decode cX1_seekLongest 27 = .ok (.invokestatic 36, 3) := by decide +kernel
theorem dX1_seekLongest_30 : decode cX1_seekLongest 30 = .ok (.aload_n 0, 1) := by decide +kernel
theorem dX1_seekLongest_31 : decode cX1_seekLongest 31 = .ok (.getfield 65, 3) := by decide +kernel
theorem dX1_seekLongest_34 : decode cX1_seekLongest 34 = .ok (.if_icmp .lt 32, 3) := by decide +kernel
theorem dX1_seekLongest_37 : decode cX1_seekLongest 37 = .ok (.aload_n 0, 1) := by decide +kernel
theorem dX1_seekLongest_38 : decode cX1_seekLongest 38 = .ok (.aload_n 0, 1) := by decide +kernel
theorem dX1_seekLongest_39 : decode cX1_seekLongest 39 = .ok (.getfield 15, 3) := by decide +kernel
theorem dX1_seekLongest_42 : decode cX1_seekLongest 42 = .ok (.iload_n 2, 1) := by decide +kernel
theorem dX1_seekLongest_43 : decode cX1_seekLongest 43 = .ok (.invokestatic 36, 3) := by decide +kernel
theorem dX1_seekLongest_46 : decode cX1_seekLongest 46 = .ok (.putfield 65, 3) := by decide +kernel
theorem dX1_seekLongest_49 : decode cX1_seekLongest 49 = .ok (.aload_n 0, 1) := by decide +kernel
theorem dX1_seekLongest_50 : decode cX1_seekLongest 50 = .ok (.iload_n 2, 1) := by decide +kernel
theorem dX1_seekLongest_51 : decode cX1_seekLongest 51 = .ok (.putfield 75, 3) := by decide +kernel
theorem dX1_seekLongest_54 : decode cX1_seekLongest 54 = .ok (.aload_n 0, 1) := by decide +kernel
theorem dX1_seekLongest_55 : decode cX1_seekLongest 55 = .ok (.aload_n 0, 1) := by decide +kernel
theorem dX1_seekLongest_56 : decode cX1_seekLongest 56 = .ok (.getfield 21, 3) := by decide +kernel
theorem dX1_seekLongest_59 : decode cX1_seekLongest 59 = .ok (.iload_n 2, 1) := by decide +kernel
theorem dX1_seekLongest_60 : decode cX1_seekLongest 60 = .ok (.invokestatic 36, 3) := by decide +kernel
theorem dX1_seekLongest_63 : decode cX1_seekLongest 63 = .ok (.putfield 78, 3) := by decide +kernel
theorem dX1_seekLongest_66 : decode cX1_seekLongest 66 = .ok (.iinc 2 (-1), 3) := by decide +kernel
theorem dX1_seekLongest_69 : decode cX1_seekLongest 69 = .ok (.goto (-57), 3) := by decide +kernel
theorem dX1_seekLongest_72 : decode cX1_seekLongest 72 = .ok (.return_, 1) := by decide +kernel
set_option maxRecDepth 20000 in
theorem ggX1_seekLongestFrom_X6_leads : GoodIn wsX1_seekLongestFrom wsX6_leads := goodIn_r _ [7, 8, 9, 10, 6, 11, 12, 13, 14, 15, 16, 17, 18, 19, 20, 21, 22, 23, 24, 25, 26, 27, 28, 29, 30, 38, 39, 40, 41, 42, 43] (by decide +kernel) (by decide +kernel)
set_option maxRecDepth 20000 in
theorem gX1_seekLongestFrom_X6_leads : GoodIn wsX1_seekLongestFrom (wsV RX1 30 RX6 yX6_leads wsX6_leads) := goodIn_app (goodIn_of _ (by decide +kernel)) ggX1_seekLongestFrom_X6_leads
set_option maxRecDepth 20000 in
theorem ggX1_seekLongestFrom_X5_at : GoodIn wsX1_seekLongestFrom wsX5_at := goodIn_r _ [34] (by decide +kernel) (by decide +kernel)
set_option maxRecDepth 20000 in
theorem gX1_seekLongestFrom_X5_at : GoodIn wsX1_seekLongestFrom (va_wsS RX1 36 yX5_at wsX5_at) := goodIn_app (goodIn_of _ (by decide +kernel)) ggX1_seekLongestFrom_X5_at
set_option maxRecDepth 20000 in
theorem ggX1_seekLongestFrom_X5_put : GoodIn wsX1_seekLongestFrom wsX5_put := goodIn_r _ [37] (by decide +kernel) (by decide +kernel)
set_option maxRecDepth 20000 in
theorem gX1_seekLongestFrom_X5_put : GoodIn wsX1_seekLongestFrom (va_wsS RX1 24 yX5_put wsX5_put) := goodIn_app (goodIn_of _ (by decide +kernel)) ggX1_seekLongestFrom_X5_put
theorem dX1_seekLongestFrom_0 : decode cX1_seekLongestFrom 0 = .ok (.iconst 1, 1) := by decide +kernel
theorem dX1_seekLongestFrom_1 : decode cX1_seekLongestFrom 1 = .ok (.istore_n 3, 1) := by decide +kernel
theorem dX1_seekLongestFrom_2 : decode cX1_seekLongestFrom 2 = .ok (.iload_n 2, 1) := by decide +kernel
theorem dX1_seekLongestFrom_3 : decode cX1_seekLongestFrom 3 = .ok (.istore 4, 2) := by decide +kernel
theorem dX1_seekLongestFrom_5 : decode cX1_seekLongestFrom 5 = .ok (.iload_n 2, 1) := by decide +kernel
theorem dX1_seekLongestFrom_6 : decode cX1_seekLongestFrom 6 = .ok (.iconst 1, 1) := by decide +kernel
theorem dX1_seekLongestFrom_7 : decode cX1_seekLongestFrom 7 = .ok (.iadd, 1) := by decide +kernel
theorem dX1_seekLongestFrom_8 : decode cX1_seekLongestFrom 8 = .ok (.istore 5, 2) := by decide +kernel
theorem dX1_seekLongestFrom_10 : decode cX1_seekLongestFrom 10 = .ok (.iload 5, 2) := by decide +kernel
theorem dX1_seekLongestFrom_12 : decode cX1_seekLongestFrom 12 = .ok (.aload_n 1, 1) := by decide +kernel
theorem dX1_seekLongestFrom_13 : decode cX1_seekLongestFrom 13 = .ok (.getfield 68, 3) := by decide +kernel
theorem dX1_seekLongestFrom_16 : decode cX1_seekLongestFrom 16 = .ok (.if_icmp .ge 69, 3) := by decide +kernel
theorem dX1_seekLongestFrom_19 : decode cX1_seekLongestFrom 19 = .ok (.aload_n 1, 1) := by decide +kernel
theorem dX1_seekLongestFrom_20 : decode cX1_seekLongestFrom 20 = .ok (.iload_n 2, 1) := by decide +kernel
theorem dX1_seekLongestFrom_21 : decode cX1_seekLongestFrom 21 = .ok (.iload 5, 2) := by decide +kernel
theorem dX1_seekLongestFrom_23 : decode cX1_seekLongestFrom 23 = .ok (.invokevirtual 30, 3) := by decide +kernel
theorem dX1_seekLongestFrom_26 : decode cX1_seekLongestFrom 26 = .ok (.ifCond .eq 53, 3) := by decide +kernel
theorem dX1_seekLongestFrom_29 : decode cX1_seekLongestFrom 29 = .ok (.aload_n 0, 1) := by decide +kernel
theorem dX1_seekLongestFrom_30 : decode cX1_seekLongestFrom 30 = .ok (.getfield 15, 3) := by decide +kernel
theorem dX1_seekLongestFrom_33 : decode cX1_seekLongestFrom 33 = .ok (.iload 5, 2) := by decide +kernel
theorem dX1_seekLongestFrom_35 : decode cX1_seekLongestFrom 35 = .ok (.invokestatic 36, 3) := by decide +kernel
theorem dX1_seekLongestFrom_38 : decode cX1_seekLongestFrom 38 = .ok (.iconst 1, 1) := by decide +kernel
theorem dX1_seekLongestFrom_39 : decode cX1_seekLongestFrom 39 = .ok (.iadd, 1) := by decide +kernel
theorem dX1_seekLongestFrom_40 : decode cX1_seekLongestFrom 40 = .ok (.istore 6, 2) := by decide +kernel
theorem dX1_seekLongestFrom_42 : decode cX1_seekLongestFrom 42 = .ok (.aload_n 0, 1) := by decide +kernel
theorem dX1_seekLongestFrom_43 : decode cX1_seekLongestFrom 43 = .ok (.getfield 21, 3) := by decide +kernel
theorem dX1_seekLongestFrom_46 : decode cX1_seekLongestFrom 46 = .ok (.iload 5, 2) := by decide +kernel
theorem dX1_seekLongestFrom_48 : decode cX1_seekLongestFrom 48 = .ok (.invokestatic 36, 3) := by decide +kernel
theorem dX1_seekLongestFrom_51 : decode cX1_seekLongestFrom 51 = .ok (.istore 7, 2) := by decide +kernel
theorem dX1_seekLongestFrom_53 : decode cX1_seekLongestFrom 53 = .ok (.iload 6, 2) := by decide +kernel
theorem dX1_seekLongestFrom_55 : decode cX1_seekLongestFrom 55 = .ok (.iload_n 3, 1) := by decide +kernel
theorem dX1_seekLongestFrom_56 : decode cX1_seekLongestFrom 56 = .ok (.if_icmp .gt 16, 3) := by decide +kernel
theorem dX1_seekLongestFrom_59 : decode cX1_seekLongestFrom 59 = .ok (.iload 6, 2) := by decide +kernel
theorem dX1_seekLongestFrom_61 : decode cX1_seekLongestFrom 61 = .ok (.iload_n 3, 1) := by decide +kernel
theorem dX1_seekLongestFrom_62 : decode cX1_seekLongestFrom 62 = .ok (.if_icmp .ne 17, 3) := by decide +kernel
theorem dX1_seekLongestFrom_65 : decode cX1_seekLongestFrom 65 = .ok (.iload 7, 2) := by decide +kernel
theorem dX1_seekLongestFrom_67 : decode cX1_seekLongestFrom 67 = .ok (.iload 4, 2) := by decide +kernel
theorem dX1_seekLongestFrom_69 : decode cX1_seekLongestFrom 69 = .ok (.if_icmp .ge 10, 3) := by decide +kernel
theorem dX1_seekLongestFrom_72 : decode cX1_seekLongestFrom 72 = .ok (.iload 6, 2) := by decide +kernel
theorem dX1_seekLongestFrom_74 : decode cX1_seekLongestFrom 74 = .ok (.istore_n 3, 1) := by decide +kernel
theorem dX1_seekLongestFrom_75 : decode cX1_seekLongestFrom 75 = .ok (.iload 7, 2) := by decide +kernel
theorem dX1_seekLongestFrom_77 : decode cX1_seekLongestFrom 77 = .ok (.istore 4, 2) := by decide +kernel
theorem dX1_seekLongestFrom_79 : decode cX1_seekLongestFrom 79 = .ok (.iinc 5 1, 3) := by decide +kernel
theorem dX1_seekLongestFrom_82 : decode cX1_seekLongestFrom 82 = .ok (.goto (-72), 3) := by decide +kernel
theorem dX1_seekLongestFrom_85 : decode cX1_seekLongestFrom 85 = .ok (.aload_n 0, 1) := by decide +kernel
theorem dX1_seekLongestFrom_86 : decode cX1_seekLongestFrom 86 = .ok (.getfield 15, 3) := by decide +kernel
theorem dX1_seekLongestFrom_89 : decode cX1_seekLongestFrom 89 = .ok (.iload_n 2, 1) := by decide +kernel
theorem dX1_seekLongestFrom_90 : decode cX1_seekLongestFrom 90 = .ok (.iload_n 3, 1) := by decide +kernel
theorem dX1_seekLongestFrom_91 : decode cX1_seekLongestFrom 91 = .ok (.invokestatic 24, 3) := by decide +kernel
theorem dX1_seekLongestFrom_94 : decode cX1_seekLongestFrom 94 = .ok (.aload_n 0, 1) := by decide +kernel
theorem dX1_seekLongestFrom_95 : decode cX1_seekLongestFrom 95 = .ok (.getfield 21, 3) := by decide +kernel
theorem dX1_seekLongestFrom_98 : decode cX1_seekLongestFrom 98 = .ok (.iload_n 2, 1) := by decide +kernel
theorem dX1_seekLongestFrom_99 : decode cX1_seekLongestFrom 99 = .ok (.iload 4, 2) := by decide +kernel
theorem dX1_seekLongestFrom_101 : decode cX1_seekLongestFrom 101 = .ok (.invokestatic 24, 3) := by decide +kernel
theorem dX1_seekLongestFrom_104 : decode cX1_seekLongestFrom 104 = .ok (.return_, 1) := by decide +kernel
set_option maxRecDepth 20000 in
theorem ggX1_bestNext_X5_at : GoodIn wsX1_bestNext wsX5_at := goodIn_r _ [6] (by decide +kernel) (by decide +kernel)
set_option maxRecDepth 20000 in
theorem gX1_bestNext_X5_at : GoodIn wsX1_bestNext (va_wsS RX1 36 yX5_at wsX5_at) := goodIn_app (goodIn_of _ (by decide +kernel)) ggX1_bestNext_X5_at
set_option maxRecDepth 20000 in
theorem ggX1_bestNext_X6_leads : GoodIn wsX1_bestNext wsX6_leads := goodIn_r _ [11, 12, 13, 14, 10, 15, 16, 17, 18, 19, 20, 21, 22, 23, 24, 25, 26, 27, 28, 29, 30, 31, 32, 33, 34, 43, 44, 45, 46, 47, 48] (by decide +kernel) (by decide +kernel)
set_option maxRecDepth 20000 in
theorem gX1_bestNext_X6_leads : GoodIn wsX1_bestNext (wsV RX1 30 RX6 yX6_leads wsX6_leads) := goodIn_app (goodIn_of _ (by decide +kernel)) ggX1_bestNext_X6_leads
theorem dX1_bestNext_0 : decode cX1_bestNext 0 = .ok (.iconst (-1), 1) := by decide +kernel
theorem dX1_bestNext_1 : decode cX1_bestNext 1 = .ok (.istore 4, 2) := by decide +kernel
theorem dX1_bestNext_3 : decode cX1_bestNext 3 = .ok (.iload_n 2, 1) := by decide +kernel
theorem dX1_bestNext_4 : decode cX1_bestNext 4 = .ok (.iconst 1, 1) := by decide +kernel
theorem dX1_bestNext_5 : decode cX1_bestNext 5 = .ok (.iadd, 1) := by decide +kernel
theorem dX1_bestNext_6 : decode cX1_bestNext 6 = .ok (.istore 5, 2) := by decide +kernel
theorem dX1_bestNext_8 : decode cX1_bestNext 8 = .ok (.iload 5, 2) := by decide +kernel
theorem dX1_bestNext_10 : decode cX1_bestNext 10 = .ok (.iload_n 3, 1) := by decide +kernel
theorem dX1_bestNext_11 : decode cX1_bestNext 11 = .ok (.if_icmp .gt 63, 3) := by decide +kernel
theorem dX1_bestNext_14 : decode cX1_bestNext 14 = .ok (.aload_n 0, 1) := by decide +kernel
theorem dX1_bestNext_15 : decode cX1_bestNext 15 = .ok (.getfield 18, 3) := by decide +kernel
theorem dX1_bestNext_18 : decode cX1_bestNext 18 = .ok (.iload 5, 2) := by decide +kernel
theorem dX1_bestNext_20 : decode cX1_bestNext 20 = .ok (.invokestatic 36, 3) := by decide +kernel
theorem dX1_bestNext_23 : decode cX1_bestNext 23 = .ok (.iconst (-1), 1) := by decide +kernel
theorem dX1_bestNext_24 : decode cX1_bestNext 24 = .ok (.if_icmp .eq 44, 3) := by decide +kernel
theorem dX1_bestNext_27 : decode cX1_bestNext 27 = .ok (.aload_n 1, 1) := by decide +kernel
theorem dX1_bestNext_28 : decode cX1_bestNext 28 = .ok (.iload_n 2, 1) := by decide +kernel
theorem dX1_bestNext_29 : decode cX1_bestNext 29 = .ok (.iload 5, 2) := by decide +kernel
theorem dX1_bestNext_31 : decode cX1_bestNext 31 = .ok (.invokevirtual 30, 3) := by decide +kernel
theorem dX1_bestNext_34 : decode cX1_bestNext 34 = .ok (.ifCond .eq 34, 3) := by decide +kernel
theorem dX1_bestNext_37 : decode cX1_bestNext 37 = .ok (.iload 4, 2) := by decide +kernel
theorem dX1_bestNext_39 : decode cX1_bestNext 39 = .ok (.iconst (-1), 1) := by decide +kernel
theorem dX1_bestNext_40 : decode cX1_bestNext 40 = .ok (.if_icmp .eq 24, 3) := by decide +kernel
theorem dX1_bestNext_43 : decode cX1_bestNext 43 = .ok (.aload_n 0, 1) := by decide +kernel
theorem dX1_bestNext_44 : decode cX1_bestNext 44 = .ok (.getfield 15, 3) := by decide +kernel
theorem dX1_bestNext_47 : decode cX1_bestNext 47 = .ok (.iload 5, 2) := by decide +kernel
theorem dX1_bestNext_49 : decode cX1_bestNext 49 = .ok (.invokestatic 36, 3) := by decide +kernel
theorem dX1_bestNext_52 : decode cX1_bestNext 52 = .ok (.aload_n 0, 1) := by decide +kernel
theorem dX1_bestNext_53 : decode cX1_bestNext 53 = .ok (.getfield 15, 3) := by decide +kernel
theorem dX1_bestNext_56 : decode cX1_bestNext 56 = .ok (.iload 4, 2) := by decide +kernel
theorem dX1_bestNext_58 : decode cX1_bestNext 58 = .ok (.invokestatic 36, 3) := by decide +kernel
theorem dX1_bestNext_61 : decode cX1_bestNext 61 = .ok (.if_icmp .le 7, 3) := by decide +kernel
theorem dX1_bestNext_64 : decode cX1_bestNext 64 = .ok (.iload 5, 2) := by decide +kernel
theorem dX1_bestNext_66 : decode cX1_bestNext 66 = .ok (.istore 4, 2) := by decide +kernel
theorem dX1_bestNext_68 : decode cX1_bestNext 68 = .ok (.iinc 5 1, 3) := by decide +kernel
theorem dX1_bestNext_71 : decode cX1_bestNext 71 = .ok (.goto (-63), 3) := by decide +kernel
theorem dX1_bestNext_74 : decode cX1_bestNext 74 = .ok (.iload 4, 2) := by decide +kernel
theorem dX1_bestNext_76 : decode cX1_bestNext 76 = .ok (.ireturn, 1) := by decide +kernel
theorem dX1_ownWorth_0 : decode cX1_ownWorth 0 = .ok (.iload_n 1, 1) := by decide +kernel
theorem dX1_ownWorth_1 : decode cX1_ownWorth 1 = .ok (.lookupswitch 31 #[(0, 27), (1, 29)], 27) := by decide +kernel
theorem dX1_ownWorth_28 : decode cX1_ownWorth 28 = .ok (.iconst 1, 1) := by decide +kernel
theorem dX1_ownWorth_29 : decode cX1_ownWorth 29 = .ok (.ireturn, 1) := by decide +kernel
theorem dX1_ownWorth_30 : decode cX1_ownWorth 30 = .ok (.iconst (-1), 1) := by decide +kernel
theorem dX1_ownWorth_31 : decode cX1_ownWorth 31 = .ok (.ireturn, 1) := by decide +kernel
theorem dX1_ownWorth_32 : decode cX1_ownWorth 32 = .ok (.iload_n 0, 1) := by decide +kernel
theorem dX1_ownWorth_33 : decode cX1_ownWorth 33 = .ok (.ireturn, 1) := by decide +kernel
theorem dX2_init_0 : decode cX2_init 0 = .ok (.aload_n 0, 1) := by decide +kernel
theorem dX2_init_1 : decode cX2_init 1 = .ok (.invokespecial 3, 3) := by decide +kernel
theorem dX2_init_4 : decode cX2_init 4 = .ok (.aload_n 0, 1) := by decide +kernel
theorem dX2_init_5 : decode cX2_init 5 = .ok (.bipush 12, 2) := by decide +kernel
theorem dX2_init_7 : decode cX2_init 7 = .ok (.newarray .int, 2) := by decide +kernel
theorem dX2_init_9 : decode cX2_init 9 = .ok (.putfield 9, 3) := by decide +kernel
theorem dX2_init_12 : decode cX2_init 12 = .ok (.return_, 1) := by decide +kernel
set_option maxRecDepth 20000 in
theorem ggX2_find_X5_put : GoodIn wsX2_find wsX5_put := goodIn_r _ [6] (by decide +kernel) (by decide +kernel)
set_option maxRecDepth 20000 in
theorem gX2_find_X5_put : GoodIn wsX2_find (va_wsS RX2 22 yX5_put wsX5_put) := goodIn_app (goodIn_of _ (by decide +kernel)) ggX2_find_X5_put
set_option maxRecDepth 20000 in
theorem ggX2_find_X6_isKin : GoodIn wsX2_find wsX6_isKin := goodIn_r _ [11, 12, 13, 14, 15, 10, 16, 17, 18, 19, 20, 21, 22, 23, 24, 25, 42, 43, 44, 45, 46, 47] (by decide +kernel) (by decide +kernel)
set_option maxRecDepth 20000 in
theorem gX2_find_X6_isKin : GoodIn wsX2_find (wsV RX2 28 RX6 yX6_isKin wsX6_isKin) := goodIn_app (goodIn_of _ (by decide +kernel)) ggX2_find_X6_isKin
set_option maxRecDepth 20000 in
theorem ggX2_find_X2_lowestOf : GoodIn wsX2_find wsX2_lowestOf := goodIn_r _ [30, 2, 31, 32, 5, 33, 48, 49] (by decide +kernel) (by decide +kernel)
set_option maxRecDepth 20000 in
theorem gX2_find_X2_lowestOf : GoodIn wsX2_find (wsV RX2 32 RX2 yX2_lowestOf wsX2_lowestOf) := goodIn_app (goodIn_of _ (by decide +kernel)) ggX2_find_X2_lowestOf
set_option maxRecDepth 20000 in
theorem ggX2_find_X2_join : GoodIn wsX2_find wsX2_join := goodIn_r _ [37, 38, 39, 40, 41, 1, 2, 26, 27, 28, 29, 30, 31, 32, 5, 33, 3, 4, 6, 48, 49] (by decide +kernel) (by decide +kernel)
set_option maxRecDepth 20000 in
theorem gX2_find_X2_join : GoodIn wsX2_find (wsV RX2 36 RX2 yX2_join wsX2_join) := goodIn_app (goodIn_of _ (by decide +kernel)) ggX2_find_X2_join
theorem dX2_find_0 : decode cX2_find 0 = .ok (.aload_n 0, 1) := by decide +kernel
theorem dX2_find_1 : decode cX2_find 1 = .ok (.aload_n 1, 1) := by decide +kernel
theorem dX2_find_2 : decode cX2_find 2 = .ok (.getfield 15, 3) := by decide +kernel
theorem dX2_find_5 : decode cX2_find 5 = .ok (.putfield 21, 3) := by decide +kernel
theorem dX2_find_8 : decode cX2_find 8 = .ok (.iconst 0, 1) := by decide +kernel
theorem dX2_find_9 : decode cX2_find 9 = .ok (.istore_n 2, 1) := by decide +kernel
theorem dX2_find_10 : decode cX2_find 10 = .ok (.iload_n 2, 1) := by decide +kernel
theorem dX2_find_11 : decode cX2_find 11 = .ok (.aload_n 0, 1) := by decide +kernel
theorem dX2_find_12 : decode cX2_find 12 = .ok (.getfield 21, 3) := by decide +kernel
theorem dX2_find_15 : decode cX2_find 15 = .ok (.if_icmp .ge 18, 3) := by decide +kernel
theorem dX2_find_18 : decode cX2_find 18 = .ok (.aload_n 0, 1) := by decide +kernel
theorem dX2_find_19 : decode cX2_find 19 = .ok (.getfield 9, 3) := by decide +kernel
theorem dX2_find_22 : decode cX2_find 22 = .ok (.iload_n 2, 1) := by decide +kernel
theorem dX2_find_23 : decode cX2_find 23 = .ok (.iload_n 2, 1) := by decide +kernel
theorem dX2_find_24 : decode cX2_find 24 = .ok (.invokestatic 22, 3) := by decide +kernel
theorem dX2_find_27 : decode cX2_find 27 = .ok (.iinc 2 1, 3) := by decide +kernel
theorem dX2_find_30 : decode cX2_find 30 = .ok (.goto (-20), 3) := by decide +kernel
theorem dX2_find_33 : decode cX2_find 33 = .ok (.iconst 1, 1) := by decide +kernel
theorem dX2_find_34 : decode cX2_find 34 = .ok (.istore_n 2, 1) := by decide +kernel
theorem dX2_find_35 : decode cX2_find 35 = .ok (.iload_n 2, 1) := by decide +kernel
theorem dX2_find_36 : decode cX2_find 36 = .ok (.aload_n 0, 1) := by decide +kernel
theorem dX2_find_37 : decode cX2_find 37 = .ok (.getfield 21, 3) := by decide +kernel
theorem dX2_find_40 : decode cX2_find 40 = .ok (.if_icmp .ge 45, 3) := by decide +kernel
theorem dX2_find_43 : decode cX2_find 43 = .ok (.iconst 0, 1) := by decide +kernel
theorem dX2_find_44 : decode cX2_find 44 = .ok (.istore_n 3, 1) := by decide +kernel
theorem dX2_find_45 : decode cX2_find 45 = .ok (.iload_n 3, 1) := by decide +kernel
theorem dX2_find_46 : decode cX2_find 46 = .ok (.iload_n 2, 1) := by decide +kernel
theorem dX2_find_47 : decode cX2_find 47 = .ok (.if_icmp .ge 32, 3) := by decide +kernel
theorem dX2_find_50 : decode cX2_find 50 = .ok (.aload_n 1, 1) := by decide +kernel
theorem dX2_find_51 : decode cX2_find 51 = .ok (.iload_n 3, 1) := by decide +kernel
theorem dX2_find_52 : decode cX2_find 52 = .ok (.iload_n 2, 1) := by decide +kernel
theorem dX2_find_53 : decode cX2_find 53 = .ok (.invokevirtual 28, 3) := by decide +kernel
theorem dX2_find_56 : decode cX2_find 56 = .ok (.ifCond .eq 17, 3) := by decide +kernel
theorem dX2_find_59 : decode cX2_find 59 = .ok (.aload_n 0, 1) := by decide +kernel
theorem dX2_find_60 : decode cX2_find 60 = .ok (.aload_n 0, 1) := by decide +kernel
theorem dX2_find_61 : decode cX2_find 61 = .ok (.iload_n 3, 1) := by decide +kernel
theorem dX2_find_62 : decode cX2_find 62 = .ok (.invokevirtual 32, 3) := by decide +kernel
theorem dX2_find_65 : decode cX2_find 65 = .ok (.aload_n 0, 1) := by decide +kernel
theorem dX2_find_66 : decode cX2_find 66 = .ok (.iload_n 2, 1) := by decide +kernel
theorem dX2_find_67 : decode cX2_find 67 = .ok (.invokevirtual 32, 3) := by decide +kernel
theorem dX2_find_70 : decode cX2_find 70 = .ok (.invokevirtual 36, 3) := by decide +kernel
theorem dX2_find_73 : decode cX2_find 73 = .ok (.iinc 3 1, 3) := by decide +kernel
theorem dX2_find_76 : decode cX2_find 76 = .ok (.goto (-31), 3) := by decide +kernel
theorem dX2_find_79 : decode cX2_find 79 = .ok (.iinc 2 1, 3) := by decide +kernel
theorem dX2_find_82 : decode cX2_find 82 = .ok (.goto (-47), 3) := by decide +kernel
theorem dX2_find_85 : decode cX2_find 85 = .ok (.return_, 1) := by decide +kernel
set_option maxRecDepth 20000 in
theorem ggX2_lowestOf_X5_at : GoodIn wsX2_lowestOf wsX5_at := goodIn_r _ [5] (by decide +kernel) (by decide +kernel)
set_option maxRecDepth 20000 in
theorem gX2_lowestOf_X5_at : GoodIn wsX2_lowestOf (va_wsS RX2 40 yX5_at wsX5_at) := goodIn_app (goodIn_of _ (by decide +kernel)) ggX2_lowestOf_X5_at
theorem dX2_lowestOf_0 : decode cX2_lowestOf 0 = .ok (.aload_n 0, 1) := by decide +kernel
theorem dX2_lowestOf_1 : decode cX2_lowestOf 1 = .ok (.getfield 9, 3) := by decide +kernel
theorem dX2_lowestOf_4 : decode cX2_lowestOf 4 = .ok (.iload_n 1, 1) := by decide +kernel
theorem dX2_lowestOf_5 : decode cX2_lowestOf 5 = .ok (.invokestatic 40, 3) := by decide +kernel
theorem dX2_lowestOf_8 : decode cX2_lowestOf 8 = .ok (.ireturn, 1) := by decide +kernel
set_option maxRecDepth 20000 in
theorem ggX2_sizeOf_X2_lowestOf : GoodIn wsX2_sizeOf wsX2_lowestOf := goodIn_r _ [6, 7, 8, 9, 10, 11, 12, 13] (by decide +kernel) (by decide +kernel)
set_option maxRecDepth 20000 in
theorem gX2_sizeOf_X2_lowestOf : GoodIn wsX2_sizeOf (wsV RX2 32 RX2 yX2_lowestOf wsX2_lowestOf) := goodIn_app (goodIn_of _ (by decide +kernel)) ggX2_sizeOf_X2_lowestOf
theorem dX2_sizeOf_0 : decode cX2_sizeOf 0 = .ok (.iconst 0, 1) := by decide +kernel
theorem dX2_sizeOf_1 : decode cX2_sizeOf 1 = .ok (.istore_n 2, 1) := by decide +kernel
theorem dX2_sizeOf_2 : decode cX2_sizeOf 2 = .ok (.iconst 0, 1) := by decide +kernel
theorem dX2_sizeOf_3 : decode cX2_sizeOf 3 = .ok (.istore_n 3, 1) := by decide +kernel
theorem dX2_sizeOf_4 : decode cX2_sizeOf 4 = .ok (.iload_n 3, 1) := by decide +kernel
theorem dX2_sizeOf_5 : decode cX2_sizeOf 5 = .ok (.aload_n 0, 1) := by decide +kernel
theorem dX2_sizeOf_6 : decode cX2_sizeOf 6 = .ok (.getfield 21, 3) := by decide +kernel
theorem dX2_sizeOf_9 : decode cX2_sizeOf 9 = .ok (.if_icmp .ge 21, 3) := by decide +kernel
theorem dX2_sizeOf_12 : decode cX2_sizeOf 12 = .ok (.aload_n 0, 1) := by decide +kernel
theorem dX2_sizeOf_13 : decode cX2_sizeOf 13 = .ok (.iload_n 3, 1) := by decide +kernel
theorem dX2_sizeOf_14 : decode cX2_sizeOf 14 = .ok (.invokevirtual 32, 3) := by decide +kernel
theorem dX2_sizeOf_17 : decode cX2_sizeOf 17 = .ok (.iload_n 1, 1) := by decide +kernel
theorem dX2_sizeOf_18 : decode cX2_sizeOf 18 = .ok (.if_icmp .ne 6, 3) := by decide +kernel
theorem dX2_sizeOf_21 : decode cX2_sizeOf 21 = .ok (.iinc 2 1, 3) := by decide +kernel
theorem dX2_sizeOf_24 : decode cX2_sizeOf 24 = .ok (.iinc 3 1, 3) := by decide +kernel
theorem dX2_sizeOf_27 : decode cX2_sizeOf 27 = .ok (.goto (-23), 3) := by decide +kernel
theorem dX2_sizeOf_30 : decode cX2_sizeOf 30 = .ok (.iload_n 2, 1) := by decide +kernel
theorem dX2_sizeOf_31 : decode cX2_sizeOf 31 = .ok (.ireturn, 1) := by decide +kernel
set_option maxRecDepth 20000 in
theorem ggX2_many_X2_lowestOf : GoodIn wsX2_many wsX2_lowestOf := goodIn_r _ [6, 7, 8, 9, 10, 11, 12, 13] (by decide +kernel) (by decide +kernel)
set_option maxRecDepth 20000 in
theorem gX2_many_X2_lowestOf : GoodIn wsX2_many (wsV RX2 32 RX2 yX2_lowestOf wsX2_lowestOf) := goodIn_app (goodIn_of _ (by decide +kernel)) ggX2_many_X2_lowestOf
theorem dX2_many_0 : decode cX2_many 0 = .ok (.iconst 0, 1) := by decide +kernel
theorem dX2_many_1 : decode cX2_many 1 = .ok (.istore_n 1, 1) := by decide +kernel
theorem dX2_many_2 : decode cX2_many 2 = .ok (.iconst 0, 1) := by decide +kernel
theorem dX2_many_3 : decode cX2_many 3 = .ok (.istore_n 2, 1) := by decide +kernel
theorem dX2_many_4 : decode cX2_many 4 = .ok (.iload_n 2, 1) := by decide +kernel
theorem dX2_many_5 : decode cX2_many 5 = .ok (.aload_n 0, 1) := by decide +kernel
theorem dX2_many_6 : decode cX2_many 6 = .ok (.getfield 21, 3) := by decide +kernel
theorem dX2_many_9 : decode cX2_many 9 = .ok (.if_icmp .ge 21, 3) := by decide +kernel
theorem dX2_many_12 : decode cX2_many 12 = .ok (.aload_n 0, 1) := by decide +kernel
theorem dX2_many_13 : decode cX2_many 13 = .ok (.iload_n 2, 1) := by decide +kernel
theorem dX2_many_14 : decode cX2_many 14 = .ok (.invokevirtual 32, 3) := by decide +kernel
theorem dX2_many_17 : decode cX2_many 17 = .ok (.iload_n 2, 1) := by decide +kernel
theorem dX2_many_18 : decode cX2_many 18 = .ok (.if_icmp .ne 6, 3) := by decide +kernel
theorem dX2_many_21 : decode cX2_many 21 = .ok (.iinc 1 1, 3) := by decide +kernel
theorem dX2_many_24 : decode cX2_many 24 = .ok (.iinc 2 1, 3) := by decide +kernel
theorem dX2_many_27 : decode cX2_many 27 = .ok (.goto (-23), 3) := by decide +kernel
theorem dX2_many_30 : decode cX2_many 30 = .ok (.iload_n 1, 1) := by decide +kernel
theorem dX2_many_31 : decode cX2_many 31 = .ok (.ireturn, 1) := by decide +kernel
set_option maxRecDepth 20000 in
theorem ggX2_greatest_X2_sizeOf : GoodIn wsX2_greatest wsX2_sizeOf := goodIn_r _ [10, 1, 11, 12, 13, 9, 14, 15, 16, 17, 18, 19, 20, 21] (by decide +kernel) (by decide +kernel)
set_option maxRecDepth 20000 in
theorem gX2_greatest_X2_sizeOf : GoodIn wsX2_greatest (wsV RX2 44 RX2 yX2_sizeOf wsX2_sizeOf) := goodIn_app (goodIn_of _ (by decide +kernel)) ggX2_greatest_X2_sizeOf
theorem dX2_greatest_0 : decode cX2_greatest 0 = .ok (.iconst 0, 1) := by decide +kernel
theorem dX2_greatest_1 : decode cX2_greatest 1 = .ok (.istore_n 1, 1) := by decide +kernel
theorem dX2_greatest_2 : decode cX2_greatest 2 = .ok (.iconst 0, 1) := by decide +kernel
theorem dX2_greatest_3 : decode cX2_greatest 3 = .ok (.istore_n 2, 1) := by decide +kernel
theorem dX2_greatest_4 : decode cX2_greatest 4 = .ok (.iload_n 2, 1) := by decide +kernel
theorem dX2_greatest_5 : decode cX2_greatest 5 = .ok (.aload_n 0, 1) := by decide +kernel
theorem dX2_greatest_6 : decode cX2_greatest 6 = .ok (.getfield 21, 3) := by decide +kernel
theorem dX2_greatest_9 : decode cX2_greatest 9 = .ok (.if_icmp .ge 19, 3) := by decide +kernel
theorem dX2_greatest_12 : decode cX2_greatest 12 = .ok (.iload_n 1, 1) := by decide +kernel
theorem dX2_greatest_13 : decode cX2_greatest 13 = .ok (.aload_n 0, 1) := by decide +kernel
theorem dX2_greatest_14 : decode cX2_greatest 14 = .ok (.iload_n 2, 1) := by decide +kernel
theorem dX2_greatest_15 : decode cX2_greatest 15 = .ok (.invokevirtual 44, 3) := by decide +kernel
theorem dX2_greatest_18 : decode cX2_greatest 18 = .ok (.invokestatic 47, 3) := by decide +kernel
theorem dX2_greatest_21 : decode cX2_greatest 21 = .ok (.istore_n 1, 1) := by decide +kernel
theorem dX2_greatest_22 : decode cX2_greatest 22 = .ok (.iinc 2 1, 3) := by decide +kernel
theorem dX2_greatest_25 : decode cX2_greatest 25 = .ok (.goto (-21), 3) := by decide +kernel
theorem dX2_greatest_28 : decode cX2_greatest 28 = .ok (.iload_n 1, 1) := by decide +kernel
theorem dX2_greatest_29 : decode cX2_greatest 29 = .ok (.ireturn, 1) := by decide +kernel
set_option maxRecDepth 20000 in
theorem ggX2_join_X2_lowestOf : GoodIn wsX2_join wsX2_lowestOf := goodIn_r _ [11, 6, 12, 13, 14, 15, 19, 20] (by decide +kernel) (by decide +kernel)
set_option maxRecDepth 20000 in
theorem gX2_join_X2_lowestOf : GoodIn wsX2_join (wsV RX2 32 RX2 yX2_lowestOf wsX2_lowestOf) := goodIn_app (goodIn_of _ (by decide +kernel)) ggX2_join_X2_lowestOf
set_option maxRecDepth 20000 in
theorem ggX2_join_X5_put : GoodIn wsX2_join wsX5_put := goodIn_r _ [18] (by decide +kernel) (by decide +kernel)
set_option maxRecDepth 20000 in
theorem gX2_join_X5_put : GoodIn wsX2_join (va_wsS RX2 22 yX5_put wsX5_put) := goodIn_app (goodIn_of _ (by decide +kernel)) ggX2_join_X5_put
theorem dX2_join_0 : decode cX2_join 0 = .ok (.iload_n 1, 1) := by decide +kernel
theorem dX2_join_1 : decode cX2_join 1 = .ok (.iload_n 2, 1) := by decide +kernel
theorem dX2_join_2 : decode cX2_join 2 = .ok (.invokestatic 53, 3) := by decide +kernel
theorem dX2_join_5 : decode cX2_join 5 = .ok (.istore_n 3, 1) := by decide +kernel
theorem dX2_join_6 : decode cX2_join 6 = .ok (.iconst 0, 1) := by decide +kernel
theorem dX2_join_7 : decode cX2_join 7 = .ok (.istore 4, 2) := by decide +kernel
theorem dX2_join_9 : decode cX2_join 9 = .ok (.iload 4, 2) := by decide +kernel
theorem dX2_join_11 : decode cX2_join 11 = .ok (.aload_n 0, 1) := by decide +kernel
theorem dX2_join_12 : decode cX2_join 12 = .ok (.getfield 21, 3) := by decide +kernel
theorem dX2_join_15 : decode cX2_join 15 = .ok (.if_icmp .ge 39, 3) := by decide +kernel
theorem dX2_join_18 : decode cX2_join 18 = .ok (.aload_n 0, 1) := by decide +kernel
theorem dX2_join_19 : decode cX2_join 19 = .ok (.iload 4, 2) := by decide +kernel
theorem dX2_join_21 : decode cX2_join 21 = .ok (.invokevirtual 32, 3) := by decide +kernel
theorem dX2_join_24 : decode cX2_join 24 = .ok (.iload_n 1, 1) := by decide +kernel
theorem dX2_join_25 : decode cX2_join 25 = .ok (.if_icmp .eq 13, 3) := by decide +kernel
theorem dX2_join_28 : decode cX2_join 28 = .ok (.aload_n 0, 1) := by decide +kernel
theorem dX2_join_29 : decode cX2_join 29 = .ok (.iload 4, 2) := by decide +kernel
theorem dX2_join_31 : decode cX2_join 31 = .ok (.invokevirtual 32, 3) := by decide +kernel
theorem dX2_join_34 : decode cX2_join 34 = .ok (.iload_n 2, 1) := by decide +kernel
theorem dX2_join_35 : decode cX2_join 35 = .ok (.if_icmp .ne 13, 3) := by decide +kernel
theorem dX2_join_38 : decode cX2_join 38 = .ok (.aload_n 0, 1) := by decide +kernel
theorem dX2_join_39 : decode cX2_join 39 = .ok (.getfield 9, 3) := by decide +kernel
theorem dX2_join_42 : decode cX2_join 42 = .ok (.iload 4, 2) := by decide +kernel
theorem dX2_join_44 : decode cX2_join 44 = .ok (.iload_n 3, 1) := by decide +kernel
theorem dX2_join_45 : decode cX2_join 45 = .ok (.invokestatic 22, 3) := by decide +kernel
theorem dX2_join_48 : decode cX2_join 48 = .ok (.iinc 4 1, 3) := by decide +kernel
theorem dX2_join_51 : decode cX2_join 51 = .ok (.goto (-42), 3) := by decide +kernel
theorem dX2_join_54 : decode cX2_join 54 = .ok (.return_, 1) := by decide +kernel
set_option maxRecDepth 20000 in
theorem ggX3_init_X6_init : GoodIn wsX3_init wsX6_init := goodIn_r _ [10, 11, 2, 3, 12, 13, 14, 15, 16, 17, 18, 19, 20, 21, 22, 23, 24, 25, 29, 30, 31, 32, 33, 34, 35, 36, 37, 38] (by decide +kernel) (by decide +kernel)
set_option maxRecDepth 20000 in
theorem gX3_init_X6_init : GoodIn wsX3_init (wsX6_init) := ggX3_init_X6_init
theorem dX3_init_0 : decode cX3_init 0 = .ok (.aload_n 0, 1) := by decide +kernel
theorem dX3_init_1 : decode cX3_init 1 = .ok (.invokespecial 3, 3) := by decide +kernel
theorem dX3_init_4 : decode cX3_init 4 = .ok (.aload_n 0, 1) := by decide +kernel
theorem dX3_init_5 : decode cX3_init 5 = .ok (.iconst 5, 1) := by decide +kernel
theorem dX3_init_6 : decode cX3_init 6 = .ok (.anewarray 9, 3) := by decide +kernel
theorem dX3_init_9 : decode cX3_init 9 = .ok (.putfield 11, 3) := by decide +kernel
theorem dX3_init_12 : decode cX3_init 12 = .ok (.iconst 0, 1) := by decide +kernel
theorem dX3_init_13 : decode cX3_init 13 = .ok (.istore_n 1, 1) := by decide +kernel
theorem dX3_init_14 : decode cX3_init 14 = .ok (.iload_n 1, 1) := by decide +kernel
theorem dX3_init_15 : decode cX3_init 15 = .ok (.aload_n 0, 1) := by decide +kernel
theorem dX3_init_16 : decode cX3_init 16 = .ok (.getfield 11, 3) := by decide +kernel
theorem dX3_init_19 : decode cX3_init 19 = .ok (.arraylength, 1) := by decide +kernel
theorem dX3_init_20 : decode cX3_init 20 = .ok (.if_icmp .ge 22, 3) := by decide +kernel
theorem dX3_init_23 : decode cX3_init 23 = .ok (.aload_n 0, 1) := by decide +kernel
theorem dX3_init_24 : decode cX3_init 24 = .ok (.getfield 11, 3) := by decide +kernel
theorem dX3_init_27 : decode cX3_init 27 = .ok (.iload_n 1, 1) := by decide +kernel
theorem dX3_init_28 : decode cX3_init 28 = .ok (.new 9, 3) := by decide +kernel
theorem dX3_init_31 : decode cX3_init 31 = .ok (.dup, 1) := by decide +kernel
theorem dX3_init_32 : decode cX3_init 32 = .ok (.invokespecial 17, 3) := by decide +kernel
theorem dX3_init_35 : decode cX3_init 35 = .ok (.aastore, 1) := by decide +kernel
theorem dX3_init_36 : decode cX3_init 36 = .ok (.iinc 1 1, 3) := by decide +kernel
theorem dX3_init_39 : decode cX3_init 39 = .ok (.goto (-25), 3) := by decide +kernel
theorem dX3_init_42 : decode cX3_init 42 = .ok (.return_, 1) := by decide +kernel
set_option maxRecDepth 20000 in
theorem ggX3_prepare_X3_stateAt : GoodIn wsX3_prepare wsX3_stateAt := goodIn_r _ [6, 7, 8, 55, 56, 57] (by decide +kernel) (by decide +kernel)
set_option maxRecDepth 20000 in
theorem gX3_prepare_X3_stateAt : GoodIn wsX3_prepare (wsV RX3 22 RX3 yX3_stateAt wsX3_stateAt) := goodIn_app (goodIn_of _ (by decide +kernel)) ggX3_prepare_X3_stateAt
