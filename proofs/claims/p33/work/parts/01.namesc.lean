set_option maxRecDepth 20000 in
theorem gX3_prepare_X3_stateAt : GoodIn wsX3_prepare (wsV RX3 22 RX3 yX3_stateAt wsX3_stateAt) := goodIn_app (goodIn_of _ (by decide +kernel)) ggX3_prepare_X3_stateAt
set_option maxRecDepth 20000 in
theorem ggX3_prepare_X6_copyFrom : GoodIn wsX3_prepare wsX6_copyFrom := goodIn_r _ [13, 14, 15, 16, 17, 18, 19, 20, 21, 22, 23, 24, 25, 26, 27, 28, 29, 30, 31, 32, 33, 34, 35, 36, 37, 38, 39, 40, 41, 42, 43, 44, 45, 46, 47, 48, 49, 50, 51, 52, 53, 54, 58, 59, 60, 61, 62, 63, 64, 65, 66, 67] (by decide +kernel) (by decide +kernel)
set_option maxRecDepth 20000 in
theorem gX3_prepare_X6_copyFrom : GoodIn wsX3_prepare (wsV RX3 26 RX6 yX6_copyFrom wsX6_copyFrom) := goodIn_app (goodIn_of _ (by decide +kernel)) ggX3_prepare_X6_copyFrom
theorem dX3_prepare_0 : decode cX3_prepare 0 = .ok (.aload_n 0, 1) := by decide +kernel
theorem dX3_prepare_1 : decode cX3_prepare 1 = .ok (.aload_n 0, 1) := by decide +kernel
theorem dX3_prepare_2 : decode cX3_prepare 2 = .ok (.getfield 18, 3) := by decide +kernel
theorem dX3_prepare_5 : decode cX3_prepare 5 = .ok (.invokevirtual 22, 3) := by decide +kernel
theorem dX3_prepare_8 : decode cX3_prepare 8 = .ok (.astore_n 2, 1) := by decide +kernel
theorem dX3_prepare_9 : decode cX3_prepare 9 = .ok (.aload_n 2, 1) := by decide +kernel
theorem dX3_prepare_10 : decode cX3_prepare 10 = .ok (.ifnull 8, 3) := by decide +kernel
theorem dX3_prepare_13 : decode cX3_prepare 13 = .ok (.aload_n 2, 1) := by decide +kernel
theorem dX3_prepare_14 : decode cX3_prepare 14 = .ok (.aload_n 1, 1) := by decide +kernel
theorem dX3_prepare_15 : decode cX3_prepare 15 = .ok (.invokevirtual 26, 3) := by decide +kernel
theorem dX3_prepare_18 : decode cX3_prepare 18 = .ok (.return_, 1) := by decide +kernel
theorem dX3_keep_0 : decode cX3_keep 0 = .ok (.iload_n 1, 1) := by decide +kernel
theorem dX3_keep_1 : decode cX3_keep 1 = .ok (.ifCond .lt 38, 3) := by decide +kernel
theorem dX3_keep_4 : decode cX3_keep 4 = .ok (.aload_n 0, 1) := by decide +kernel
theorem dX3_keep_5 : decode cX3_keep 5 = .ok (.dup, 1) := by decide +kernel
theorem dX3_keep_6 : decode cX3_keep 6 = .ok (.getfield 18, 3) := by decide +kernel
theorem dX3_keep_9 : decode cX3_keep 9 = .ok (.iconst 1, 1) := by decide +kernel
theorem dX3_keep_10 : decode cX3_keep 10 = .ok (.iadd, 1) := by decide +kernel
theorem dX3_keep_11 : decode cX3_keep 11 = .ok (.putfield 18, 3) := by decide +kernel
theorem dX3_keep_14 : decode cX3_keep 14 = .ok (.aload_n 0, 1) := by decide +kernel
theorem dX3_keep_15 : decode cX3_keep 15 = .ok (.getfield 18, 3) := by decide +kernel
theorem dX3_keep_18 : decode cX3_keep 18 = .ok (.iconst 4, 1) := by decide +kernel
theorem dX3_keep_19 : decode cX3_keep 19 = .ok (.if_icmp .le 20, 3) := by decide +kernel
theorem dX3_keep_22 : decode cX3_keep 22 = .ok (.aload_n 0, 1) := by decide +kernel
theorem dX3_keep_23 : decode cX3_keep 23 = .ok (.iconst 4, 1) := by decide +kernel
theorem dX3_keep_24 : decode cX3_keep 24 = .ok (.putfield 18, 3) := by decide +kernel
theorem dX3_keep_27 : decode cX3_keep 27 = .ok (.aload_n 0, 1) := by decide +kernel
theorem dX3_keep_28 : decode cX3_keep 28 = .ok (.aload_n 0, 1) := by decide +kernel
theorem dX3_keep_29 : decode cX3_keep 29 = .ok (.getfield 30, 3) := by decide +kernel
theorem dX3_keep_32 : decode cX3_keep 32 = .ok (.iconst 1, 1) := by decide +kernel
theorem dX3_keep_33 : decode cX3_keep 33 = .ok (.iadd, 1) := by decide +kernel
theorem dX3_keep_34 : decode cX3_keep 34 = .ok (.iconst 5, 1) := by decide +kernel
theorem dX3_keep_35 : decode cX3_keep 35 = .ok (.irem, 1) := by decide +kernel
theorem dX3_keep_36 : decode cX3_keep 36 = .ok (.putfield 30, 3) := by decide +kernel
theorem dX3_keep_39 : decode cX3_keep 39 = .ok (.iload_n 1, 1) := by decide +kernel
theorem dX3_keep_40 : decode cX3_keep 40 = .ok (.ireturn, 1) := by decide +kernel
theorem dX3_stateAt_0 : decode cX3_stateAt 0 = .ok (.aload_n 0, 1) := by decide +kernel
theorem dX3_stateAt_1 : decode cX3_stateAt 1 = .ok (.getfield 30, 3) := by decide +kernel
theorem dX3_stateAt_4 : decode cX3_stateAt 4 = .ok (.iload_n 1, 1) := by decide +kernel
theorem dX3_stateAt_5 : decode cX3_stateAt 5 = .ok (.iadd, 1) := by decide +kernel
theorem dX3_stateAt_6 : decode cX3_stateAt 6 = .ok (.iconst 5, 1) := by decide +kernel
theorem dX3_stateAt_7 : decode cX3_stateAt 7 = .ok (.irem, 1) := by decide +kernel
theorem dX3_stateAt_8 : decode cX3_stateAt 8 = .ok (.istore_n 2, 1) := by decide +kernel
theorem dX3_stateAt_9 : decode cX3_stateAt 9 = .ok (.iload_n 2, 1) := by decide +kernel
theorem dX3_stateAt_10 : decode cX3_stateAt 10 = .ok (.ifCond .lt 21, 3) := by decide +kernel
theorem dX3_stateAt_13 : decode cX3_stateAt 13 = .ok (.iload_n 2, 1) := by decide +kernel
theorem dX3_stateAt_14 : decode cX3_stateAt 14 = .ok (.aload_n 0, 1) := by decide +kernel
theorem dX3_stateAt_15 : decode cX3_stateAt 15 = .ok (.getfield 11, 3) := by decide +kernel
theorem dX3_stateAt_18 : decode cX3_stateAt 18 = .ok (.arraylength, 1) := by decide +kernel
theorem dX3_stateAt_19 : decode cX3_stateAt 19 = .ok (.if_icmp .ge 12, 3) := by decide +kernel
theorem dX3_stateAt_22 : decode cX3_stateAt 22 = .ok (.aload_n 0, 1) := by decide +kernel
theorem dX3_stateAt_23 : decode cX3_stateAt 23 = .ok (.getfield 11, 3) := by decide +kernel
theorem dX3_stateAt_26 : decode cX3_stateAt 26 = .ok (.iload_n 2, 1) := by decide +kernel
theorem dX3_stateAt_27 : decode cX3_stateAt 27 = .ok (.aaload, 1) := by decide +kernel
theorem dX3_stateAt_28 : decode cX3_stateAt 28 = .ok (.goto 4, 3) := by decide +kernel
theorem dX3_stateAt_31 : decode cX3_stateAt 31 = .ok (.aconst_null, 1) := by decide +kernel
theorem dX3_stateAt_32 : decode cX3_stateAt 32 = .ok (.areturn, 1) := by decide +kernel
theorem dX4_init_0 : decode cX4_init 0 = .ok (.aload_n 0, 1) := by decide +kernel
theorem dX4_init_1 : decode cX4_init 1 = .ok (.invokespecial 3, 3) := by decide +kernel
theorem dX4_init_4 : decode cX4_init 4 = .ok (.aload_n 0, 1) := by decide +kernel
theorem dX4_init_5 : decode cX4_init 5 = .ok (.bipush 60, 2) := by decide +kernel
theorem dX4_init_7 : decode cX4_init 7 = .ok (.newarray .int, 2) := by decide +kernel
theorem dX4_init_9 : decode cX4_init 9 = .ok (.putfield 9, 3) := by decide +kernel
theorem dX4_init_12 : decode cX4_init 12 = .ok (.return_, 1) := by decide +kernel
theorem dX5_at_0 : decode cX5_at 0 = .ok (.aload_n 0, 1) := by decide +kernel
theorem dX5_at_1 : decode cX5_at 1 = .ok (.ifnull 19, 3) := by decide +kernel
theorem dX5_at_4 : decode cX5_at 4 = .ok (.iload_n 1, 1) := by decide +kernel
theorem dX5_at_5 : decode cX5_at 5 = .ok (.ifCond .lt 15, 3) := by decide +kernel
theorem dX5_at_8 : decode cX5_at 8 = .ok (.iload_n 1, 1) := by decide +kernel
theorem dX5_at_9 : decode cX5_at 9 = .ok (.aload_n 0, 1) := by decide +kernel
theorem dX5_at_10 : decode cX5_at 10 = .ok (.arraylength, 1) := by decide +kernel
theorem dX5_at_11 : decode cX5_at 11 = .ok (.if_icmp .ge 9, 3) := by decide +kernel
theorem dX5_at_14 : decode cX5_at 14 = .ok (.aload_n 0, 1) := by decide +kernel
theorem dX5_at_15 : decode cX5_at 15 = .ok (.iload_n 1, 1) := by decide +kernel
theorem dX5_at_16 : decode cX5_at 16 = .ok (.iaload, 1) := by decide +kernel
theorem dX5_at_17 : decode cX5_at 17 = .ok (.goto 4, 3) := by decide +kernel
theorem dX5_at_20 : decode cX5_at 20 = .ok (.iconst 0, 1) := by decide +kernel
theorem dX5_at_21 : decode cX5_at 21 = .ok (.ireturn, 1) := by decide +kernel
theorem dX5_put_0 : decode cX5_put 0 = .ok (.aload_n 0, 1) := by decide +kernel
theorem dX5_put_1 : decode cX5_put 1 = .ok (.ifnull 17, 3) := by decide +kernel
theorem dX5_put_4 : decode cX5_put 4 = .ok (.iload_n 1, 1) := by decide +kernel
theorem dX5_put_5 : decode cX5_put 5 = .ok (.ifCond .lt 13, 3) := by decide +kernel
theorem dX5_put_8 : decode cX5_put 8 = .ok (.iload_n 1, 1) := by decide +kernel
theorem dX5_put_9 : decode cX5_put 9 = .ok (.aload_n 0, 1) := by decide +kernel
theorem dX5_put_10 : decode cX5_put 10 = .ok (.arraylength, 1) := by decide +kernel
theorem dX5_put_11 : decode cX5_put 11 = .ok (.if_icmp .ge 7, 3) := by decide +kernel
theorem dX5_put_14 : decode cX5_put 14 = .ok (.aload_n 0, 1) := by decide +kernel
theorem dX5_put_15 : decode cX5_put 15 = .ok (.iload_n 1, 1) := by decide +kernel
theorem dX5_put_16 : decode cX5_put 16 = .ok (.iload_n 2, 1) := by decide +kernel
theorem dX5_put_17 : decode cX5_put 17 = .ok (.iastore, 1) := by decide +kernel
theorem dX5_put_18 : decode cX5_put 18 = .ok (.return_, 1) := by decide +kernel
set_option maxRecDepth 20000 in
theorem ggX5_copy_X5_at : GoodIn wsX5_copy wsX5_at := goodIn_r _ [4] (by decide +kernel) (by decide +kernel)
set_option maxRecDepth 20000 in
theorem gX5_copy_X5_at : GoodIn wsX5_copy (va_wsS RX5 7 yX5_at wsX5_at) := goodIn_app (goodIn_of _ (by decide +kernel)) ggX5_copy_X5_at
set_option maxRecDepth 20000 in
theorem ggX5_copy_X5_put : GoodIn wsX5_copy wsX5_put := goodIn_r _ [7] (by decide +kernel) (by decide +kernel)
set_option maxRecDepth 20000 in
theorem gX5_copy_X5_put : GoodIn wsX5_copy (va_wsS RX5 13 yX5_put wsX5_put) := goodIn_app (goodIn_of _ (by decide +kernel)) ggX5_copy_X5_put
theorem dX5_copy_0 : decode cX5_copy 0 = .ok (.iconst 0, 1) := by decide +kernel
theorem dX5_copy_1 : decode cX5_copy 1 = .ok (.istore_n 3, 1) := by decide +kernel
theorem dX5_copy_2 : decode cX5_copy 2 = .ok (.iload_n 3, 1) := by decide +kernel
theorem dX5_copy_3 : decode cX5_copy 3 = .ok (.iload_n 2, 1) := by decide +kernel
theorem dX5_copy_4 : decode cX5_copy 4 = .ok (.if_icmp .ge 19, 3) := by decide +kernel
theorem dX5_copy_7 : decode cX5_copy 7 = .ok (.aload_n 1, 1) := by decide +kernel
theorem dX5_copy_8 : decode cX5_copy 8 = .ok (.iload_n 3, 1) := by decide +kernel
theorem dX5_copy_9 : decode cX5_copy 9 = .ok (.aload_n 0, 1) := by decide +kernel
theorem dX5_copy_10 : decode cX5_copy 10 = .ok (.iload_n 3, 1) := by decide +kernel
theorem dX5_copy_11 : decode cX5_copy 11 = .ok (.invokestatic 7, 3) := by decide +kernel
theorem dX5_copy_14 : decode cX5_copy 14 = .ok (.invokestatic 13, 3) := by decide +kernel
theorem dX5_copy_17 : decode cX5_copy 17 = .ok (.iinc 3 1, 3) := by decide +kernel
theorem dX5_copy_20 : decode cX5_copy 20 = .ok (.goto (-18), 3) := by decide +kernel
theorem dX5_copy_23 : decode cX5_copy 23 = .ok (.return_, 1) := by decide +kernel
theorem dX5_longer_0 : decode cX5_longer 0 = .ok (.aload_n 0, 1) := by decide +kernel
theorem dX5_longer_1 : decode cX5_longer 1 = .ok (.ifnonnull 7, 3) := by decide +kernel
theorem dX5_longer_4 : decode cX5_longer 4 = .ok (.iconst 0, 1) := by decide +kernel
theorem dX5_longer_5 : decode cX5_longer 5 = .ok (.goto 5, 3) := by decide +kernel
theorem dX5_longer_8 : decode cX5_longer 8 = .ok (.aload_n 0, 1) := by decide +kernel
theorem dX5_longer_9 : decode cX5_longer 9 = .ok (.arraylength, 1) := by decide +kernel
theorem dX5_longer_10 : decode cX5_longer 10 = .ok (.istore_n 2, 1) := by decide +kernel
theorem dX5_longer_11 : decode cX5_longer 11 = .ok (.iload_n 1, 1) := by decide +kernel
theorem dX5_longer_12 : decode cX5_longer 12 = .ok (.iload_n 2, 1) := by decide +kernel
theorem dX5_longer_13 : decode cX5_longer 13 = .ok (.if_icmp .le 7, 3) := by decide +kernel
theorem dX5_longer_16 : decode cX5_longer 16 = .ok (.iload_n 1, 1) := by decide +kernel
theorem dX5_longer_17 : decode cX5_longer 17 = .ok (.goto 4, 3) := by decide +kernel
theorem dX5_longer_20 : decode cX5_longer 20 = .ok (.iload_n 2, 1) := by decide +kernel
theorem dX5_longer_21 : decode cX5_longer 21 = .ok (.newarray .int, 2) := by decide +kernel
theorem dX5_longer_23 : decode cX5_longer 23 = .ok (.astore_n 3, 1) := by decide +kernel
theorem dX5_longer_24 : decode cX5_longer 24 = .ok (.iconst 0, 1) := by decide +kernel
theorem dX5_longer_25 : decode cX5_longer 25 = .ok (.istore 4, 2) := by decide +kernel
theorem dX5_longer_27 : decode cX5_longer 27 = .ok (.aload_n 0, 1) := by decide +kernel
theorem dX5_longer_28 : decode cX5_longer 28 = .ok (.ifnull 31, 3) := by decide +kernel
theorem dX5_longer_31 : decode cX5_longer 31 = .ok (.iload 4, 2) := by decide +kernel
theorem dX5_longer_33 : decode cX5_longer 33 = .ok (.aload_n 0, 1) := by decide +kernel
theorem dX5_longer_34 : decode cX5_longer 34 = .ok (.arraylength, 1) := by decide +kernel
theorem dX5_longer_35 : decode cX5_longer 35 = .ok (.if_icmp .ge 24, 3) := by decide +kernel
theorem dX5_longer_38 : decode cX5_longer 38 = .ok (.iload 4, 2) := by decide +kernel
theorem dX5_longer_40 : decode cX5_longer 40 = .ok (.aload_n 3, 1) := by decide +kernel
theorem dX5_longer_41 : decode cX5_longer 41 = .ok (.arraylength, 1) := by decide +kernel
theorem dX5_longer_42 : decode cX5_longer 42 = .ok (.if_icmp .ge 17, 3) := by decide +kernel
theorem dX5_longer_45 : decode cX5_longer 45 = .ok (.aload_n 3, 1) := by decide +kernel
theorem dX5_longer_46 : decode cX5_longer 46 = .ok (.iload 4, 2) := by decide +kernel
theorem dX5_longer_48 : decode cX5_longer 48 = .ok (.aload_n 0, 1) := by decide +kernel
theorem dX5_longer_49 : decode cX5_longer 49 = .ok (.iload 4, 2) := by decide +kernel
theorem dX5_longer_51 : decode cX5_longer 51 = .ok (.iaload, 1) := by decide +kernel
theorem dX5_longer_52 : decode cX5_longer 52 = .ok (.iastore, 1) := by decide +kernel
theorem dX5_longer_53 : decode cX5_longer 53 = .ok (.iinc 4 1, 3) := by decide +kernel
theorem dX5_longer_56 : decode cX5_longer 56 = .ok (.goto (-29), 3) := by decide +kernel
theorem dX5_longer_59 : decode cX5_longer 59 = .ok (.aload_n 3, 1) := by decide +kernel
theorem dX5_longer_60 : decode cX5_longer 60 = .ok (.areturn, 1) := by decide +kernel
set_option maxRecDepth 20000 in
theorem ggX6_init_X0_init : GoodIn wsX6_init wsX0_init := goodIn_r _ [13, 14, 2, 3, 4, 15, 16, 17, 24, 25, 26, 27] (by decide +kernel) (by decide +kernel)
set_option maxRecDepth 20000 in
theorem gX6_init_X0_init : GoodIn wsX6_init (wsX0_init) := ggX6_init_X0_init
theorem dX6_init_0 : decode cX6_init 0 = .ok (.aload_n 0, 1) := by decide +kernel
theorem dX6_init_1 : decode cX6_init 1 = .ok (.invokespecial 3, 3) := by decide +kernel
theorem dX6_init_4 : decode cX6_init 4 = .ok (.aload_n 0, 1) := by decide +kernel
theorem dX6_init_5 : decode cX6_init 5 = .ok (.bipush 12, 2) := by decide +kernel
theorem dX6_init_7 : decode cX6_init 7 = .ok (.newarray .int, 2) := by decide +kernel
theorem dX6_init_9 : decode cX6_init 9 = .ok (.putfield 9, 3) := by decide +kernel
theorem dX6_init_12 : decode cX6_init 12 = .ok (.aload_n 0, 1) := by decide +kernel
theorem dX6_init_13 : decode cX6_init 13 = .ok (.new 15, 3) := by decide +kernel
theorem dX6_init_16 : decode cX6_init 16 = .ok (.dup, 1) := by decide +kernel
theorem dX6_init_17 : decode cX6_init 17 = .ok (.invokespecial 17, 3) := by decide +kernel
theorem dX6_init_20 : decode cX6_init 20 = .ok (.putfield 18, 3) := by decide +kernel
theorem dX6_init_23 : decode cX6_init 23 = .ok (.aload_n 0, 1) := by decide +kernel
theorem dX6_init_24 : decode cX6_init 24 = .ok (.iconst 2, 1) := by decide +kernel
theorem dX6_init_25 : decode cX6_init 25 = .ok (.putfield 22, 3) := by decide +kernel
theorem dX6_init_28 : decode cX6_init 28 = .ok (.return_, 1) := by decide +kernel
set_option maxRecDepth 20000 in
theorem ggX6_copyFrom_X5_copy : GoodIn wsX6_copyFrom wsX5_copy := goodIn_r _ [10, 11, 12, 9, 13, 14, 15, 16] (by decide +kernel) (by decide +kernel)
set_option maxRecDepth 20000 in
theorem gX6_copyFrom_X5_copy : GoodIn wsX6_copyFrom (va_wsS RX6 35 yX5_copy wsX5_copy) := goodIn_app (goodIn_of _ (by decide +kernel)) ggX6_copyFrom_X5_copy
set_option maxRecDepth 20000 in
theorem ggX6_copyFrom_X0_copyFrom : GoodIn wsX6_copyFrom wsX0_copyFrom := goodIn_r _ [21, 22, 23, 24, 25, 26, 27, 28, 20, 29, 30, 31, 32, 33, 34, 35, 36, 37, 38, 9, 39, 40, 41, 8, 10, 11, 12, 13, 14, 15, 16, 48, 49, 50, 51] (by decide +kernel) (by decide +kernel)
set_option maxRecDepth 20000 in
theorem gX6_copyFrom_X0_copyFrom : GoodIn wsX6_copyFrom (wsV RX6 41 RX0 yX0_copyFrom wsX0_copyFrom) := goodIn_app (goodIn_of _ (by decide +kernel)) ggX6_copyFrom_X0_copyFrom
theorem dX6_copyFrom_0 : decode cX6_copyFrom 0 = .ok (.aload_n 0, 1) := by decide +kernel
theorem dX6_copyFrom_1 : decode cX6_copyFrom 1 = .ok (.aload_n 1, 1) := by decide +kernel
theorem dX6_copyFrom_2 : decode cX6_copyFrom 2 = .ok (.getfield 26, 3) := by decide +kernel
theorem dX6_copyFrom_5 : decode cX6_copyFrom 5 = .ok (.putfield 26, 3) := by decide +kernel
theorem dX6_copyFrom_8 : decode cX6_copyFrom 8 = .ok (.aload_n 0, 1) := by decide +kernel
theorem dX6_copyFrom_9 : decode cX6_copyFrom 9 = .ok (.aload_n 1, 1) := by decide +kernel
theorem dX6_copyFrom_10 : decode cX6_copyFrom 10 = .ok (.getfield 29, 3) := by decide +kernel
theorem dX6_copyFrom_13 : decode cX6_copyFrom 13 = .ok (.putfield 29, 3) := by decide +kernel
theorem dX6_copyFrom_16 : decode cX6_copyFrom 16 = .ok (.aload_n 0, 1) := by decide +kernel
theorem dX6_copyFrom_17 : decode cX6_copyFrom 17 = .ok (.aload_n 1, 1) := by decide +kernel
theorem dX6_copyFrom_18 : decode cX6_copyFrom 18 = .ok (.getfield 22, 3) := by decide +kernel
theorem dX6_copyFrom_21 : decode cX6_copyFrom 21 = .ok (.putfield 22, 3) := by decide +kernel
theorem dX6_copyFrom_24 : decode cX6_copyFrom 24 = .ok (.aload_n 0, 1) := by decide +kernel
theorem dX6_copyFrom_25 : decode cX6_copyFrom 25 = .ok (.aload_n 1, 1) := by decide +kernel
theorem dX6_copyFrom_26 : decode cX6_copyFrom 26 = .ok (.getfield 32, 3) := by decide +kernel
theorem dX6_copyFrom_29 : decode cX6_copyFrom 29 = .ok (.putfield 32, 3) := by decide +kernel
theorem dX6_copyFrom_32 : decode cX6_copyFrom 32 = .ok (.aload_n 1, 1) := by decide +kernel
theorem dX6_copyFrom_33 : decode cX6_copyFrom 33 = .ok (.getfield 9, 3) := by decide +kernel
theorem dX6_copyFrom_36 : decode cX6_copyFrom 36 = .ok (.aload_n 0, 1) := by decide +kernel
theorem dX6_copyFrom_37 : decode cX6_copyFrom 37 = .ok (.getfield 9, 3) := by decide +kernel
theorem dX6_copyFrom_40 : decode cX6_copyFrom 40 = .ok (.aload_n 0, 1) := by decide +kernel
theorem dX6_copyFrom_41 : decode cX6_copyFrom 41 = .ok (.getfield 26, 3) := by decide +kernel
theorem dX6_copyFrom_44 : decode cX6_copyFrom 44 = .ok (.invokestatic 35, 3) := by decide +kernel
theorem dX6_copyFrom_47 : decode cX6_copyFrom 47 = .ok (.aload_n 0, 1) := by decide +kernel
theorem dX6_copyFrom_48 : decode cX6_copyFrom 48 = .ok (.getfield 18, 3) := by decide +kernel
theorem dX6_copyFrom_51 : decode cX6_copyFrom 51 = .ok (.aload_n 1, 1) := by decide +kernel
theorem dX6_copyFrom_52 : decode cX6_copyFrom 52 = .ok (.getfield 18, 3) := by decide +kernel
theorem dX6_copyFrom_55 : decode cX6_copyFrom 55 = .ok (.invokevirtual 41, 3) := by decide +kernel
theorem dX6_copyFrom_58 : decode cX6_copyFrom 58 = .ok (.return_, 1) := by decide +kernel
theorem dX6_has_0 : decode cX6_has 0 = .ok (.iload_n 1, 1) := by decide +kernel
theorem dX6_has_1 : decode cX6_has 1 = .ok (.ifCond .lt 15, 3) := by decide +kernel
theorem dX6_has_4 : decode cX6_has 4 = .ok (.iload_n 1, 1) := by decide +kernel
theorem dX6_has_5 : decode cX6_has 5 = .ok (.aload_n 0, 1) := by decide +kernel
theorem dX6_has_6 : decode cX6_has 6 = .ok (.getfield 26, 3) := by decide +kernel
theorem dX6_has_9 : decode cX6_has 9 = .ok (.if_icmp .ge 7, 3) := by decide +kernel
theorem dX6_has_12 : decode cX6_has 12 = .ok (.iconst 1, 1) := by decide +kernel
theorem dX6_has_13 : decode cX6_has 13 = .ok (.goto 4, 3) := by decide +kernel
theorem dX6_has_16 : decode cX6_has 16 = .ok (.iconst 0, 1) := by decide +kernel
theorem dX6_has_17 : decode cX6_has 17 = .ok (.ireturn, 1) := by decide +kernel
theorem dX6_numberOf_0 : decode cX6_numberOf 0 = .ok (.iload_n 1, 1) := by decide +kernel
theorem dX6_numberOf_1 : decode cX6_numberOf 1 = .ok (.ifCond .lt 29, 3) := by decide +kernel
theorem dX6_numberOf_4 : decode cX6_numberOf 4 = .ok (.iload_n 1, 1) := by decide +kernel
theorem dX6_numberOf_5 : decode cX6_numberOf 5 = .ok (.aload_n 0, 1) := by decide +kernel
theorem dX6_numberOf_6 : decode cX6_numberOf 6 = .ok (.getfield 26, 3) := by decide +kernel
theorem dX6_numberOf_9 : decode cX6_numberOf 9 = .ok (.if_icmp .ge 21, 3) := by decide +kernel
theorem dX6_numberOf_12 : decode cX6_numberOf 12 = .ok (.iload_n 1, 1) := by decide +kernel
theorem dX6_numberOf_13 : decode cX6_numberOf 13 = .ok (.aload_n 0, 1) := by decide +kernel
theorem dX6_numberOf_14 : decode cX6_numberOf 14 = .ok (.getfield 9, 3) := by decide +kernel
theorem dX6_numberOf_17 : decode cX6_numberOf 17 = .ok (.arraylength, 1) := by decide +kernel
theorem dX6_numberOf_18 : decode cX6_numberOf 18 = .ok (.if_icmp .ge 12, 3) := by decide +kernel
theorem dX6_numberOf_21 : decode cX6_numberOf 21 = .ok (.aload_n 0, 1) := by decide +kernel
theorem dX6_numberOf_22 : decode cX6_numberOf 22 = .ok (.getfield 9, 3) := by decide +kernel
theorem dX6_numberOf_25 : decode cX6_numberOf 25 = .ok (.iload_n 1, 1) := by decide +kernel
theorem dX6_numberOf_26 : decode cX6_numberOf 26 = .ok (.iaload, 1) := by decide +kernel
theorem dX6_numberOf_27 : decode cX6_numberOf 27 = .ok (.goto 4, 3) := by decide +kernel
theorem dX6_numberOf_30 : decode cX6_numberOf 30 = .ok (.iconst 1, 1) := by decide +kernel
theorem dX6_numberOf_31 : decode cX6_numberOf 31 = .ok (.ireturn, 1) := by decide +kernel
set_option maxRecDepth 20000 in
theorem ggX6_putIn_X7_isNumber : GoodIn wsX6_putIn wsX7_isNumber := goodIn_r _ [7] (by decide +kernel) (by decide +kernel)
set_option maxRecDepth 20000 in
theorem gX6_putIn_X7_isNumber : GoodIn wsX6_putIn (va_wsS RX6 45 yX7_isNumber wsX7_isNumber) := goodIn_app (goodIn_of _ (by decide +kernel)) ggX6_putIn_X7_isNumber
set_option maxRecDepth 20000 in
theorem ggX6_putIn_X5_at : GoodIn wsX6_putIn wsX5_at := goodIn_r _ [11] (by decide +kernel) (by decide +kernel)
set_option maxRecDepth 20000 in
theorem gX6_putIn_X5_at : GoodIn wsX6_putIn (va_wsS RX6 51 yX5_at wsX5_at) := goodIn_app (goodIn_of _ (by decide +kernel)) ggX6_putIn_X5_at
set_option maxRecDepth 20000 in
theorem ggX6_putIn_X5_put : GoodIn wsX6_putIn wsX5_put := goodIn_r _ [14] (by decide +kernel) (by decide +kernel)
set_option maxRecDepth 20000 in
theorem gX6_putIn_X5_put : GoodIn wsX6_putIn (va_wsS RX6 55 yX5_put wsX5_put) := goodIn_app (goodIn_of _ (by decide +kernel)) ggX6_putIn_X5_put
set_option maxRecDepth 20000 in
theorem ggX6_putIn_X0_book : GoodIn wsX6_putIn wsX0_book := goodIn_r _ [19, 20, 21, 22, 23, 24, 25, 18, 26, 27, 28, 29, 30, 31, 32, 33, 34, 35, 36, 10, 37, 38, 39, 40, 6, 41, 42, 43, 44, 45, 46, 47, 48, 49, 9, 11, 50, 51, 52, 53, 54, 13, 14, 55, 56, 57, 64, 65, 66, 67] (by decide +kernel) (by decide +kernel)
set_option maxRecDepth 20000 in
theorem gX6_putIn_X0_book : GoodIn wsX6_putIn (wsV RX6 59 RX0 yX0_book wsX0_book) := goodIn_app (goodIn_of _ (by decide +kernel)) ggX6_putIn_X0_book
theorem dX6_putIn_0 : decode cX6_putIn 0 = .ok (.iload_n 1, 1) := by decide +kernel
theorem dX6_putIn_1 : decode cX6_putIn 1 = .ok (.ifCond .lt 18, 3) := by decide +kernel
theorem dX6_putIn_4 : decode cX6_putIn 4 = .ok (.iload_n 1, 1) := by decide +kernel
theorem dX6_putIn_5 : decode cX6_putIn 5 = .ok (.aload_n 0, 1) := by decide +kernel
theorem dX6_putIn_6 : decode cX6_putIn 6 = .ok (.getfield 26, 3) := by decide +kernel
theorem dX6_putIn_9 : decode cX6_putIn 9 = .ok (.if_icmp .gt 10, 3) := by decide +kernel
theorem dX6_putIn_12 : decode cX6_putIn 12 = .ok (.iload_n 2, 1) := by decide +kernel
theorem dX6_putIn_13 : decode cX6_putIn 13 = .ok (.invokestatic 45, 3) := by decide +kernel
theorem dX6_putIn_16 : decode cX6_putIn 16 = .ok (.ifCond .ne 5, 3) := by decide +kernel
theorem dX6_putIn_19 : decode cX6_putIn 19 = .ok (.iconst (-1), 1) := by decide +kernel
theorem dX6_putIn_20 : decode cX6_putIn 20 = .ok (.ireturn, 1) := by decide +kernel
theorem dX6_putIn_21 : decode cX6_putIn 21 = .ok (.aload_n 0, 1) := by decide +kernel
theorem dX6_putIn_22 : decode cX6_putIn 22 = .ok (.getfield 26, 3) := by decide +kernel
theorem dX6_putIn_25 : decode cX6_putIn 25 = .ok (.bipush 12, 2) := by decide +kernel
theorem dX6_putIn_27 : decode cX6_putIn 27 = .ok (.if_icmp .lt 6, 3) := by decide +kernel
theorem dX6_putIn_30 : decode cX6_putIn 30 = .ok (.bipush (-3), 2) := by decide +kernel
theorem dX6_putIn_32 : decode cX6_putIn 32 = .ok (.ireturn, 1) := by decide +kernel
theorem dX6_putIn_33 : decode cX6_putIn 33 = .ok (.aload_n 0, 1) := by decide +kernel
theorem dX6_putIn_34 : decode cX6_putIn 34 = .ok (.getfield 26, 3) := by decide +kernel
theorem dX6_putIn_37 : decode cX6_putIn 37 = .ok (.istore_n 3, 1) := by decide +kernel
theorem dX6_putIn_38 : decode cX6_putIn 38 = .ok (.iload_n 3, 1) := by decide +kernel
theorem dX6_putIn_39 : decode cX6_putIn 39 = .ok (.iload_n 1, 1) := by decide +kernel
theorem dX6_putIn_40 : decode cX6_putIn 40 = .ok (.if_icmp .le 27, 3) := by decide +kernel
theorem dX6_putIn_43 : decode cX6_putIn 43 = .ok (.aload_n 0, 1) := by decide +kernel
theorem dX6_putIn_44 : decode cX6_putIn 44 = .ok (.getfield 9, 3) := by decide +kernel
theorem dX6_putIn_47 : decode cX6_putIn 47 = .ok (.iload_n 3, 1) := by decide +kernel
theorem dX6_putIn_48 : decode cX6_putIn 48 = .ok (.aload_n 0, 1) := by decide +kernel
theorem dX6_putIn_49 : decode cX6_putIn 49 = .ok (.getfield 9, 3) := by decide +kernel
theorem dX6_putIn_52 : decode cX6_putIn 52 = .ok (.iload_n 3, 1) := by decide +kernel
theorem dX6_putIn_53 : decode cX6_putIn 53 = .ok (.iconst 1, 1) := by decide +kernel
theorem dX6_putIn_54 : decode cX6_putIn 54 = .ok (.isub, 1) := by decide +kernel
theorem dX6_putIn_55 : decode cX6_putIn 55 = .ok (.invokestatic 51, 3) := by decide +kernel
theorem dX6_putIn_58 : decode cX6_putIn 58 = .ok (.invokestatic 55, 3) := by decide +kernel
theorem dX6_putIn_61 : decode cX6_putIn 61 = .ok (.iinc 3 (-1), 3) := by decide +kernel
theorem dX6_putIn_64 : decode cX6_putIn 64 = .ok (.goto (-26), 3) := by decide +kernel
theorem dX6_putIn_67 : decode cX6_putIn 67 = .ok (.aload_n 0, 1) := by decide +kernel
theorem dX6_putIn_68 : decode cX6_putIn 68 = .ok (.getfield 9, 3) := by decide +kernel
theorem dX6_putIn_71 : decode cX6_putIn 71 = .ok (.iload_n 1, 1) := by decide +kernel
theorem dX6_putIn_72 : decode cX6_putIn 72 = .ok (.iload_n 2, 1) := by decide +kernel
theorem dX6_putIn_73 : decode cX6_putIn 73 = .ok (.invokestatic 55, 3) := by decide +kernel
theorem dX6_putIn_76 : decode cX6_putIn 76 = .ok (.aload_n 0, 1) := by decide +kernel
theorem dX6_putIn_77 : decode cX6_putIn 77 = .ok (.dup, 1) := by decide +kernel
theorem dX6_putIn_78 : decode cX6_putIn 78 = .ok (.getfield 26, 3) := by decide +kernel
theorem dX6_putIn_81 : decode cX6_putIn 81 = .ok (.iconst 1, 1) := by decide +kernel
theorem dX6_putIn_82 : decode cX6_putIn 82 = .ok (.iadd, 1) := by decide +kernel
theorem dX6_putIn_83 : decode cX6_putIn 83 = .ok (.putfield 26, 3) := by decide +kernel
theorem dX6_putIn_86 : decode cX6_putIn 86 = .ok (.aload_n 0, 1) := by decide +kernel
theorem dX6_putIn_87 : decode cX6_putIn 87 = .ok (.getfield 18, 3) := by decide +kernel
theorem dX6_putIn_90 : decode cX6_putIn 90 = .ok (.iload_n 2, 1) := by decide +kernel
theorem dX6_putIn_91 : decode cX6_putIn 91 = .ok (.iconst 0, 1) := by decide +kernel
theorem dX6_putIn_92 : decode cX6_putIn 92 = .ok (.iconst 1, 1) := by decide +kernel
theorem dX6_putIn_93 : decode cX6_putIn 93 = .ok (.invokevirtual 59, 3) := by decide +kernel
theorem dX6_putIn_96 : decode cX6_putIn 96 = .ok (.aload_n 0, 1) := by decide +kernel
theorem dX6_putIn_97 : decode cX6_putIn 97 = .ok (.getfield 26, 3) := by decide +kernel
theorem dX6_putIn_100 : decode cX6_putIn 100 = .ok (.ireturn, 1) := by decide +kernel
set_option maxRecDepth 20000 in
theorem ggX6_takeOff_X6_has : GoodIn wsX6_takeOff wsX6_has := goodIn_r _ [6, 7, 68, 69, 70, 71, 72, 73] (by decide +kernel) (by decide +kernel)
set_option maxRecDepth 20000 in
theorem gX6_takeOff_X6_has : GoodIn wsX6_takeOff (wsV RX6 63 RX6 yX6_has wsX6_has) := goodIn_app (goodIn_of _ (by decide +kernel)) ggX6_takeOff_X6_has
set_option maxRecDepth 20000 in
theorem ggX6_takeOff_X6_numberOf : GoodIn wsX6_takeOff wsX6_numberOf := goodIn_r _ [11, 7, 12, 68, 69, 70, 71, 72, 73] (by decide +kernel) (by decide +kernel)
set_option maxRecDepth 20000 in
theorem gX6_takeOff_X6_numberOf : GoodIn wsX6_takeOff (wsV RX6 66 RX6 yX6_numberOf wsX6_numberOf) := goodIn_app (goodIn_of _ (by decide +kernel)) ggX6_takeOff_X6_numberOf
set_option maxRecDepth 20000 in
theorem ggX6_takeOff_X0_book : GoodIn wsX6_takeOff wsX0_book := goodIn_r _ [17, 18, 19, 20, 21, 22, 23, 16, 24, 25, 26, 27, 28, 29, 30, 31, 32, 33, 34, 35, 36, 37, 38, 39, 40, 41, 42, 43, 44, 45, 46, 47, 48, 49, 50, 51, 52, 53, 54, 55, 56, 57, 58, 59, 60, 61, 74, 75, 76, 77] (by decide +kernel) (by decide +kernel)
set_option maxRecDepth 20000 in
theorem gX6_takeOff_X0_book : GoodIn wsX6_takeOff (wsV RX6 59 RX0 yX0_book wsX0_book) := goodIn_app (goodIn_of _ (by decide +kernel)) ggX6_takeOff_X0_book
set_option maxRecDepth 20000 in
theorem ggX6_takeOff_X6_closeUp : GoodIn wsX6_takeOff wsX6_closeUp := goodIn_r _ [65, 7, 12, 66, 50, 35, 51, 67, 57, 58, 68, 69, 70, 71, 72, 73] (by decide +kernel) (by decide +kernel)
set_option maxRecDepth 20000 in
theorem gX6_takeOff_X6_closeUp : GoodIn wsX6_takeOff (wsV RX6 70 RX6 yX6_closeUp wsX6_closeUp) := goodIn_app (goodIn_of _ (by decide +kernel)) ggX6_takeOff_X6_closeUp
theorem dX6_takeOff_0 : decode cX6_takeOff 0 = .ok (.aload_n 0, 1) := by decide +kernel
theorem dX6_takeOff_1 : decode cX6_takeOff 1 = .ok (.iload_n 1, 1) := by decide +kernel
theorem dX6_takeOff_2 : decode cX6_takeOff 2 = .ok (.invokevirtual 63, 3) := by decide +kernel
theorem dX6_takeOff_5 : decode cX6_takeOff 5 = .ok (.ifCond .ne 5, 3) := by decide +kernel
theorem dX6_takeOff_8 : decode cX6_takeOff 8 = .ok (.iconst (-1), 1) := by decide +kernel
theorem dX6_takeOff_9 : decode cX6_takeOff 9 = .ok (.ireturn, 1) := by decide +kernel
theorem dX6_takeOff_10 : decode cX6_takeOff 10 = .ok (.aload_n 0, 1) := by decide +kernel
theorem dX6_takeOff_11 : decode cX6_takeOff 11 = .ok (.iload_n 1, 1) := by decide +kernel
theorem dX6_takeOff_12 : decode cX6_takeOff 12 = .ok (.invokevirtual 66, 3) := by decide +kernel
theorem dX6_takeOff_15 : decode cX6_takeOff 15 = .ok (.istore_n 2, 1) := by decide +kernel
theorem dX6_takeOff_16 : decode cX6_takeOff 16 = .ok (.aload_n 0, 1) := by decide +kernel
theorem dX6_takeOff_17 : decode cX6_takeOff 17 = .ok (.getfield 18, 3) := by decide +kernel
theorem dX6_takeOff_20 : decode cX6_takeOff 20 = .ok (.iload_n 2, 1) := by decide +kernel
theorem dX6_takeOff_21 : decode cX6_takeOff 21 = .ok (.iconst 0, 1) := by decide +kernel
theorem dX6_takeOff_22 : decode cX6_takeOff 22 = .ok (.iconst (-1), 1) := by decide +kernel
theorem dX6_takeOff_23 : decode cX6_takeOff 23 = .ok (.invokevirtual 59, 3) := by decide +kernel
theorem dX6_takeOff_26 : decode cX6_takeOff 26 = .ok (.aload_n 0, 1) := by decide +kernel
theorem dX6_takeOff_27 : decode cX6_takeOff 27 = .ok (.iload_n 1, 1) := by decide +kernel
theorem dX6_takeOff_28 : decode cX6_takeOff 28 = .ok (.invokevirtual 70, 3) := by decide +kernel
theorem dX6_takeOff_31 : decode cX6_takeOff 31 = .ok (.iload_n 2, 1) := by decide +kernel
theorem dX6_takeOff_32 : decode cX6_takeOff 32 = .ok (.ireturn, 1) := by decide +kernel
set_option maxRecDepth 20000 in
theorem ggX6_shareAt_X6_has : GoodIn wsX6_shareAt wsX6_has := goodIn_r _ [6, 7, 27, 28, 29, 30, 31, 32] (by decide +kernel) (by decide +kernel)
set_option maxRecDepth 20000 in
theorem gX6_shareAt_X6_has : GoodIn wsX6_shareAt (wsV RX6 63 RX6 yX6_has wsX6_has) := goodIn_app (goodIn_of _ (by decide +kernel)) ggX6_shareAt_X6_has
set_option maxRecDepth 20000 in
theorem ggX6_shareAt_X6_numberOf : GoodIn wsX6_shareAt wsX6_numberOf := goodIn_r _ [11, 7, 1, 27, 28, 29, 30, 31, 32] (by decide +kernel) (by decide +kernel)
set_option maxRecDepth 20000 in
theorem gX6_shareAt_X6_numberOf : GoodIn wsX6_shareAt (wsV RX6 66 RX6 yX6_numberOf wsX6_numberOf) := goodIn_app (goodIn_of _ (by decide +kernel)) ggX6_shareAt_X6_numberOf
set_option maxRecDepth 20000 in
theorem ggX6_shareAt_X7_multiple : GoodIn wsX6_shareAt wsX7_multiple := goodIn_r _ [15, 16, 17, 14, 18, 19, 20, 21] (by decide +kernel) (by decide +kernel)
set_option maxRecDepth 20000 in
theorem gX6_shareAt_X7_multiple : GoodIn wsX6_shareAt (va_wsS RX6 84 yX7_multiple wsX7_multiple) := goodIn_app (goodIn_of _ (by decide +kernel)) ggX6_shareAt_X7_multiple
set_option maxRecDepth 20000 in
theorem ggX6_shareAt_X7_divisorByRemainders : GoodIn wsX6_shareAt wsX7_divisorByRemainders := goodIn_r _ [18] (by decide +kernel) (by decide +kernel)
set_option maxRecDepth 20000 in
theorem gX6_shareAt_X7_divisorByRemainders : GoodIn wsX6_shareAt (va_wsS RX6 87 yX7_divisorByRemainders wsX7_divisorByRemainders) := goodIn_app (goodIn_of _ (by decide +kernel)) ggX6_shareAt_X7_divisorByRemainders
set_option maxRecDepth 20000 in
theorem ggX6_shareAt_X5_put : GoodIn wsX6_shareAt wsX5_put := goodIn_r _ [26] (by decide +kernel) (by decide +kernel)
set_option maxRecDepth 20000 in
theorem gX6_shareAt_X5_put : GoodIn wsX6_shareAt (va_wsS RX6 55 yX5_put wsX5_put) := goodIn_app (goodIn_of _ (by decide +kernel)) ggX6_shareAt_X5_put
theorem dX6_shareAt_0 : decode cX6_shareAt 0 = .ok (.aload_n 0, 1) := by decide +kernel
theorem dX6_shareAt_1 : decode cX6_shareAt 1 = .ok (.iload_n 1, 1) := by decide +kernel
theorem dX6_shareAt_2 : decode cX6_shareAt 2 = .ok (.invokevirtual 63, 3) := by decide +kernel
theorem dX6_shareAt_5 : decode cX6_shareAt 5 = .ok (.ifCond .eq 13, 3) := by decide +kernel
theorem dX6_shareAt_8 : decode cX6_shareAt 8 = .ok (.aload_n 0, 1) := by decide +kernel
theorem dX6_shareAt_9 : decode cX6_shareAt 9 = .ok (.iload_n 1, 1) := by decide +kernel
theorem dX6_shareAt_10 : decode cX6_shareAt 10 = .ok (.iconst 1, 1) := by decide +kernel
theorem dX6_shareAt_11 : decode cX6_shareAt 11 = .ok (.iadd, 1) := by decide +kernel
theorem dX6_shareAt_12 : decode cX6_shareAt 12 = .ok (.invokevirtual 63, 3) := by decide +kernel
theorem dX6_shareAt_15 : decode cX6_shareAt 15 = .ok (.ifCond .ne 5, 3) := by decide +kernel
theorem dX6_shareAt_18 : decode cX6_shareAt 18 = .ok (.iconst (-1), 1) := by decide +kernel
theorem dX6_shareAt_19 : decode cX6_shareAt 19 = .ok (.ireturn, 1) := by decide +kernel
theorem dX6_shareAt_20 : decode cX6_shareAt 20 = .ok (.aload_n 0, 1) := by decide +kernel
theorem dX6_shareAt_21 : decode cX6_shareAt 21 = .ok (.iload_n 1, 1) := by decide +kernel
theorem dX6_shareAt_22 : decode cX6_shareAt 22 = .ok (.invokevirtual 66, 3) := by decide +kernel
theorem dX6_shareAt_25 : decode cX6_shareAt 25 = .ok (.istore_n 2, 1) := by decide +kernel
theorem dX6_shareAt_26 : decode cX6_shareAt 26 = .ok (.aload_n 0, 1) := by decide +kernel
theorem dX6_shareAt_27 : decode cX6_shareAt 27 = .ok (.iload_n 1, 1) := by decide +kernel
theorem dX6_shareAt_28 : decode cX6_shareAt 28 = .ok (.iconst 1, 1) := by decide +kernel
theorem dX6_shareAt_29 : decode cX6_shareAt 29 = .ok (.iadd, 1) := by decide +kernel
theorem dX6_shareAt_30 : decode cX6_shareAt 30 = .ok (.invokevirtual 66, 3) := by decide +kernel
theorem dX6_shareAt_33 : decode cX6_shareAt 33 = .ok (.istore_n 3, 1) := by decide +kernel
theorem dX6_shareAt_34 : decode cX6_shareAt 34 = .ok (.iload_n 2, 1) := by decide +kernel
theorem dX6_shareAt_35 : decode cX6_shareAt 35 = .ok (.iload_n 3, 1) := by decide +kernel
theorem dX6_shareAt_36 : decode cX6_shareAt 36 = .ok (.invokestatic 84, 3) := by decide +kernel
theorem dX6_shareAt_39 : decode cX6_shareAt 39 = .ok (.istore 4, 2) := by decide +kernel
theorem dX6_shareAt_41 : decode cX6_shareAt 41 = .ok (.iload 4, 2) := by decide +kernel
theorem dX6_shareAt_43 : decode cX6_shareAt 43 = .ok (.sipush 9999, 3) := by decide +kernel
theorem dX6_shareAt_46 : decode cX6_shareAt 46 = .ok (.if_icmp .le 6, 3) := by decide +kernel
theorem dX6_shareAt_49 : decode cX6_shareAt 49 = .ok (.bipush (-3), 2) := by decide +kernel
theorem dX6_shareAt_51 : decode cX6_shareAt 51 = .ok (.ireturn, 1) := by decide +kernel
theorem dX6_shareAt_52 : decode cX6_shareAt 52 = .ok (.iload_n 2, 1) := by decide +kernel
theorem dX6_shareAt_53 : decode cX6_shareAt 53 = .ok (.iload_n 3, 1) := by decide +kernel
theorem dX6_shareAt_54 : decode cX6_shareAt 54 = .ok (.invokestatic 87, 3) := by decide +kernel
theorem dX6_shareAt_57 : decode cX6_shareAt 57 = .ok (.istore 5, 2) := by decide +kernel
theorem dX6_shareAt_59 : decode cX6_shareAt 59 = .ok (.aload_n 0, 1) := by decide +kernel
theorem dX6_shareAt_60 : decode cX6_shareAt 60 = .ok (.getfield 9, 3) := by decide +kernel
theorem dX6_shareAt_63 : decode cX6_shareAt 63 = .ok (.iload_n 1, 1) := by decide +kernel
theorem dX6_shareAt_64 : decode cX6_shareAt 64 = .ok (.iload 5, 2) := by decide +kernel
theorem dX6_shareAt_66 : decode cX6_shareAt 66 = .ok (.invokestatic 55, 3) := by decide +kernel
theorem dX6_shareAt_69 : decode cX6_shareAt 69 = .ok (.aload_n 0, 1) := by decide +kernel
theorem dX6_shareAt_70 : decode cX6_shareAt 70 = .ok (.getfield 9, 3) := by decide +kernel
theorem dX6_shareAt_73 : decode cX6_shareAt 73 = .ok (.iload_n 1, 1) := by decide +kernel
theorem dX6_shareAt_74 : decode cX6_shareAt 74 = .ok (.iconst 1, 1) := by decide +kernel
theorem dX6_shareAt_75 : decode cX6_shareAt 75 = .ok (.iadd, 1) := by decide +kernel
theorem dX6_shareAt_76 : decode cX6_shareAt 76 = .ok (.iload 4, 2) := by decide +kernel
theorem dX6_shareAt_78 : decode cX6_shareAt 78 = .ok (.invokestatic 55, 3) := by decide +kernel
theorem dX6_shareAt_81 : decode cX6_shareAt 81 = .ok (.iload 5, 2) := by decide +kernel
theorem dX6_shareAt_83 : decode cX6_shareAt 83 = .ok (.ireturn, 1) := by decide +kernel
set_option maxRecDepth 20000 in
theorem ggX6_divideAt_X6_has : GoodIn wsX6_divideAt wsX6_has := goodIn_r _ [5, 6, 75, 76, 77, 78, 79, 80] (by decide +kernel) (by decide +kernel)
set_option maxRecDepth 20000 in
theorem gX6_divideAt_X6_has : GoodIn wsX6_divideAt (wsV RX6 63 RX6 yX6_has wsX6_has) := goodIn_app (goodIn_of _ (by decide +kernel)) ggX6_divideAt_X6_has
set_option maxRecDepth 20000 in
theorem ggX6_divideAt_X6_numberOf : GoodIn wsX6_divideAt wsX6_numberOf := goodIn_r _ [10, 6, 11, 75, 76, 77, 78, 79, 80] (by decide +kernel) (by decide +kernel)
set_option maxRecDepth 20000 in
theorem gX6_divideAt_X6_numberOf : GoodIn wsX6_divideAt (wsV RX6 66 RX6 yX6_numberOf wsX6_numberOf) := goodIn_app (goodIn_of _ (by decide +kernel)) ggX6_divideAt_X6_numberOf
set_option maxRecDepth 20000 in
theorem ggX6_divideAt_X7_divides : GoodIn wsX6_divideAt wsX7_divides := goodIn_r _ [15] (by decide +kernel) (by decide +kernel)
set_option maxRecDepth 20000 in
theorem gX6_divideAt_X7_divides : GoodIn wsX6_divideAt (va_wsS RX6 90 yX7_divides wsX7_divides) := goodIn_app (goodIn_of _ (by decide +kernel)) ggX6_divideAt_X7_divides
set_option maxRecDepth 20000 in
theorem ggX6_divideAt_X6_split : GoodIn wsX6_divideAt wsX6_split := goodIn_r _ [19, 20, 21, 11, 7, 8, 9, 4, 10, 6, 22, 23, 14, 24, 25, 26, 27, 28, 29, 30, 31, 32, 33, 34, 35, 36, 37, 38, 39, 40, 41, 42, 43, 44, 45, 46, 47, 48, 49, 50, 51, 52, 53, 13, 15, 54, 55, 56, 57, 58, 59, 60, 61, 62, 63, 64, 65, 66, 67, 68, 69, 70, 71, 72, 73, 74, 75, 76, 77, 78, 79, 80, 81, 82, 83, 84] (by decide +kernel) (by decide +kernel)
set_option maxRecDepth 20000 in
theorem gX6_divideAt_X6_split : GoodIn wsX6_divideAt (wsV RX6 94 RX6 yX6_split wsX6_split) := goodIn_app (goodIn_of _ (by decide +kernel)) ggX6_divideAt_X6_split
theorem dX6_divideAt_0 : decode cX6_divideAt 0 = .ok (.aload_n 0, 1) := by decide +kernel
theorem dX6_divideAt_1 : decode cX6_divideAt 1 = .ok (.iload_n 1, 1) := by decide +kernel
theorem dX6_divideAt_2 : decode cX6_divideAt 2 = .ok (.invokevirtual 63, 3) := by decide +kernel
theorem dX6_divideAt_5 : decode cX6_divideAt 5 = .ok (.ifCond .eq 13, 3) := by decide +kernel
theorem dX6_divideAt_8 : decode cX6_divideAt 8 = .ok (.aload_n 0, 1) := by decide +kernel
theorem dX6_divideAt_9 : decode cX6_divideAt 9 = .ok (.iload_n 1, 1) := by decide +kernel
theorem dX6_divideAt_10 : decode cX6_divideAt 10 = .ok (.iconst 1, 1) := by decide +kernel
theorem dX6_divideAt_11 : decode cX6_divideAt 11 = .ok (.iadd, 1) := by decide +kernel
theorem dX6_divideAt_12 : decode cX6_divideAt 12 = .ok (.invokevirtual 63, 3) := by decide +kernel
theorem dX6_divideAt_15 : decode cX6_divideAt 15 = .ok (.ifCond .ne 5, 3) := by decide +kernel
theorem dX6_divideAt_18 : decode cX6_divideAt 18 = .ok (.iconst (-1), 1) := by decide +kernel
theorem dX6_divideAt_19 : decode cX6_divideAt 19 = .ok (.ireturn, 1) := by decide +kernel
theorem dX6_divideAt_20 : decode cX6_divideAt 20 = .ok (.aload_n 0, 1) := by decide +kernel
theorem dX6_divideAt_21 : decode cX6_divideAt 21 = .ok (.iload_n 1, 1) := by decide +kernel
theorem dX6_divideAt_22 : decode cX6_divideAt 22 = .ok (.invokevirtual 66, 3) := by decide +kernel
theorem dX6_divideAt_25 : decode cX6_divideAt 25 = .ok (.istore_n 2, 1) := by decide +kernel
theorem dX6_divideAt_26 : decode cX6_divideAt 26 = .ok (.iload_n 2, 1) := by decide +kernel
theorem dX6_divideAt_27 : decode cX6_divideAt 27 = .ok (.aload_n 0, 1) := by decide +kernel
theorem dX6_divideAt_28 : decode cX6_divideAt 28 = .ok (.iload_n 1, 1) := by decide +kernel
theorem dX6_divideAt_29 : decode cX6_divideAt 29 = .ok (.iconst 1, 1) := by decide +kernel
theorem dX6_divideAt_30 : decode cX6_divideAt 30 = .ok (.iadd, 1) := by decide +kernel
theorem dX6_divideAt_31 : decode cX6_divideAt 31 = .ok (.invokevirtual 66, 3) := by decide +kernel
theorem dX6_divideAt_34 : decode cX6_divideAt 34 = .ok (.invokestatic 90, 3) := by decide +kernel
theorem dX6_divideAt_37 : decode cX6_divideAt 37 = .ok (.ifCond .ne 6, 3) := by decide +kernel
theorem dX6_divideAt_40 : decode cX6_divideAt 40 = .ok (.bipush (-2), 2) := by decide +kernel
theorem dX6_divideAt_42 : decode cX6_divideAt 42 = .ok (.ireturn, 1) := by decide +kernel
theorem dX6_divideAt_43 : decode cX6_divideAt 43 = .ok (.aload_n 0, 1) := by decide +kernel
theorem dX6_divideAt_44 : decode cX6_divideAt 44 = .ok (.iload_n 1, 1) := by decide +kernel
theorem dX6_divideAt_45 : decode cX6_divideAt 45 = .ok (.iconst 1, 1) := by decide +kernel
theorem dX6_divideAt_46 : decode cX6_divideAt 46 = .ok (.iadd, 1) := by decide +kernel
theorem dX6_divideAt_47 : decode cX6_divideAt 47 = .ok (.iload_n 2, 1) := by decide +kernel
theorem dX6_divideAt_48 : decode cX6_divideAt 48 = .ok (.invokevirtual 94, 3) := by decide +kernel
theorem dX6_divideAt_51 : decode cX6_divideAt 51 = .ok (.ireturn, 1) := by decide +kernel
set_option maxRecDepth 20000 in
theorem ggX6_strikeBy_X6_has : GoodIn wsX6_strikeBy wsX6_has := goodIn_r _ [5, 6, 79, 80, 81, 82, 83, 84] (by decide +kernel) (by decide +kernel)
set_option maxRecDepth 20000 in
theorem gX6_strikeBy_X6_has : GoodIn wsX6_strikeBy (wsV RX6 63 RX6 yX6_has wsX6_has) := goodIn_app (goodIn_of _ (by decide +kernel)) ggX6_strikeBy_X6_has
set_option maxRecDepth 20000 in
theorem ggX6_strikeBy_X7_isPrime : GoodIn wsX6_strikeBy wsX7_isPrime := goodIn_r _ [10, 11, 12, 9, 13, 14, 15, 16] (by decide +kernel) (by decide +kernel)
set_option maxRecDepth 20000 in
theorem gX6_strikeBy_X7_isPrime : GoodIn wsX6_strikeBy (va_wsS RX6 97 yX7_isPrime wsX7_isPrime) := goodIn_app (goodIn_of _ (by decide +kernel)) ggX6_strikeBy_X7_isPrime
set_option maxRecDepth 20000 in
theorem ggX6_strikeBy_X6_numberOf : GoodIn wsX6_strikeBy wsX6_numberOf := goodIn_r _ [20, 6, 21, 79, 80, 81, 82, 83, 84] (by decide +kernel) (by decide +kernel)
set_option maxRecDepth 20000 in
theorem gX6_strikeBy_X6_numberOf : GoodIn wsX6_strikeBy (wsV RX6 66 RX6 yX6_numberOf wsX6_numberOf) := goodIn_app (goodIn_of _ (by decide +kernel)) ggX6_strikeBy_X6_numberOf
set_option maxRecDepth 20000 in
theorem ggX6_strikeBy_X7_divides : GoodIn wsX6_strikeBy wsX7_divides := goodIn_r _ [16] (by decide +kernel) (by decide +kernel)
set_option maxRecDepth 20000 in
theorem gX6_strikeBy_X7_divides : GoodIn wsX6_strikeBy (va_wsS RX6 90 yX7_divides wsX7_divides) := goodIn_app (goodIn_of _ (by decide +kernel)) ggX6_strikeBy_X7_divides
set_option maxRecDepth 20000 in
theorem ggX6_strikeBy_X6_split : GoodIn wsX6_strikeBy wsX6_split := goodIn_r _ [26, 27, 28, 21, 17, 18, 19, 4, 20, 6, 29, 30, 9, 31, 32, 33, 34, 35, 36, 37, 38, 39, 40, 41, 42, 43, 44, 45, 46, 47, 48, 49, 50, 51, 52, 53, 54, 55, 56, 57, 12, 13, 14, 15, 16, 58, 59, 60, 61, 62, 63, 64, 65, 66, 67, 68, 69, 70, 71, 72, 73, 74, 75, 76, 77, 78, 79, 80, 81, 82, 83, 84, 85, 86, 87, 88] (by decide +kernel) (by decide +kernel)
set_option maxRecDepth 20000 in
theorem gX6_strikeBy_X6_split : GoodIn wsX6_strikeBy (wsV RX6 94 RX6 yX6_split wsX6_split) := goodIn_app (goodIn_of _ (by decide +kernel)) ggX6_strikeBy_X6_split
theorem dX6_strikeBy_0 : decode cX6_strikeBy 0 = .ok (.aload_n 0, 1) := by decide +kernel
theorem dX6_strikeBy_1 : decode cX6_strikeBy 1 = .ok (.iload_n 1, 1) := by decide +kernel
theorem dX6_strikeBy_2 : decode cX6_strikeBy 2 = .ok (.invokevirtual 63, 3) := by decide +kernel
theorem dX6_strikeBy_5 : decode cX6_strikeBy 5 = .ok (.ifCond .eq 10, 3) := by decide +kernel
theorem dX6_strikeBy_8 : decode cX6_strikeBy 8 = .ok (.iload_n 2, 1) := by decide +kernel
theorem dX6_strikeBy_9 : decode cX6_strikeBy 9 = .ok (.invokestatic 97, 3) := by decide +kernel
theorem dX6_strikeBy_12 : decode cX6_strikeBy 12 = .ok (.ifCond .ne 5, 3) := by decide +kernel
theorem dX6_strikeBy_15 : decode cX6_strikeBy 15 = .ok (.iconst (-1), 1) := by decide +kernel
theorem dX6_strikeBy_16 : decode cX6_strikeBy 16 = .ok (.ireturn, 1) := by decide +kernel
theorem dX6_strikeBy_17 : decode cX6_strikeBy 17 = .ok (.iload_n 2, 1) := by decide +kernel
theorem dX6_strikeBy_18 : decode cX6_strikeBy 18 = .ok (.aload_n 0, 1) := by decide +kernel
theorem dX6_strikeBy_19 : decode cX6_strikeBy 19 = .ok (.iload_n 1, 1) := by decide +kernel
theorem dX6_strikeBy_20 : decode cX6_strikeBy 20 = .ok (.invokevirtual 66, 3) := by decide +kernel
theorem dX6_strikeBy_23 : decode cX6_strikeBy 23 = .ok (.invokestatic 90, 3) := by decide +kernel
theorem dX6_strikeBy_26 : decode cX6_strikeBy 26 = .ok (.ifCond .ne 6, 3) := by decide +kernel
theorem dX6_strikeBy_29 : decode cX6_strikeBy 29 = .ok (.bipush (-2), 2) := by decide +kernel
theorem dX6_strikeBy_31 : decode cX6_strikeBy 31 = .ok (.ireturn, 1) := by decide +kernel
theorem dX6_strikeBy_32 : decode cX6_strikeBy 32 = .ok (.aload_n 0, 1) := by decide +kernel
theorem dX6_strikeBy_33 : decode cX6_strikeBy 33 = .ok (.iload_n 1, 1) := by decide +kernel
theorem dX6_strikeBy_34 : decode cX6_strikeBy 34 = .ok (.iload_n 2, 1) := by decide +kernel
theorem dX6_strikeBy_35 : decode cX6_strikeBy 35 = .ok (.invokevirtual 94, 3) := by decide +kernel
theorem dX6_strikeBy_38 : decode cX6_strikeBy 38 = .ok (.ireturn, 1) := by decide +kernel
set_option maxRecDepth 20000 in
theorem ggX6_shareInRounds_X6_isSettled : GoodIn wsX6_shareInRounds wsX6_isSettled := goodIn_r _ [6, 1, 7, 8, 9, 5, 10, 11, 12, 13, 14, 15, 38, 39, 40, 41, 42, 43] (by decide +kernel) (by decide +kernel)
set_option maxRecDepth 20000 in
theorem gX6_shareInRounds_X6_isSettled : GoodIn wsX6_shareInRounds (wsV RX6 100 RX6 yX6_isSettled wsX6_isSettled) := goodIn_app (goodIn_of _ (by decide +kernel)) ggX6_shareInRounds_X6_isSettled
set_option maxRecDepth 20000 in
theorem ggX6_shareInRounds_X6_shareAt : GoodIn wsX6_shareInRounds wsX6_shareAt := goodIn_r _ [19, 11, 20, 21, 22, 5, 23, 1, 7, 8, 9, 10, 24, 25, 14, 26, 27, 28, 29, 30, 31, 32, 33, 34, 35, 36, 37, 38, 39, 40, 41, 42, 43] (by decide +kernel) (by decide +kernel)
set_option maxRecDepth 20000 in
theorem gX6_shareInRounds_X6_shareAt : GoodIn wsX6_shareInRounds (wsV RX6 74 RX6 yX6_shareAt wsX6_shareAt) := goodIn_app (goodIn_of _ (by decide +kernel)) ggX6_shareInRounds_X6_shareAt
theorem dX6_shareInRounds_0 : decode cX6_shareInRounds 0 = .ok (.iconst 0, 1) := by decide +kernel
theorem dX6_shareInRounds_1 : decode cX6_shareInRounds 1 = .ok (.istore_n 1, 1) := by decide +kernel
theorem dX6_shareInRounds_2 : decode cX6_shareInRounds 2 = .ok (.iload_n 1, 1) := by decide +kernel
theorem dX6_shareInRounds_3 : decode cX6_shareInRounds 3 = .ok (.bipush 12, 2) := by decide +kernel
theorem dX6_shareInRounds_5 : decode cX6_shareInRounds 5 = .ok (.if_icmp .gt 47, 3) := by decide +kernel
theorem dX6_shareInRounds_8 : decode cX6_shareInRounds 8 = .ok (.aload_n 0, 1) := by decide +kernel
theorem dX6_shareInRounds_9 : decode cX6_shareInRounds 9 = .ok (.invokevirtual 100, 3) := by decide +kernel
theorem dX6_shareInRounds_12 : decode cX6_shareInRounds 12 = .ok (.ifCond .eq 5, 3) := by decide +kernel
theorem dX6_shareInRounds_15 : decode cX6_shareInRounds 15 = .ok (.iload_n 1, 1) := by decide +kernel
theorem dX6_shareInRounds_16 : decode cX6_shareInRounds 16 = .ok (.ireturn, 1) := by decide +kernel
theorem dX6_shareInRounds_17 : decode cX6_shareInRounds 17 = .ok (.iconst 0, 1) := by decide +kernel
theorem dX6_shareInRounds_18 : decode cX6_shareInRounds 18 = .ok (.istore_n 2, 1) := by decide +kernel
theorem dX6_shareInRounds_19 : decode cX6_shareInRounds 19 = .ok (.iload_n 2, 1) := by decide +kernel
theorem dX6_shareInRounds_20 : decode cX6_shareInRounds 20 = .ok (.aload_n 0, 1) := by decide +kernel
theorem dX6_shareInRounds_21 : decode cX6_shareInRounds 21 = .ok (.getfield 26, 3) := by decide +kernel
theorem dX6_shareInRounds_24 : decode cX6_shareInRounds 24 = .ok (.iconst 1, 1) := by decide +kernel
theorem dX6_shareInRounds_25 : decode cX6_shareInRounds 25 = .ok (.isub, 1) := by decide +kernel
theorem dX6_shareInRounds_26 : decode cX6_shareInRounds 26 = .ok (.if_icmp .ge 20, 3) := by decide +kernel
theorem dX6_shareInRounds_29 : decode cX6_shareInRounds 29 = .ok (.aload_n 0, 1) := by decide +kernel
theorem dX6_shareInRounds_30 : decode cX6_shareInRounds 30 = .ok (.iload_n 2, 1) := by decide +kernel
