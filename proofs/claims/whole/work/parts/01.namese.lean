set_option maxRecDepth 20000 in
theorem gX8_strike_X6_strikeBy : GoodIn wsX8_strike (wsV RX8 71 RX6 yX6_strikeBy wsX6_strikeBy) := goodIn_app (goodIn_of _ (by decide +kernel)) ggX8_strike_X6_strikeBy
set_option maxRecDepth 20000 in
theorem ggX8_strike_X3_keep : GoodIn wsX8_strike wsX3_keep := goodIn_r _ [116, 8, 13, 128, 129, 130] (by decide +kernel) (by decide +kernel)
set_option maxRecDepth 20000 in
theorem gX8_strike_X3_keep : GoodIn wsX8_strike (wsV RX8 58 RX3 yX3_keep wsX3_keep) := goodIn_app (goodIn_of _ (by decide +kernel)) ggX8_strike_X3_keep
theorem dX8_strike_0 : decode cX8_strike 0 = .ok (.aload_n 0, 1) := by decide +kernel
theorem dX8_strike_1 : decode cX8_strike 1 = .ok (.getfield 25, 3) := by decide +kernel
theorem dX8_strike_4 : decode cX8_strike 4 = .ok (.aload_n 0, 1) := by decide +kernel
theorem dX8_strike_5 : decode cX8_strike 5 = .ok (.getfield 10, 3) := by decide +kernel
theorem dX8_strike_8 : decode cX8_strike 8 = .ok (.invokevirtual 50, 3) := by decide +kernel
theorem dX8_strike_11 : decode cX8_strike 11 = .ok (.aload_n 0, 1) := by decide +kernel
theorem dX8_strike_12 : decode cX8_strike 12 = .ok (.getfield 25, 3) := by decide +kernel
theorem dX8_strike_15 : decode cX8_strike 15 = .ok (.aload_n 0, 1) := by decide +kernel
theorem dX8_strike_16 : decode cX8_strike 16 = .ok (.getfield 10, 3) := by decide +kernel
theorem dX8_strike_19 : decode cX8_strike 19 = .ok (.iload_n 1, 1) := by decide +kernel
theorem dX8_strike_20 : decode cX8_strike 20 = .ok (.iload_n 2, 1) := by decide +kernel
theorem dX8_strike_21 : decode cX8_strike 21 = .ok (.invokevirtual 71, 3) := by decide +kernel
theorem dX8_strike_24 : decode cX8_strike 24 = .ok (.invokevirtual 58, 3) := by decide +kernel
theorem dX8_strike_27 : decode cX8_strike 27 = .ok (.ireturn, 1) := by decide +kernel
set_option maxRecDepth 20000 in
theorem ggX8_settle_X6_copyFrom : GoodIn wsX8_settle wsX6_copyFrom := goodIn_r _ [8, 9, 10, 11, 12, 13, 14, 15, 16, 17, 18, 19, 20, 21, 22, 23, 24, 25, 26, 27, 28, 29, 30, 31, 32, 33, 34, 35, 36, 37, 38, 39, 40, 41, 42, 43, 44, 45, 46, 47, 48, 49, 113, 114, 115, 116, 117, 118, 119, 120, 121, 122] (by decide +kernel) (by decide +kernel)
set_option maxRecDepth 20000 in
theorem gX8_settle_X6_copyFrom : GoodIn wsX8_settle (wsV RX8 74 RX6 yX6_copyFrom wsX6_copyFrom) := goodIn_app (goodIn_of _ (by decide +kernel)) ggX8_settle_X6_copyFrom
set_option maxRecDepth 20000 in
theorem ggX8_settle_X6_shareInRounds : GoodIn wsX8_settle wsX6_shareInRounds := goodIn_r _ [53, 9, 54, 55, 56, 7, 57, 58, 59, 60, 61, 13, 62, 63, 64, 65, 66, 67, 68, 69, 70, 71, 72, 73, 74, 75, 76, 77, 78, 79, 80, 81, 82, 83, 84, 23, 17, 24, 113, 114, 115, 116, 117, 118] (by decide +kernel) (by decide +kernel)
set_option maxRecDepth 20000 in
theorem gX8_settle_X6_shareInRounds : GoodIn wsX8_settle (wsV RX8 77 RX6 yX6_shareInRounds wsX6_shareInRounds) := goodIn_app (goodIn_of _ (by decide +kernel)) ggX8_settle_X6_shareInRounds
set_option maxRecDepth 20000 in
theorem ggX8_settle_X3_prepare : GoodIn wsX8_settle wsX3_prepare := goodIn_r _ [89, 90, 91, 92, 93, 88, 94, 95, 96, 97, 5, 6, 7, 8, 9, 10, 11, 12, 13, 14, 15, 16, 17, 18, 19, 20, 21, 22, 23, 24, 25, 26, 27, 28, 29, 30, 31, 32, 33, 34, 35, 36, 37, 38, 39, 40, 41, 42, 43, 44, 45, 46, 47, 48, 49, 123, 124, 125, 113, 114, 115, 116, 117, 118, 119, 120, 121, 122] (by decide +kernel) (by decide +kernel)
set_option maxRecDepth 20000 in
theorem gX8_settle_X3_prepare : GoodIn wsX8_settle (wsV RX8 50 RX3 yX3_prepare wsX3_prepare) := goodIn_app (goodIn_of _ (by decide +kernel)) ggX8_settle_X3_prepare
set_option maxRecDepth 20000 in
theorem ggX8_settle_X3_keep : GoodIn wsX8_settle wsX3_keep := goodIn_r _ [101, 90, 95, 123, 124, 125] (by decide +kernel) (by decide +kernel)
set_option maxRecDepth 20000 in
theorem gX8_settle_X3_keep : GoodIn wsX8_settle (wsV RX8 58 RX3 yX3_keep wsX3_keep) := goodIn_app (goodIn_of _ (by decide +kernel)) ggX8_settle_X3_keep
theorem dX8_settle_0 : decode cX8_settle 0 = .ok (.aload_n 0, 1) := by decide +kernel
theorem dX8_settle_1 : decode cX8_settle 1 = .ok (.getfield 16, 3) := by decide +kernel
theorem dX8_settle_4 : decode cX8_settle 4 = .ok (.aload_n 0, 1) := by decide +kernel
theorem dX8_settle_5 : decode cX8_settle 5 = .ok (.getfield 10, 3) := by decide +kernel
theorem dX8_settle_8 : decode cX8_settle 8 = .ok (.invokevirtual 74, 3) := by decide +kernel
theorem dX8_settle_11 : decode cX8_settle 11 = .ok (.aload_n 0, 1) := by decide +kernel
theorem dX8_settle_12 : decode cX8_settle 12 = .ok (.getfield 16, 3) := by decide +kernel
theorem dX8_settle_15 : decode cX8_settle 15 = .ok (.invokevirtual 77, 3) := by decide +kernel
theorem dX8_settle_18 : decode cX8_settle 18 = .ok (.istore_n 1, 1) := by decide +kernel
theorem dX8_settle_19 : decode cX8_settle 19 = .ok (.iload_n 1, 1) := by decide +kernel
theorem dX8_settle_20 : decode cX8_settle 20 = .ok (.ifCond .ge 5, 3) := by decide +kernel
theorem dX8_settle_23 : decode cX8_settle 23 = .ok (.iload_n 1, 1) := by decide +kernel
theorem dX8_settle_24 : decode cX8_settle 24 = .ok (.ireturn, 1) := by decide +kernel
theorem dX8_settle_25 : decode cX8_settle 25 = .ok (.aload_n 0, 1) := by decide +kernel
theorem dX8_settle_26 : decode cX8_settle 26 = .ok (.getfield 25, 3) := by decide +kernel
theorem dX8_settle_29 : decode cX8_settle 29 = .ok (.aload_n 0, 1) := by decide +kernel
theorem dX8_settle_30 : decode cX8_settle 30 = .ok (.getfield 10, 3) := by decide +kernel
theorem dX8_settle_33 : decode cX8_settle 33 = .ok (.invokevirtual 50, 3) := by decide +kernel
theorem dX8_settle_36 : decode cX8_settle 36 = .ok (.aload_n 0, 1) := by decide +kernel
theorem dX8_settle_37 : decode cX8_settle 37 = .ok (.getfield 10, 3) := by decide +kernel
theorem dX8_settle_40 : decode cX8_settle 40 = .ok (.aload_n 0, 1) := by decide +kernel
theorem dX8_settle_41 : decode cX8_settle 41 = .ok (.getfield 16, 3) := by decide +kernel
theorem dX8_settle_44 : decode cX8_settle 44 = .ok (.invokevirtual 74, 3) := by decide +kernel
theorem dX8_settle_47 : decode cX8_settle 47 = .ok (.aload_n 0, 1) := by decide +kernel
theorem dX8_settle_48 : decode cX8_settle 48 = .ok (.getfield 25, 3) := by decide +kernel
theorem dX8_settle_51 : decode cX8_settle 51 = .ok (.iload_n 1, 1) := by decide +kernel
theorem dX8_settle_52 : decode cX8_settle 52 = .ok (.invokevirtual 58, 3) := by decide +kernel
theorem dX8_settle_55 : decode cX8_settle 55 = .ok (.ireturn, 1) := by decide +kernel
set_option maxRecDepth 20000 in
theorem ggX8_set_X3_prepare : GoodIn wsX8_set wsX3_prepare := goodIn_r _ [7, 8, 9, 10, 11, 6, 12, 13, 14, 15, 16, 17, 18, 19, 20, 21, 22, 23, 24, 25, 26, 27, 28, 29, 30, 31, 32, 33, 34, 35, 36, 37, 38, 39, 40, 41, 42, 43, 44, 45, 46, 47, 48, 49, 50, 51, 52, 53, 54, 55, 56, 57, 58, 59, 60, 80, 81, 82, 83, 84, 85, 86, 87, 88, 89, 90, 91, 92] (by decide +kernel) (by decide +kernel)
set_option maxRecDepth 20000 in
theorem gX8_set_X3_prepare : GoodIn wsX8_set (wsV RX8 50 RX3 yX3_prepare wsX3_prepare) := goodIn_app (goodIn_of _ (by decide +kernel)) ggX8_set_X3_prepare
set_option maxRecDepth 20000 in
theorem ggX8_set_X6_changeSetting : GoodIn wsX8_set wsX6_changeSetting := goodIn_r _ [64, 21, 22, 83, 84, 85, 86, 87, 88] (by decide +kernel) (by decide +kernel)
set_option maxRecDepth 20000 in
theorem gX8_set_X6_changeSetting : GoodIn wsX8_set (wsV RX8 81 RX6 yX6_changeSetting wsX6_changeSetting) := goodIn_app (goodIn_of _ (by decide +kernel)) ggX8_set_X6_changeSetting
set_option maxRecDepth 20000 in
theorem ggX8_set_X3_keep : GoodIn wsX8_set wsX3_keep := goodIn_r _ [68, 8, 13, 80, 81, 82] (by decide +kernel) (by decide +kernel)
set_option maxRecDepth 20000 in
theorem gX8_set_X3_keep : GoodIn wsX8_set (wsV RX8 58 RX3 yX3_keep wsX3_keep) := goodIn_app (goodIn_of _ (by decide +kernel)) ggX8_set_X3_keep
theorem dX8_set_0 : decode cX8_set 0 = .ok (.aload_n 0, 1) := by decide +kernel
theorem dX8_set_1 : decode cX8_set 1 = .ok (.getfield 25, 3) := by decide +kernel
theorem dX8_set_4 : decode cX8_set 4 = .ok (.aload_n 0, 1) := by decide +kernel
theorem dX8_set_5 : decode cX8_set 5 = .ok (.getfield 10, 3) := by decide +kernel
theorem dX8_set_8 : decode cX8_set 8 = .ok (.invokevirtual 50, 3) := by decide +kernel
theorem dX8_set_11 : decode cX8_set 11 = .ok (.aload_n 0, 1) := by decide +kernel
theorem dX8_set_12 : decode cX8_set 12 = .ok (.getfield 25, 3) := by decide +kernel
theorem dX8_set_15 : decode cX8_set 15 = .ok (.aload_n 0, 1) := by decide +kernel
theorem dX8_set_16 : decode cX8_set 16 = .ok (.getfield 10, 3) := by decide +kernel
theorem dX8_set_19 : decode cX8_set 19 = .ok (.iload_n 1, 1) := by decide +kernel
theorem dX8_set_20 : decode cX8_set 20 = .ok (.iload_n 2, 1) := by decide +kernel
theorem dX8_set_21 : decode cX8_set 21 = .ok (.invokevirtual 81, 3) := by decide +kernel
theorem dX8_set_24 : decode cX8_set 24 = .ok (.invokevirtual 58, 3) := by decide +kernel
theorem dX8_set_27 : decode cX8_set 27 = .ok (.ireturn, 1) := by decide +kernel
set_option maxRecDepth 20000 in
theorem ggX8_append_X4_putCode : GoodIn wsX8_append wsX4_putCode := goodIn_r _ [6, 7, 8, 9, 10, 11, 12, 24, 25, 26, 27, 28, 29, 30, 31, 32] (by decide +kernel) (by decide +kernel)
set_option maxRecDepth 20000 in
theorem gX8_append_X4_putCode : GoodIn wsX8_append (wsV RX8 84 RX4 yX4_putCode wsX4_putCode) := goodIn_app (goodIn_of _ (by decide +kernel)) ggX8_append_X4_putCode
theorem dX8_append_0 : decode cX8_append 0 = .ok (.aload_n 0, 1) := by decide +kernel
theorem dX8_append_1 : decode cX8_append 1 = .ok (.getfield 32, 3) := by decide +kernel
theorem dX8_append_4 : decode cX8_append 4 = .ok (.iload_n 1, 1) := by decide +kernel
theorem dX8_append_5 : decode cX8_append 5 = .ok (.invokevirtual 84, 3) := by decide +kernel
theorem dX8_append_8 : decode cX8_append 8 = .ok (.ireturn, 1) := by decide +kernel
set_option maxRecDepth 20000 in
theorem ggX8_clear_X4_empty : GoodIn wsX8_clear wsX4_empty := goodIn_r _ [6, 7, 19, 20, 21, 22, 23, 24, 25, 26, 27] (by decide +kernel) (by decide +kernel)
set_option maxRecDepth 20000 in
theorem gX8_clear_X4_empty : GoodIn wsX8_clear (wsV RX8 87 RX4 yX4_empty wsX4_empty) := goodIn_app (goodIn_of _ (by decide +kernel)) ggX8_clear_X4_empty
theorem dX8_clear_0 : decode cX8_clear 0 = .ok (.aload_n 0, 1) := by decide +kernel
theorem dX8_clear_1 : decode cX8_clear 1 = .ok (.getfield 32, 3) := by decide +kernel
theorem dX8_clear_4 : decode cX8_clear 4 = .ok (.invokevirtual 87, 3) := by decide +kernel
theorem dX8_clear_7 : decode cX8_clear 7 = .ok (.ireturn, 1) := by decide +kernel
set_option maxRecDepth 20000 in
theorem ggX8_fault_X4_faultOf : GoodIn wsX8_fault wsX4_faultOf := goodIn_r _ [6, 7, 8, 9, 10, 11, 12, 5, 13, 14, 15, 16, 17, 18, 19, 20, 21, 22, 23, 24, 25, 26, 27, 28, 29, 30, 31, 32, 33, 34, 35, 36, 37, 38, 39, 40, 41, 42, 43, 44, 45, 46, 58, 59, 60, 61, 62, 63, 64, 65, 66] (by decide +kernel) (by decide +kernel)
set_option maxRecDepth 20000 in
theorem gX8_fault_X4_faultOf : GoodIn wsX8_fault (wsV RX8 90 RX4 yX4_faultOf wsX4_faultOf) := goodIn_app (goodIn_of _ (by decide +kernel)) ggX8_fault_X4_faultOf
theorem dX8_fault_0 : decode cX8_fault 0 = .ok (.iload_n 1, 1) := by decide +kernel
theorem dX8_fault_1 : decode cX8_fault 1 = .ok (.ifCond .eq 10, 3) := by decide +kernel
theorem dX8_fault_4 : decode cX8_fault 4 = .ok (.iload_n 1, 1) := by decide +kernel
theorem dX8_fault_5 : decode cX8_fault 5 = .ok (.iconst 1, 1) := by decide +kernel
theorem dX8_fault_6 : decode cX8_fault 6 = .ok (.if_icmp .eq 5, 3) := by decide +kernel
theorem dX8_fault_9 : decode cX8_fault 9 = .ok (.iconst (-1), 1) := by decide +kernel
theorem dX8_fault_10 : decode cX8_fault 10 = .ok (.ireturn, 1) := by decide +kernel
theorem dX8_fault_11 : decode cX8_fault 11 = .ok (.aload_n 0, 1) := by decide +kernel
theorem dX8_fault_12 : decode cX8_fault 12 = .ok (.getfield 32, 3) := by decide +kernel
theorem dX8_fault_15 : decode cX8_fault 15 = .ok (.iload_n 1, 1) := by decide +kernel
theorem dX8_fault_16 : decode cX8_fault 16 = .ok (.invokevirtual 90, 3) := by decide +kernel
theorem dX8_fault_19 : decode cX8_fault 19 = .ok (.istore_n 2, 1) := by decide +kernel
theorem dX8_fault_20 : decode cX8_fault 20 = .ok (.iload_n 2, 1) := by decide +kernel
theorem dX8_fault_21 : decode cX8_fault 21 = .ok (.iconst (-1), 1) := by decide +kernel
theorem dX8_fault_22 : decode cX8_fault 22 = .ok (.if_icmp .ne 8, 3) := by decide +kernel
theorem dX8_fault_25 : decode cX8_fault 25 = .ok (.bipush (-4), 2) := by decide +kernel
theorem dX8_fault_27 : decode cX8_fault 27 = .ok (.goto 4, 3) := by decide +kernel
theorem dX8_fault_30 : decode cX8_fault 30 = .ok (.iload_n 2, 1) := by decide +kernel
theorem dX8_fault_31 : decode cX8_fault 31 = .ok (.ireturn, 1) := by decide +kernel
set_option maxRecDepth 20000 in
theorem ggX8_read_X4_faultOf : GoodIn wsX8_read wsX4_faultOf := goodIn_r _ [8, 9, 10, 11, 12, 13, 14, 7, 15, 16, 17, 18, 19, 20, 21, 22, 23, 24, 25, 26, 27, 28, 29, 30, 31, 32, 33, 34, 35, 36, 37, 38, 39, 40, 41, 42, 43, 44, 45, 46, 47, 48, 162, 163, 164, 165, 166, 167, 168, 169, 170] (by decide +kernel) (by decide +kernel)
set_option maxRecDepth 20000 in
theorem gX8_read_X4_faultOf : GoodIn wsX8_read (wsV RX8 90 RX4 yX4_faultOf wsX4_faultOf) := goodIn_app (goodIn_of _ (by decide +kernel)) ggX8_read_X4_faultOf
set_option maxRecDepth 20000 in
theorem ggX8_read_X3_prepare : GoodIn wsX8_read wsX3_prepare := goodIn_r _ [53, 54, 55, 56, 57, 52, 58, 59, 60, 61, 62, 63, 64, 65, 66, 67, 68, 69, 70, 71, 72, 73, 74, 75, 76, 77, 78, 79, 80, 81, 82, 83, 84, 85, 86, 87, 88, 89, 90, 91, 92, 93, 94, 95, 96, 97, 98, 99, 100, 101, 102, 103, 104, 105, 106, 177, 178, 179, 171, 172, 173, 174, 175, 176, 180, 181, 182, 183] (by decide +kernel) (by decide +kernel)
set_option maxRecDepth 20000 in
theorem gX8_read_X3_prepare : GoodIn wsX8_read (wsV RX8 50 RX3 yX3_prepare wsX3_prepare) := goodIn_app (goodIn_of _ (by decide +kernel)) ggX8_read_X3_prepare
set_option maxRecDepth 20000 in
theorem ggX8_read_X4_begin : GoodIn wsX8_read wsX4_begin := goodIn_r _ [15, 10, 162, 163, 164, 165, 166, 167, 168, 169, 170] (by decide +kernel) (by decide +kernel)
set_option maxRecDepth 20000 in
theorem gX8_read_X4_begin : GoodIn wsX8_read (wsV RX8 100 RX4 yX4_begin wsX4_begin) := goodIn_app (goodIn_of _ (by decide +kernel)) ggX8_read_X4_begin
set_option maxRecDepth 20000 in
theorem ggX8_read_X4_nextPart : GoodIn wsX8_read wsX4_nextPart := goodIn_r _ [19, 20, 21, 22, 7, 23, 24, 10, 11, 25, 26, 27, 28, 29, 30, 31, 32, 33, 34, 35, 36, 37, 38, 39, 40, 41, 42, 43, 44, 45, 46, 47, 48, 162, 163, 164, 165, 166, 167, 168, 169, 170] (by decide +kernel) (by decide +kernel)
set_option maxRecDepth 20000 in
theorem gX8_read_X4_nextPart : GoodIn wsX8_read (wsV RX8 103 RX4 yX4_nextPart wsX4_nextPart) := goodIn_app (goodIn_of _ (by decide +kernel)) ggX8_read_X4_nextPart
set_option maxRecDepth 20000 in
theorem ggX8_read_X6_putIn : GoodIn wsX8_read wsX6_putIn := goodIn_r _ [112, 66, 70, 71, 113, 114, 115, 116, 117, 77, 74, 78, 118, 80, 81, 119, 120, 121, 85, 122, 87, 89, 90, 91, 92, 93, 94, 88, 95, 96, 97, 98, 99, 100, 101, 102, 103, 104, 105, 123, 124, 125, 126, 127, 128, 129, 130, 131, 132, 133, 134, 135, 136, 137, 138, 139, 140, 141, 171, 172, 173, 174, 175, 176, 180, 181, 182, 183] (by decide +kernel) (by decide +kernel)
set_option maxRecDepth 20000 in
theorem gX8_read_X6_putIn : GoodIn wsX8_read (wsV RX8 54 RX6 yX6_putIn wsX6_putIn) := goodIn_app (goodIn_of _ (by decide +kernel)) ggX8_read_X6_putIn
set_option maxRecDepth 20000 in
theorem ggX8_read_X4_skip : GoodIn wsX8_read wsX4_skip := goodIn_r _ [48, 10, 29, 30, 31, 7, 32, 11, 33, 162, 163, 164, 165, 166, 167, 168, 169, 170] (by decide +kernel) (by decide +kernel)
set_option maxRecDepth 20000 in
theorem gX8_read_X4_skip : GoodIn wsX8_read (wsV RX8 110 RX4 yX4_skip wsX4_skip) := goodIn_app (goodIn_of _ (by decide +kernel)) ggX8_read_X4_skip
set_option maxRecDepth 20000 in
theorem ggX8_read_X4_empty : GoodIn wsX8_read wsX4_empty := goodIn_r _ [146, 11, 162, 163, 164, 165, 166, 167, 168, 169, 170] (by decide +kernel) (by decide +kernel)
set_option maxRecDepth 20000 in
theorem gX8_read_X4_empty : GoodIn wsX8_read (wsV RX8 87 RX4 yX4_empty wsX4_empty) := goodIn_app (goodIn_of _ (by decide +kernel)) ggX8_read_X4_empty
set_option maxRecDepth 20000 in
theorem ggX8_read_X3_keep : GoodIn wsX8_read wsX3_keep := goodIn_r _ [150, 54, 59, 177, 178, 179] (by decide +kernel) (by decide +kernel)
set_option maxRecDepth 20000 in
theorem gX8_read_X3_keep : GoodIn wsX8_read (wsV RX8 58 RX3 yX3_keep wsX3_keep) := goodIn_app (goodIn_of _ (by decide +kernel)) ggX8_read_X3_keep
theorem dX8_read_0 : decode cX8_read 0 = .ok (.aload_n 0, 1) := by decide +kernel
theorem dX8_read_1 : decode cX8_read 1 = .ok (.getfield 32, 3) := by decide +kernel
theorem dX8_read_4 : decode cX8_read 4 = .ok (.iconst 0, 1) := by decide +kernel
theorem dX8_read_5 : decode cX8_read 5 = .ok (.invokevirtual 90, 3) := by decide +kernel
theorem dX8_read_8 : decode cX8_read 8 = .ok (.iconst (-1), 1) := by decide +kernel
theorem dX8_read_9 : decode cX8_read 9 = .ok (.if_icmp .eq 6, 3) := by decide +kernel
theorem dX8_read_12 : decode cX8_read 12 = .ok (.bipush (-2), 2) := by decide +kernel
theorem dX8_read_14 : decode cX8_read 14 = .ok (.ireturn, 1) := by decide +kernel
theorem dX8_read_15 : decode cX8_read 15 = .ok (.aload_n 0, 1) := by decide +kernel
theorem dX8_read_16 : decode cX8_read 16 = .ok (.getfield 32, 3) := by decide +kernel
theorem dX8_read_19 : decode cX8_read 19 = .ok (.getfield 93, 3) := by decide +kernel
theorem dX8_read_22 : decode cX8_read 22 = .ok (.bipush 12, 2) := by decide +kernel
theorem dX8_read_24 : decode cX8_read 24 = .ok (.aload_n 0, 1) := by decide +kernel
theorem dX8_read_25 : decode cX8_read 25 = .ok (.getfield 10, 3) := by decide +kernel
theorem dX8_read_28 : decode cX8_read 28 = .ok (.getfield 97, 3) := by decide +kernel
theorem dX8_read_31 : decode cX8_read 31 = .ok (.isub, 1) := by decide +kernel
theorem dX8_read_32 : decode cX8_read 32 = .ok (.if_icmp .le 6, 3) := by decide +kernel
theorem dX8_read_35 : decode cX8_read 35 = .ok (.bipush (-3), 2) := by decide +kernel
theorem dX8_read_37 : decode cX8_read 37 = .ok (.ireturn, 1) := by decide +kernel
theorem dX8_read_38 : decode cX8_read 38 = .ok (.aload_n 0, 1) := by decide +kernel
theorem dX8_read_39 : decode cX8_read 39 = .ok (.getfield 25, 3) := by decide +kernel
theorem dX8_read_42 : decode cX8_read 42 = .ok (.aload_n 0, 1) := by decide +kernel
theorem dX8_read_43 : decode cX8_read 43 = .ok (.getfield 10, 3) := by decide +kernel
theorem dX8_read_46 : decode cX8_read 46 = .ok (.invokevirtual 50, 3) := by decide +kernel
theorem dX8_read_49 : decode cX8_read 49 = .ok (.aload_n 0, 1) := by decide +kernel
theorem dX8_read_50 : decode cX8_read 50 = .ok (.getfield 32, 3) := by decide +kernel
theorem dX8_read_53 : decode cX8_read 53 = .ok (.invokevirtual 100, 3) := by decide +kernel
theorem dX8_read_56 : decode cX8_read 56 = .ok (.iconst 0, 1) := by decide +kernel
theorem dX8_read_57 : decode cX8_read 57 = .ok (.istore_n 1, 1) := by decide +kernel
theorem dX8_read_58 : decode cX8_read 58 = .ok (.iload_n 1, 1) := by decide +kernel
theorem dX8_read_59 : decode cX8_read 59 = .ok (.bipush 60, 2) := by decide +kernel
theorem dX8_read_61 : decode cX8_read 61 = .ok (.if_icmp .ge 52, 3) := by decide +kernel
theorem dX8_read_64 : decode cX8_read 64 = .ok (.aload_n 0, 1) := by decide +kernel
theorem dX8_read_65 : decode cX8_read 65 = .ok (.getfield 32, 3) := by decide +kernel
theorem dX8_read_68 : decode cX8_read 68 = .ok (.iconst 0, 1) := by decide +kernel
theorem dX8_read_69 : decode cX8_read 69 = .ok (.invokevirtual 103, 3) := by decide +kernel
theorem dX8_read_72 : decode cX8_read 72 = .ok (.ifCond .eq 41, 3) := by decide +kernel
theorem dX8_read_75 : decode cX8_read 75 = .ok (.aload_n 0, 1) := by decide +kernel
theorem dX8_read_76 : decode cX8_read 76 = .ok (.getfield 10, 3) := by decide +kernel
theorem dX8_read_79 : decode cX8_read 79 = .ok (.aload_n 0, 1) := by decide +kernel
theorem dX8_read_80 : decode cX8_read 80 = .ok (.getfield 10, 3) := by decide +kernel
theorem dX8_read_83 : decode cX8_read 83 = .ok (.getfield 97, 3) := by decide +kernel
theorem dX8_read_86 : decode cX8_read 86 = .ok (.aload_n 0, 1) := by decide +kernel
theorem dX8_read_87 : decode cX8_read 87 = .ok (.getfield 32, 3) := by decide +kernel
theorem dX8_read_90 : decode cX8_read 90 = .ok (.getfield 107, 3) := by decide +kernel
theorem dX8_read_93 : decode cX8_read 93 = .ok (.invokevirtual 54, 3) := by decide +kernel
theorem dX8_read_96 : decode cX8_read 96 = .ok (.pop, 1) := by decide +kernel
theorem dX8_read_97 : decode cX8_read 97 = .ok (.aload_n 0, 1) := by decide +kernel
theorem dX8_read_98 : decode cX8_read 98 = .ok (.getfield 32, 3) := by decide +kernel
theorem dX8_read_101 : decode cX8_read 101 = .ok (.bipush 44, 2) := by decide +kernel
theorem dX8_read_103 : decode cX8_read 103 = .ok (.invokevirtual 110, 3) := by decide +kernel
theorem dX8_read_106 : decode cX8_read 106 = .ok (.pop, 1) := by decide +kernel
theorem dX8_read_107 : decode cX8_read 107 = .ok (.iinc 1 1, 3) := by decide +kernel
theorem dX8_read_110 : decode cX8_read 110 = .ok (.goto (-52), 3) := by decide +kernel
theorem dX8_read_113 : decode cX8_read 113 = .ok (.aload_n 0, 1) := by decide +kernel
theorem dX8_read_114 : decode cX8_read 114 = .ok (.getfield 32, 3) := by decide +kernel
theorem dX8_read_117 : decode cX8_read 117 = .ok (.invokevirtual 87, 3) := by decide +kernel
theorem dX8_read_120 : decode cX8_read 120 = .ok (.pop, 1) := by decide +kernel
theorem dX8_read_121 : decode cX8_read 121 = .ok (.aload_n 0, 1) := by decide +kernel
theorem dX8_read_122 : decode cX8_read 122 = .ok (.getfield 25, 3) := by decide +kernel
theorem dX8_read_125 : decode cX8_read 125 = .ok (.aload_n 0, 1) := by decide +kernel
theorem dX8_read_126 : decode cX8_read 126 = .ok (.getfield 10, 3) := by decide +kernel
theorem dX8_read_129 : decode cX8_read 129 = .ok (.getfield 97, 3) := by decide +kernel
theorem dX8_read_132 : decode cX8_read 132 = .ok (.invokevirtual 58, 3) := by decide +kernel
theorem dX8_read_135 : decode cX8_read 135 = .ok (.ireturn, 1) := by decide +kernel
set_option maxRecDepth 20000 in
theorem ggX8_carryOut_X4_faultOf : GoodIn wsX8_carryOut wsX4_faultOf := goodIn_r _ [11, 12, 13, 14, 15, 16, 17, 10, 18, 19, 20, 21, 22, 23, 24, 25, 26, 27, 28, 29, 30, 31, 32, 33, 34, 35, 36, 37, 38, 39, 40, 41, 42, 43, 44, 45, 46, 47, 48, 49, 50, 51, 204, 205, 206, 207, 208, 209, 210, 211, 212] (by decide +kernel) (by decide +kernel)
set_option maxRecDepth 20000 in
theorem gX8_carryOut_X4_faultOf : GoodIn wsX8_carryOut (wsV RX8 90 RX4 yX4_faultOf wsX4_faultOf) := goodIn_app (goodIn_of _ (by decide +kernel)) ggX8_carryOut_X4_faultOf
set_option maxRecDepth 20000 in
theorem ggX8_carryOut_X3_prepare : GoodIn wsX8_carryOut wsX3_prepare := goodIn_r _ [56, 57, 58, 59, 60, 55, 61, 62, 63, 64, 65, 66, 67, 68, 69, 70, 71, 72, 73, 74, 75, 76, 77, 78, 79, 80, 81, 82, 83, 84, 85, 86, 87, 88, 89, 90, 91, 92, 93, 94, 95, 96, 97, 98, 99, 100, 101, 102, 103, 104, 105, 106, 107, 108, 109, 213, 214, 215, 216, 217, 218, 219, 220, 221, 222, 223, 224, 225] (by decide +kernel) (by decide +kernel)
set_option maxRecDepth 20000 in
theorem gX8_carryOut_X3_prepare : GoodIn wsX8_carryOut (wsV RX8 50 RX3 yX3_prepare wsX3_prepare) := goodIn_app (goodIn_of _ (by decide +kernel)) ggX8_carryOut_X3_prepare
set_option maxRecDepth 20000 in
theorem ggX8_carryOut_X4_begin : GoodIn wsX8_carryOut wsX4_begin := goodIn_r _ [18, 13, 204, 205, 206, 207, 208, 209, 210, 211, 212] (by decide +kernel) (by decide +kernel)
set_option maxRecDepth 20000 in
theorem gX8_carryOut_X4_begin : GoodIn wsX8_carryOut (wsV RX8 100 RX4 yX4_begin wsX4_begin) := goodIn_app (goodIn_of _ (by decide +kernel)) ggX8_carryOut_X4_begin
set_option maxRecDepth 20000 in
theorem ggX8_carryOut_X4_nextPart : GoodIn wsX8_carryOut wsX4_nextPart := goodIn_r _ [22, 23, 24, 25, 10, 26, 27, 13, 14, 28, 29, 30, 31, 32, 33, 34, 35, 36, 37, 38, 39, 40, 41, 42, 43, 44, 45, 46, 47, 48, 49, 50, 51, 204, 205, 206, 207, 208, 209, 210, 211, 212] (by decide +kernel) (by decide +kernel)
set_option maxRecDepth 20000 in
theorem gX8_carryOut_X4_nextPart : GoodIn wsX8_carryOut (wsV RX8 103 RX4 yX4_nextPart wsX4_nextPart) := goodIn_app (goodIn_of _ (by decide +kernel)) ggX8_carryOut_X4_nextPart
set_option maxRecDepth 20000 in
theorem ggX8_carryOut_X6_deed : GoodIn wsX8_carryOut wsX6_deed := goodIn_r _ [115, 116, 117, 118, 67, 119, 73, 120, 121, 122, 123, 69, 124, 125, 126, 127, 128, 129, 130, 131, 132, 133, 134, 135, 136, 137, 138, 139, 83, 77, 84, 140, 141, 142, 143, 144, 145, 146, 147, 148, 149, 150, 74, 72, 151, 152, 153, 154, 88, 155, 90, 92, 93, 94, 95, 96, 97, 91, 98, 99, 100, 101, 102, 103, 104, 105, 106, 107, 108, 156, 157, 158, 159, 160, 161, 162, 163, 164, 80, 81, 165, 166, 167, 168, 169, 170, 171, 172, 173, 174, 175, 176, 177, 178, 179, 180, 181, 182, 183, 216, 217, 218, 219, 220, 221, 222, 223, 224, 225] (by decide +kernel) (by decide +kernel)
set_option maxRecDepth 20000 in
theorem gX8_carryOut_X6_deed : GoodIn wsX8_carryOut (wsV RX8 125 RX6 yX6_deed wsX6_deed) := goodIn_app (goodIn_of _ (by decide +kernel)) ggX8_carryOut_X6_deed
set_option maxRecDepth 20000 in
theorem ggX8_carryOut_X4_skip : GoodIn wsX8_carryOut wsX4_skip := goodIn_r _ [51, 13, 32, 33, 34, 10, 35, 14, 36, 204, 205, 206, 207, 208, 209, 210, 211, 212] (by decide +kernel) (by decide +kernel)
set_option maxRecDepth 20000 in
theorem gX8_carryOut_X4_skip : GoodIn wsX8_carryOut (wsV RX8 110 RX4 yX4_skip wsX4_skip) := goodIn_app (goodIn_of _ (by decide +kernel)) ggX8_carryOut_X4_skip
set_option maxRecDepth 20000 in
theorem ggX8_carryOut_X4_empty : GoodIn wsX8_carryOut wsX4_empty := goodIn_r _ [188, 14, 204, 205, 206, 207, 208, 209, 210, 211, 212] (by decide +kernel) (by decide +kernel)
set_option maxRecDepth 20000 in
theorem gX8_carryOut_X4_empty : GoodIn wsX8_carryOut (wsV RX8 87 RX4 yX4_empty wsX4_empty) := goodIn_app (goodIn_of _ (by decide +kernel)) ggX8_carryOut_X4_empty
set_option maxRecDepth 20000 in
theorem ggX8_carryOut_X3_keep : GoodIn wsX8_carryOut wsX3_keep := goodIn_r _ [192, 57, 62, 213, 214, 215] (by decide +kernel) (by decide +kernel)
set_option maxRecDepth 20000 in
theorem gX8_carryOut_X3_keep : GoodIn wsX8_carryOut (wsV RX8 58 RX3 yX3_keep wsX3_keep) := goodIn_app (goodIn_of _ (by decide +kernel)) ggX8_carryOut_X3_keep
theorem dX8_carryOut_0 : decode cX8_carryOut 0 = .ok (.aload_n 0, 1) := by decide +kernel
theorem dX8_carryOut_1 : decode cX8_carryOut 1 = .ok (.getfield 32, 3) := by decide +kernel
theorem dX8_carryOut_4 : decode cX8_carryOut 4 = .ok (.iconst 1, 1) := by decide +kernel
theorem dX8_carryOut_5 : decode cX8_carryOut 5 = .ok (.invokevirtual 90, 3) := by decide +kernel
theorem dX8_carryOut_8 : decode cX8_carryOut 8 = .ok (.iconst (-1), 1) := by decide +kernel
theorem dX8_carryOut_9 : decode cX8_carryOut 9 = .ok (.if_icmp .eq 6, 3) := by decide +kernel
theorem dX8_carryOut_12 : decode cX8_carryOut 12 = .ok (.bipush (-2), 2) := by decide +kernel
theorem dX8_carryOut_14 : decode cX8_carryOut 14 = .ok (.ireturn, 1) := by decide +kernel
theorem dX8_carryOut_15 : decode cX8_carryOut 15 = .ok (.aload_n 0, 1) := by decide +kernel
theorem dX8_carryOut_16 : decode cX8_carryOut 16 = .ok (.getfield 25, 3) := by decide +kernel
theorem dX8_carryOut_19 : decode cX8_carryOut 19 = .ok (.aload_n 0, 1) := by decide +kernel
theorem dX8_carryOut_20 : decode cX8_carryOut 20 = .ok (.getfield 10, 3) := by decide +kernel
theorem dX8_carryOut_23 : decode cX8_carryOut 23 = .ok (.invokevirtual 50, 3) := by decide +kernel
theorem dX8_carryOut_26 : decode cX8_carryOut 26 = .ok (.aload_n 0, 1) := by decide +kernel
theorem dX8_carryOut_27 : decode cX8_carryOut 27 = .ok (.iconst 0, 1) := by decide +kernel
theorem dX8_carryOut_28 : decode cX8_carryOut 28 = .ok (.putfield 113, 3) := by decide +kernel
theorem dX8_carryOut_31 : decode cX8_carryOut 31 = .ok (.iconst 0, 1) := by decide +kernel
theorem dX8_carryOut_32 : decode cX8_carryOut 32 = .ok (.istore_n 1, 1) := by decide +kernel
theorem dX8_carryOut_33 : decode cX8_carryOut 33 = .ok (.aload_n 0, 1) := by decide +kernel
theorem dX8_carryOut_34 : decode cX8_carryOut 34 = .ok (.getfield 32, 3) := by decide +kernel
theorem dX8_carryOut_37 : decode cX8_carryOut 37 = .ok (.invokevirtual 100, 3) := by decide +kernel
theorem dX8_carryOut_40 : decode cX8_carryOut 40 = .ok (.iconst 0, 1) := by decide +kernel
theorem dX8_carryOut_41 : decode cX8_carryOut 41 = .ok (.istore_n 2, 1) := by decide +kernel
theorem dX8_carryOut_42 : decode cX8_carryOut 42 = .ok (.iload_n 2, 1) := by decide +kernel
theorem dX8_carryOut_43 : decode cX8_carryOut 43 = .ok (.bipush 60, 2) := by decide +kernel
theorem dX8_carryOut_45 : decode cX8_carryOut 45 = .ok (.if_icmp .ge 97, 3) := by decide +kernel
theorem dX8_carryOut_48 : decode cX8_carryOut 48 = .ok (.aload_n 0, 1) := by decide +kernel
theorem dX8_carryOut_49 : decode cX8_carryOut 49 = .ok (.getfield 113, 3) := by decide +kernel
theorem dX8_carryOut_52 : decode cX8_carryOut 52 = .ok (.ifCond .ne 90, 3) := by decide +kernel
theorem dX8_carryOut_55 : decode cX8_carryOut 55 = .ok (.aload_n 0, 1) := by decide +kernel
theorem dX8_carryOut_56 : decode cX8_carryOut 56 = .ok (.getfield 32, 3) := by decide +kernel
theorem dX8_carryOut_59 : decode cX8_carryOut 59 = .ok (.iconst 1, 1) := by decide +kernel
theorem dX8_carryOut_60 : decode cX8_carryOut 60 = .ok (.invokevirtual 103, 3) := by decide +kernel
theorem dX8_carryOut_63 : decode cX8_carryOut 63 = .ok (.ifCond .eq 79, 3) := by decide +kernel
theorem dX8_carryOut_66 : decode cX8_carryOut 66 = .ok (.aload_n 0, 1) := by decide +kernel
theorem dX8_carryOut_67 : decode cX8_carryOut 67 = .ok (.getfield 10, 3) := by decide +kernel
theorem dX8_carryOut_70 : decode cX8_carryOut 70 = .ok (.aload_n 0, 1) := by decide +kernel
theorem dX8_carryOut_71 : decode cX8_carryOut 71 = .ok (.getfield 32, 3) := by decide +kernel
theorem dX8_carryOut_74 : decode cX8_carryOut 74 = .ok (.getfield 116, 3) := by decide +kernel
theorem dX8_carryOut_77 : decode cX8_carryOut 77 = .ok (.aload_n 0, 1) := by decide +kernel
theorem dX8_carryOut_78 : decode cX8_carryOut 78 = .ok (.getfield 32, 3) := by decide +kernel
theorem dX8_carryOut_81 : decode cX8_carryOut 81 = .ok (.getfield 119, 3) := by decide +kernel
theorem dX8_carryOut_84 : decode cX8_carryOut 84 = .ok (.aload_n 0, 1) := by decide +kernel
theorem dX8_carryOut_85 : decode cX8_carryOut 85 = .ok (.getfield 32, 3) := by decide +kernel
theorem dX8_carryOut_88 : decode cX8_carryOut 88 = .ok (.getfield 122, 3) := by decide +kernel
theorem dX8_carryOut_91 : decode cX8_carryOut 91 = .ok (.invokevirtual 125, 3) := by decide +kernel
theorem dX8_carryOut_94 : decode cX8_carryOut 94 = .ok (.istore_n 3, 1) := by decide +kernel
theorem dX8_carryOut_95 : decode cX8_carryOut 95 = .ok (.iload_n 3, 1) := by decide +kernel
theorem dX8_carryOut_96 : decode cX8_carryOut 96 = .ok (.ifCond .ge 27, 3) := by decide +kernel
theorem dX8_carryOut_99 : decode cX8_carryOut 99 = .ok (.aload_n 0, 1) := by decide +kernel
theorem dX8_carryOut_100 : decode cX8_carryOut 100 = .ok (.iload_n 3, 1) := by decide +kernel
theorem dX8_carryOut_101 : decode cX8_carryOut 101 = .ok (.putfield 113, 3) := by decide +kernel
theorem dX8_carryOut_104 : decode cX8_carryOut 104 = .ok (.aload_n 0, 1) := by decide +kernel
theorem dX8_carryOut_105 : decode cX8_carryOut 105 = .ok (.iload_n 2, 1) := by decide +kernel
theorem dX8_carryOut_106 : decode cX8_carryOut 106 = .ok (.putfield 129, 3) := by decide +kernel
theorem dX8_carryOut_109 : decode cX8_carryOut 109 = .ok (.aload_n 0, 1) := by decide +kernel
theorem dX8_carryOut_110 : decode cX8_carryOut 110 = .ok (.aload_n 0, 1) := by decide +kernel
theorem dX8_carryOut_111 : decode cX8_carryOut 111 = .ok (.getfield 32, 3) := by decide +kernel
theorem dX8_carryOut_114 : decode cX8_carryOut 114 = .ok (.getfield 132, 3) := by decide +kernel
theorem dX8_carryOut_117 : decode cX8_carryOut 117 = .ok (.putfield 135, 3) := by decide +kernel
theorem dX8_carryOut_120 : decode cX8_carryOut 120 = .ok (.goto 16, 3) := by decide +kernel
theorem dX8_carryOut_123 : decode cX8_carryOut 123 = .ok (.iinc 1 1, 3) := by decide +kernel
theorem dX8_carryOut_126 : decode cX8_carryOut 126 = .ok (.aload_n 0, 1) := by decide +kernel
theorem dX8_carryOut_127 : decode cX8_carryOut 127 = .ok (.getfield 32, 3) := by decide +kernel
theorem dX8_carryOut_130 : decode cX8_carryOut 130 = .ok (.bipush 59, 2) := by decide +kernel
theorem dX8_carryOut_132 : decode cX8_carryOut 132 = .ok (.invokevirtual 110, 3) := by decide +kernel
theorem dX8_carryOut_135 : decode cX8_carryOut 135 = .ok (.pop, 1) := by decide +kernel
theorem dX8_carryOut_136 : decode cX8_carryOut 136 = .ok (.iinc 2 1, 3) := by decide +kernel
theorem dX8_carryOut_139 : decode cX8_carryOut 139 = .ok (.goto (-97), 3) := by decide +kernel
theorem dX8_carryOut_142 : decode cX8_carryOut 142 = .ok (.aload_n 0, 1) := by decide +kernel
theorem dX8_carryOut_143 : decode cX8_carryOut 143 = .ok (.getfield 32, 3) := by decide +kernel
theorem dX8_carryOut_146 : decode cX8_carryOut 146 = .ok (.invokevirtual 87, 3) := by decide +kernel
theorem dX8_carryOut_149 : decode cX8_carryOut 149 = .ok (.pop, 1) := by decide +kernel
theorem dX8_carryOut_150 : decode cX8_carryOut 150 = .ok (.aload_n 0, 1) := by decide +kernel
theorem dX8_carryOut_151 : decode cX8_carryOut 151 = .ok (.getfield 25, 3) := by decide +kernel
theorem dX8_carryOut_154 : decode cX8_carryOut 154 = .ok (.iload_n 1, 1) := by decide +kernel
theorem dX8_carryOut_155 : decode cX8_carryOut 155 = .ok (.invokevirtual 58, 3) := by decide +kernel
theorem dX8_carryOut_158 : decode cX8_carryOut 158 = .ok (.ireturn, 1) := by decide +kernel
theorem dX8_why_0 : decode cX8_why 0 = .ok (.iload_n 1, 1) := by decide +kernel
theorem dX8_why_1 : decode cX8_why 1 = .ok (.ifCond .lt 8, 3) := by decide +kernel
theorem dX8_why_4 : decode cX8_why 4 = .ok (.iload_n 1, 1) := by decide +kernel
theorem dX8_why_5 : decode cX8_why 5 = .ok (.iconst 2, 1) := by decide +kernel
theorem dX8_why_6 : decode cX8_why 6 = .ok (.if_icmp .le 5, 3) := by decide +kernel
theorem dX8_why_9 : decode cX8_why 9 = .ok (.iconst (-1), 1) := by decide +kernel
theorem dX8_why_10 : decode cX8_why 10 = .ok (.ireturn, 1) := by decide +kernel
theorem dX8_why_11 : decode cX8_why 11 = .ok (.aload_n 0, 1) := by decide +kernel
theorem dX8_why_12 : decode cX8_why 12 = .ok (.getfield 113, 3) := by decide +kernel
theorem dX8_why_15 : decode cX8_why 15 = .ok (.ifCond .ne 6, 3) := by decide +kernel
theorem dX8_why_18 : decode cX8_why 18 = .ok (.bipush (-4), 2) := by decide +kernel
theorem dX8_why_20 : decode cX8_why 20 = .ok (.ireturn, 1) := by decide +kernel
theorem dX8_why_21 : decode cX8_why 21 = .ok (.iload_n 1, 1) := by decide +kernel
theorem dX8_why_22 : decode cX8_why 22 = .ok (.lookupswitch 36 #[(0, 26), (1, 31)], 26) := by decide +kernel
theorem dX8_why_48 : decode cX8_why 48 = .ok (.aload_n 0, 1) := by decide +kernel
theorem dX8_why_49 : decode cX8_why 49 = .ok (.getfield 113, 3) := by decide +kernel
theorem dX8_why_52 : decode cX8_why 52 = .ok (.ireturn, 1) := by decide +kernel
theorem dX8_why_53 : decode cX8_why 53 = .ok (.aload_n 0, 1) := by decide +kernel
theorem dX8_why_54 : decode cX8_why 54 = .ok (.getfield 129, 3) := by decide +kernel
theorem dX8_why_57 : decode cX8_why 57 = .ok (.ireturn, 1) := by decide +kernel
theorem dX8_why_58 : decode cX8_why 58 = .ok (.aload_n 0, 1) := by decide +kernel
theorem dX8_why_59 : decode cX8_why 59 = .ok (.getfield 135, 3) := by decide +kernel
theorem dX8_why_62 : decode cX8_why 62 = .ok (.ireturn, 1) := by decide +kernel
set_option maxRecDepth 20000 in
theorem ggX8_step_X6_has : GoodIn wsX8_step wsX6_has := goodIn_r _ [7, 8, 109, 110, 111, 112, 113, 114] (by decide +kernel) (by decide +kernel)
set_option maxRecDepth 20000 in
theorem gX8_step_X6_has : GoodIn wsX8_step (wsV RX8 138 RX6 yX6_has wsX6_has) := goodIn_app (goodIn_of _ (by decide +kernel)) ggX8_step_X6_has
set_option maxRecDepth 20000 in
theorem ggX8_step_X6_numberOf : GoodIn wsX8_step wsX6_numberOf := goodIn_r _ [12, 8, 13, 109, 110, 111, 112, 113, 114] (by decide +kernel) (by decide +kernel)
set_option maxRecDepth 20000 in
theorem gX8_step_X6_numberOf : GoodIn wsX8_step (wsV RX8 141 RX6 yX6_numberOf wsX6_numberOf) := goodIn_app (goodIn_of _ (by decide +kernel)) ggX8_step_X6_numberOf
set_option maxRecDepth 20000 in
theorem ggX8_step_X6_kinOf : GoodIn wsX8_step wsX6_kinOf := goodIn_r _ [17, 8, 18, 19, 20, 6, 21, 22, 23, 10, 11, 12, 13, 24, 25, 26, 27, 28, 29, 30, 109, 110, 111, 112, 113, 114] (by decide +kernel) (by decide +kernel)
set_option maxRecDepth 20000 in
theorem gX8_step_X6_kinOf : GoodIn wsX8_step (wsV RX8 144 RX6 yX6_kinOf wsX6_kinOf) := goodIn_app (goodIn_of _ (by decide +kernel)) ggX8_step_X6_kinOf
set_option maxRecDepth 20000 in
theorem ggX8_step_X2_find : GoodIn wsX8_step wsX2_find := goodIn_r _ [35, 36, 37, 38, 39, 40, 41, 42, 19, 20, 6, 21, 22, 23, 10, 11, 12, 8, 13, 24, 25, 26, 27, 28, 29, 30, 43, 44, 45, 34, 46, 47, 48, 49, 50, 51, 52, 53, 54, 55, 56, 57, 109, 110, 111, 112, 113, 114, 115, 116] (by decide +kernel) (by decide +kernel)
set_option maxRecDepth 20000 in
theorem gX8_step_X2_find : GoodIn wsX8_step (wsV RX8 147 RX2 yX2_find wsX2_find) := goodIn_app (goodIn_of _ (by decide +kernel)) ggX8_step_X2_find
set_option maxRecDepth 20000 in
theorem ggX8_step_X2_lowestOf : GoodIn wsX8_step wsX2_lowestOf := goodIn_r _ [46, 37, 47, 48, 40, 49, 115, 116] (by decide +kernel) (by decide +kernel)
set_option maxRecDepth 20000 in
theorem gX8_step_X2_lowestOf : GoodIn wsX8_step (wsV RX8 150 RX2 yX2_lowestOf wsX2_lowestOf) := goodIn_app (goodIn_of _ (by decide +kernel)) ggX8_step_X2_lowestOf
set_option maxRecDepth 20000 in
theorem ggX8_step_X2_sizeOf : GoodIn wsX8_step wsX2_sizeOf := goodIn_r _ [62, 36, 43, 44, 45, 34, 46, 37, 47, 48, 40, 49, 115, 116] (by decide +kernel) (by decide +kernel)
set_option maxRecDepth 20000 in
theorem gX8_step_X2_sizeOf : GoodIn wsX8_step (wsV RX8 153 RX2 yX2_sizeOf wsX2_sizeOf) := goodIn_app (goodIn_of _ (by decide +kernel)) ggX8_step_X2_sizeOf
set_option maxRecDepth 20000 in
theorem ggX8_step_X7_factors : GoodIn wsX8_step wsX7_factors := goodIn_r _ [65, 66, 67, 26, 68, 69, 29, 30, 70, 71, 72] (by decide +kernel) (by decide +kernel)
set_option maxRecDepth 20000 in
theorem gX8_step_X7_factors : GoodIn wsX8_step (va_wsS RX8 156 yX7_factors wsX7_factors) := goodIn_app (goodIn_of _ (by decide +kernel)) ggX8_step_X7_factors
set_option maxRecDepth 20000 in
theorem ggX8_step_X7_differentFactors : GoodIn wsX8_step wsX7_differentFactors := goodIn_r _ [75, 66, 67, 26, 68, 69, 29, 30, 76, 77, 78, 79, 80, 81, 70, 71, 72] (by decide +kernel) (by decide +kernel)
set_option maxRecDepth 20000 in
theorem gX8_step_X7_differentFactors : GoodIn wsX8_step (va_wsS RX8 161 yX7_differentFactors wsX7_differentFactors) := goodIn_app (goodIn_of _ (by decide +kernel)) ggX8_step_X7_differentFactors
set_option maxRecDepth 20000 in
theorem ggX8_step_X7_greatestPrime : GoodIn wsX8_step wsX7_greatestPrime := goodIn_r _ [84, 66, 67, 26, 68, 69, 29, 30, 76, 77, 78, 79, 80, 81, 70, 71, 72] (by decide +kernel) (by decide +kernel)
set_option maxRecDepth 20000 in
theorem gX8_step_X7_greatestPrime : GoodIn wsX8_step (va_wsS RX8 164 yX7_greatestPrime wsX7_greatestPrime) := goodIn_app (goodIn_of _ (by decide +kernel)) ggX8_step_X7_greatestPrime
set_option maxRecDepth 20000 in
theorem ggX8_step_X6_leadsFrom : GoodIn wsX8_step wsX6_leadsFrom := goodIn_r _ [88, 8, 89, 90, 91, 6, 92, 93, 94, 95, 96, 97, 18, 19, 20, 21, 22, 23, 10, 11, 12, 13, 24, 25, 26, 27, 28, 29, 30, 109, 110, 111, 112, 113, 114] (by decide +kernel) (by decide +kernel)
set_option maxRecDepth 20000 in
theorem gX8_step_X6_leadsFrom : GoodIn wsX8_step (wsV RX8 167 RX6 yX6_leadsFrom wsX6_leadsFrom) := goodIn_app (goodIn_of _ (by decide +kernel)) ggX8_step_X6_leadsFrom
theorem dX8_step_0 : decode cX8_step 0 = .ok (.aload_n 0, 1) := by decide +kernel
theorem dX8_step_1 : decode cX8_step 1 = .ok (.getfield 10, 3) := by decide +kernel
theorem dX8_step_4 : decode cX8_step 4 = .ok (.iload_n 1, 1) := by decide +kernel
theorem dX8_step_5 : decode cX8_step 5 = .ok (.invokevirtual 138, 3) := by decide +kernel
theorem dX8_step_8 : decode cX8_step 8 = .ok (.ifCond .eq 13, 3) := by decide +kernel
theorem dX8_step_11 : decode cX8_step 11 = .ok (.iload_n 2, 1) := by decide +kernel
theorem dX8_step_12 : decode cX8_step 12 = .ok (.ifCond .lt 9, 3) := by decide +kernel
theorem dX8_step_15 : decode cX8_step 15 = .ok (.iload_n 2, 1) := by decide +kernel
theorem dX8_step_16 : decode cX8_step 16 = .ok (.bipush 7, 2) := by decide +kernel
theorem dX8_step_18 : decode cX8_step 18 = .ok (.if_icmp .le 5, 3) := by decide +kernel
theorem dX8_step_21 : decode cX8_step 21 = .ok (.iconst (-1), 1) := by decide +kernel
theorem dX8_step_22 : decode cX8_step 22 = .ok (.ireturn, 1) := by decide +kernel
theorem dX8_step_23 : decode cX8_step 23 = .ok (.aload_n 0, 1) := by decide +kernel
theorem dX8_step_24 : decode cX8_step 24 = .ok (.getfield 10, 3) := by decide +kernel
theorem dX8_step_27 : decode cX8_step 27 = .ok (.iload_n 1, 1) := by decide +kernel
theorem dX8_step_28 : decode cX8_step 28 = .ok (.invokevirtual 141, 3) := by decide +kernel
theorem dX8_step_31 : decode cX8_step 31 = .ok (.istore_n 3, 1) := by decide +kernel
theorem dX8_step_32 : decode cX8_step 32 = .ok (.iload_n 2, 1) := by decide +kernel
theorem dX8_step_33 : decode cX8_step 33 = .ok (.tableswitch 126 0 6 #[43, 45, 54, 74, 101, 106, 111], 43) := by decide +kernel
theorem dX8_step_76 : decode cX8_step 76 = .ok (.iload_n 3, 1) := by decide +kernel
theorem dX8_step_77 : decode cX8_step 77 = .ok (.ireturn, 1) := by decide +kernel
theorem dX8_step_78 : decode cX8_step 78 = .ok (.aload_n 0, 1) := by decide +kernel
theorem dX8_step_79 : decode cX8_step 79 = .ok (.getfield 10, 3) := by decide +kernel
theorem dX8_step_82 : decode cX8_step 82 = .ok (.iload_n 1, 1) := by decide +kernel
theorem dX8_step_83 : decode cX8_step 83 = .ok (.invokevirtual 144, 3) := by decide +kernel
theorem dX8_step_86 : decode cX8_step 86 = .ok (.ireturn, 1) := by decide +kernel
theorem dX8_step_87 : decode cX8_step 87 = .ok (.aload_n 0, 1) := by decide +kernel
theorem dX8_step_88 : decode cX8_step 88 = .ok (.getfield 39, 3) := by decide +kernel
theorem dX8_step_91 : decode cX8_step 91 = .ok (.aload_n 0, 1) := by decide +kernel
theorem dX8_step_92 : decode cX8_step 92 = .ok (.getfield 10, 3) := by decide +kernel
theorem dX8_step_95 : decode cX8_step 95 = .ok (.invokevirtual 147, 3) := by decide +kernel
theorem dX8_step_98 : decode cX8_step 98 = .ok (.aload_n 0, 1) := by decide +kernel
theorem dX8_step_99 : decode cX8_step 99 = .ok (.getfield 39, 3) := by decide +kernel
theorem dX8_step_102 : decode cX8_step 102 = .ok (.iload_n 1, 1) := by decide +kernel
theorem dX8_step_103 : decode cX8_step 103 = .ok (.invokevirtual 150, 3) := by decide +kernel
theorem dX8_step_106 : decode cX8_step 106 = .ok (.ireturn, 1) := by decide +kernel
theorem dX8_step_107 : decode cX8_step 107 = .ok (.aload_n 0, 1) := by decide +kernel
theorem dX8_step_108 : decode cX8_step 108 = .ok (.getfield 39, 3) := by decide +kernel
theorem dX8_step_111 : decode cX8_step 111 = .ok (.aload_n 0, 1) := by decide +kernel
theorem dX8_step_112 : decode cX8_step 112 = .ok (.getfield 10, 3) := by decide +kernel
theorem dX8_step_115 : decode cX8_step 115 = .ok (.invokevirtual 147, 3) := by decide +kernel
theorem dX8_step_118 : decode cX8_step 118 = .ok (.aload_n 0, 1) := by decide +kernel
theorem dX8_step_119 : decode cX8_step 119 = .ok (.getfield 39, 3) := by decide +kernel
theorem dX8_step_122 : decode cX8_step 122 = .ok (.aload_n 0, 1) := by decide +kernel
theorem dX8_step_123 : decode cX8_step 123 = .ok (.getfield 39, 3) := by decide +kernel
theorem dX8_step_126 : decode cX8_step 126 = .ok (.iload_n 1, 1) := by decide +kernel
theorem dX8_step_127 : decode cX8_step 127 = .ok (.invokevirtual 150, 3) := by decide +kernel
theorem dX8_step_130 : decode cX8_step 130 = .ok (.invokevirtual 153, 3) := by decide +kernel
theorem dX8_step_133 : decode cX8_step 133 = .ok (.ireturn, 1) := by decide +kernel
theorem dX8_step_134 : decode cX8_step 134 = .ok (.iload_n 3, 1) := by decide +kernel
theorem dX8_step_135 : decode cX8_step 135 = .ok (.invokestatic 156, 3) := by decide +kernel
theorem dX8_step_138 : decode cX8_step 138 = .ok (.ireturn, 1) := by decide +kernel
theorem dX8_step_139 : decode cX8_step 139 = .ok (.iload_n 3, 1) := by decide +kernel
theorem dX8_step_140 : decode cX8_step 140 = .ok (.invokestatic 161, 3) := by decide +kernel
theorem dX8_step_143 : decode cX8_step 143 = .ok (.ireturn, 1) := by decide +kernel
theorem dX8_step_144 : decode cX8_step 144 = .ok (.iload_n 3, 1) := by decide +kernel
theorem dX8_step_145 : decode cX8_step 145 = .ok (.iconst 1, 1) := by decide +kernel
theorem dX8_step_146 : decode cX8_step 146 = .ok (.if_icmp .ne 8, 3) := by decide +kernel
theorem dX8_step_149 : decode cX8_step 149 = .ok (.bipush (-4), 2) := by decide +kernel
theorem dX8_step_151 : decode cX8_step 151 = .ok (.goto 7, 3) := by decide +kernel
theorem dX8_step_154 : decode cX8_step 154 = .ok (.iload_n 3, 1) := by decide +kernel
theorem dX8_step_155 : decode cX8_step 155 = .ok (.invokestatic 164, 3) := by decide +kernel
theorem dX8_step_158 : decode cX8_step 158 = .ok (.ireturn, 1) := by decide +kernel
theorem dX8_step_159 : decode cX8_step 159 = .ok (.aload_n 0, 1) := by decide +kernel
theorem dX8_step_160 : decode cX8_step 160 = .ok (.getfield 10, 3) := by decide +kernel
theorem dX8_step_163 : decode cX8_step 163 = .ok (.iload_n 1, 1) := by decide +kernel
theorem dX8_step_164 : decode cX8_step 164 = .ok (.invokevirtual 167, 3) := by decide +kernel
theorem dX8_step_167 : decode cX8_step 167 = .ok (.ireturn, 1) := by decide +kernel
set_option maxRecDepth 20000 in
theorem ggX8_factor_X6_has : GoodIn wsX8_factor wsX6_has := goodIn_r _ [6, 7, 37, 38, 39, 40, 41, 42] (by decide +kernel) (by decide +kernel)
set_option maxRecDepth 20000 in
theorem gX8_factor_X6_has : GoodIn wsX8_factor (wsV RX8 138 RX6 yX6_has wsX6_has) := goodIn_app (goodIn_of _ (by decide +kernel)) ggX8_factor_X6_has
set_option maxRecDepth 20000 in
theorem ggX8_factor_X6_numberOf : GoodIn wsX8_factor wsX6_numberOf := goodIn_r _ [11, 7, 12, 37, 38, 39, 40, 41, 42] (by decide +kernel) (by decide +kernel)
set_option maxRecDepth 20000 in
theorem gX8_factor_X6_numberOf : GoodIn wsX8_factor (wsV RX8 141 RX6 yX6_numberOf wsX6_numberOf) := goodIn_app (goodIn_of _ (by decide +kernel)) ggX8_factor_X6_numberOf
set_option maxRecDepth 20000 in
theorem ggX8_factor_X7_factorAt : GoodIn wsX8_factor wsX7_factorAt := goodIn_r _ [16, 17, 18, 15, 19, 20, 21, 22, 23, 24, 25] (by decide +kernel) (by decide +kernel)
set_option maxRecDepth 20000 in
theorem gX8_factor_X7_factorAt : GoodIn wsX8_factor (va_wsS RX8 170 yX7_factorAt wsX7_factorAt) := goodIn_app (goodIn_of _ (by decide +kernel)) ggX8_factor_X7_factorAt
theorem dX8_factor_0 : decode cX8_factor 0 = .ok (.aload_n 0, 1) := by decide +kernel
theorem dX8_factor_1 : decode cX8_factor 1 = .ok (.getfield 10, 3) := by decide +kernel
theorem dX8_factor_4 : decode cX8_factor 4 = .ok (.iload_n 1, 1) := by decide +kernel
theorem dX8_factor_5 : decode cX8_factor 5 = .ok (.invokevirtual 138, 3) := by decide +kernel
theorem dX8_factor_8 : decode cX8_factor 8 = .ok (.ifCond .eq 7, 3) := by decide +kernel
theorem dX8_factor_11 : decode cX8_factor 11 = .ok (.iload_n 2, 1) := by decide +kernel
theorem dX8_factor_12 : decode cX8_factor 12 = .ok (.ifCond .ge 5, 3) := by decide +kernel
theorem dX8_factor_15 : decode cX8_factor 15 = .ok (.iconst (-1), 1) := by decide +kernel
theorem dX8_factor_16 : decode cX8_factor 16 = .ok (.ireturn, 1) := by decide +kernel
theorem dX8_factor_17 : decode cX8_factor 17 = .ok (.aload_n 0, 1) := by decide +kernel
theorem dX8_factor_18 : decode cX8_factor 18 = .ok (.getfield 10, 3) := by decide +kernel
theorem dX8_factor_21 : decode cX8_factor 21 = .ok (.iload_n 1, 1) := by decide +kernel
theorem dX8_factor_22 : decode cX8_factor 22 = .ok (.invokevirtual 141, 3) := by decide +kernel
theorem dX8_factor_25 : decode cX8_factor 25 = .ok (.iload_n 2, 1) := by decide +kernel
theorem dX8_factor_26 : decode cX8_factor 26 = .ok (.invokestatic 170, 3) := by decide +kernel
theorem dX8_factor_29 : decode cX8_factor 29 = .ok (.istore_n 3, 1) := by decide +kernel
theorem dX8_factor_30 : decode cX8_factor 30 = .ok (.iload_n 3, 1) := by decide +kernel
theorem dX8_factor_31 : decode cX8_factor 31 = .ok (.iconst (-1), 1) := by decide +kernel
theorem dX8_factor_32 : decode cX8_factor 32 = .ok (.if_icmp .ne 8, 3) := by decide +kernel
theorem dX8_factor_35 : decode cX8_factor 35 = .ok (.bipush (-4), 2) := by decide +kernel
theorem dX8_factor_37 : decode cX8_factor 37 = .ok (.goto 4, 3) := by decide +kernel
theorem dX8_factor_40 : decode cX8_factor 40 = .ok (.iload_n 3, 1) := by decide +kernel
theorem dX8_factor_41 : decode cX8_factor 41 = .ok (.ireturn, 1) := by decide +kernel
set_option maxRecDepth 20000 in
theorem ggX8_common_X6_has : GoodIn wsX8_common wsX6_has := goodIn_r _ [6, 7, 40, 41, 42, 43, 44, 45] (by decide +kernel) (by decide +kernel)
set_option maxRecDepth 20000 in
theorem gX8_common_X6_has : GoodIn wsX8_common (wsV RX8 138 RX6 yX6_has wsX6_has) := goodIn_app (goodIn_of _ (by decide +kernel)) ggX8_common_X6_has
set_option maxRecDepth 20000 in
theorem ggX8_common_X6_numberOf : GoodIn wsX8_common wsX6_numberOf := goodIn_r _ [11, 7, 12, 40, 41, 42, 43, 44, 45] (by decide +kernel) (by decide +kernel)
set_option maxRecDepth 20000 in
theorem gX8_common_X6_numberOf : GoodIn wsX8_common (wsV RX8 141 RX6 yX6_numberOf wsX6_numberOf) := goodIn_app (goodIn_of _ (by decide +kernel)) ggX8_common_X6_numberOf
set_option maxRecDepth 20000 in
theorem ggX8_common_X7_divisorByRemainders : GoodIn wsX8_common wsX7_divisorByRemainders := goodIn_r _ [16] (by decide +kernel) (by decide +kernel)
set_option maxRecDepth 20000 in
theorem gX8_common_X7_divisorByRemainders : GoodIn wsX8_common (va_wsS RX8 173 yX7_divisorByRemainders wsX7_divisorByRemainders) := goodIn_app (goodIn_of _ (by decide +kernel)) ggX8_common_X7_divisorByRemainders
set_option maxRecDepth 20000 in
theorem ggX8_common_X7_divisorByFactors : GoodIn wsX8_common wsX7_divisorByFactors := goodIn_r _ [19, 20, 21, 15, 22, 23, 24, 25, 26, 27, 28] (by decide +kernel) (by decide +kernel)
set_option maxRecDepth 20000 in
theorem gX8_common_X7_divisorByFactors : GoodIn wsX8_common (va_wsS RX8 176 yX7_divisorByFactors wsX7_divisorByFactors) := goodIn_app (goodIn_of _ (by decide +kernel)) ggX8_common_X7_divisorByFactors
theorem dX8_common_0 : decode cX8_common 0 = .ok (.aload_n 0, 1) := by decide +kernel
theorem dX8_common_1 : decode cX8_common 1 = .ok (.getfield 10, 3) := by decide +kernel
theorem dX8_common_4 : decode cX8_common 4 = .ok (.iload_n 1, 1) := by decide +kernel
theorem dX8_common_5 : decode cX8_common 5 = .ok (.invokevirtual 138, 3) := by decide +kernel
theorem dX8_common_8 : decode cX8_common 8 = .ok (.ifCond .eq 23, 3) := by decide +kernel
theorem dX8_common_11 : decode cX8_common 11 = .ok (.aload_n 0, 1) := by decide +kernel
theorem dX8_common_12 : decode cX8_common 12 = .ok (.getfield 10, 3) := by decide +kernel
theorem dX8_common_15 : decode cX8_common 15 = .ok (.iload_n 2, 1) := by decide +kernel
theorem dX8_common_16 : decode cX8_common 16 = .ok (.invokevirtual 138, 3) := by decide +kernel
theorem dX8_common_19 : decode cX8_common 19 = .ok (.ifCond .eq 12, 3) := by decide +kernel
theorem dX8_common_22 : decode cX8_common 22 = .ok (.iload_n 3, 1) := by decide +kernel
theorem dX8_common_23 : decode cX8_common 23 = .ok (.ifCond .lt 8, 3) := by decide +kernel
theorem dX8_common_26 : decode cX8_common 26 = .ok (.iload_n 3, 1) := by decide +kernel
theorem dX8_common_27 : decode cX8_common 27 = .ok (.iconst 1, 1) := by decide +kernel
theorem dX8_common_28 : decode cX8_common 28 = .ok (.if_icmp .le 5, 3) := by decide +kernel
theorem dX8_common_31 : decode cX8_common 31 = .ok (.iconst (-1), 1) := by decide +kernel
theorem dX8_common_32 : decode cX8_common 32 = .ok (.ireturn, 1) := by decide +kernel
theorem dX8_common_33 : decode cX8_common 33 = .ok (.aload_n 0, 1) := by decide +kernel
theorem dX8_common_34 : decode cX8_common 34 = .ok (.getfield 10, 3) := by decide +kernel
theorem dX8_common_37 : decode cX8_common 37 = .ok (.iload_n 1, 1) := by decide +kernel
theorem dX8_common_38 : decode cX8_common 38 = .ok (.invokevirtual 141, 3) := by decide +kernel
theorem dX8_common_41 : decode cX8_common 41 = .ok (.istore 4, 2) := by decide +kernel
theorem dX8_common_43 : decode cX8_common 43 = .ok (.aload_n 0, 1) := by decide +kernel
theorem dX8_common_44 : decode cX8_common 44 = .ok (.getfield 10, 3) := by decide +kernel
theorem dX8_common_47 : decode cX8_common 47 = .ok (.iload_n 2, 1) := by decide +kernel
theorem dX8_common_48 : decode cX8_common 48 = .ok (.invokevirtual 141, 3) := by decide +kernel
theorem dX8_common_51 : decode cX8_common 51 = .ok (.istore 5, 2) := by decide +kernel
theorem dX8_common_53 : decode cX8_common 53 = .ok (.iload_n 3, 1) := by decide +kernel
theorem dX8_common_54 : decode cX8_common 54 = .ok (.ifCond .ne 13, 3) := by decide +kernel
theorem dX8_common_57 : decode cX8_common 57 = .ok (.iload 4, 2) := by decide +kernel
theorem dX8_common_59 : decode cX8_common 59 = .ok (.iload 5, 2) := by decide +kernel
theorem dX8_common_61 : decode cX8_common 61 = .ok (.invokestatic 173, 3) := by decide +kernel
theorem dX8_common_64 : decode cX8_common 64 = .ok (.goto 10, 3) := by decide +kernel
theorem dX8_common_67 : decode cX8_common 67 = .ok (.iload 4, 2) := by decide +kernel
theorem dX8_common_69 : decode cX8_common 69 = .ok (.iload 5, 2) := by decide +kernel
theorem dX8_common_71 : decode cX8_common 71 = .ok (.invokestatic 176, 3) := by decide +kernel
theorem dX8_common_74 : decode cX8_common 74 = .ok (.ireturn, 1) := by decide +kernel
set_option maxRecDepth 20000 in
theorem ggX8_whyNot_X6_has : GoodIn wsX8_whyNot wsX6_has := goodIn_r _ [6, 7, 41, 42, 43, 44, 45, 46] (by decide +kernel) (by decide +kernel)
set_option maxRecDepth 20000 in
theorem gX8_whyNot_X6_has : GoodIn wsX8_whyNot (wsV RX8 138 RX6 yX6_has wsX6_has) := goodIn_app (goodIn_of _ (by decide +kernel)) ggX8_whyNot_X6_has
set_option maxRecDepth 20000 in
theorem ggX8_whyNot_X6_obstacle : GoodIn wsX8_whyNot wsX6_obstacle := goodIn_r _ [11, 12, 13, 14, 15, 5, 16, 17, 18, 19, 20, 21, 7, 22, 23, 24, 25, 26, 27, 28, 29, 41, 42, 43, 44, 45, 46] (by decide +kernel) (by decide +kernel)
set_option maxRecDepth 20000 in
theorem gX8_whyNot_X6_obstacle : GoodIn wsX8_whyNot (wsV RX8 179 RX6 yX6_obstacle wsX6_obstacle) := goodIn_app (goodIn_of _ (by decide +kernel)) ggX8_whyNot_X6_obstacle
theorem dX8_whyNot_0 : decode cX8_whyNot 0 = .ok (.aload_n 0, 1) := by decide +kernel
theorem dX8_whyNot_1 : decode cX8_whyNot 1 = .ok (.getfield 10, 3) := by decide +kernel
theorem dX8_whyNot_4 : decode cX8_whyNot 4 = .ok (.iload_n 1, 1) := by decide +kernel
theorem dX8_whyNot_5 : decode cX8_whyNot 5 = .ok (.invokevirtual 138, 3) := by decide +kernel
theorem dX8_whyNot_8 : decode cX8_whyNot 8 = .ok (.ifCond .eq 14, 3) := by decide +kernel
theorem dX8_whyNot_11 : decode cX8_whyNot 11 = .ok (.aload_n 0, 1) := by decide +kernel
theorem dX8_whyNot_12 : decode cX8_whyNot 12 = .ok (.getfield 10, 3) := by decide +kernel
theorem dX8_whyNot_15 : decode cX8_whyNot 15 = .ok (.iload_n 2, 1) := by decide +kernel
theorem dX8_whyNot_16 : decode cX8_whyNot 16 = .ok (.invokevirtual 138, 3) := by decide +kernel
theorem dX8_whyNot_19 : decode cX8_whyNot 19 = .ok (.ifCond .ne 5, 3) := by decide +kernel
theorem dX8_whyNot_22 : decode cX8_whyNot 22 = .ok (.iconst (-1), 1) := by decide +kernel
theorem dX8_whyNot_23 : decode cX8_whyNot 23 = .ok (.ireturn, 1) := by decide +kernel
theorem dX8_whyNot_24 : decode cX8_whyNot 24 = .ok (.aload_n 0, 1) := by decide +kernel
theorem dX8_whyNot_25 : decode cX8_whyNot 25 = .ok (.getfield 10, 3) := by decide +kernel
theorem dX8_whyNot_28 : decode cX8_whyNot 28 = .ok (.iload_n 1, 1) := by decide +kernel
theorem dX8_whyNot_29 : decode cX8_whyNot 29 = .ok (.iload_n 2, 1) := by decide +kernel
theorem dX8_whyNot_30 : decode cX8_whyNot 30 = .ok (.invokevirtual 179, 3) := by decide +kernel
theorem dX8_whyNot_33 : decode cX8_whyNot 33 = .ok (.ireturn, 1) := by decide +kernel
set_option maxRecDepth 20000 in
theorem ggX8_climbs_X8_isSpan : GoodIn wsX8_climbs wsX8_isSpan := goodIn_r _ [7, 2, 8, 9, 10, 11, 12, 13, 56, 57, 58, 59, 60, 61, 62, 63, 64, 65, 66, 67, 68, 69, 70, 71, 72] (by decide +kernel) (by decide +kernel)
set_option maxRecDepth 20000 in
theorem gX8_climbs_X8_isSpan : GoodIn wsX8_climbs (wsV RX8 182 RX8 yX8_isSpan wsX8_isSpan) := goodIn_app (goodIn_of _ (by decide +kernel)) ggX8_climbs_X8_isSpan
set_option maxRecDepth 20000 in
theorem ggX8_climbs_X1_addUp : GoodIn wsX8_climbs wsX1_addUp := goodIn_r _ [18, 19, 20, 21, 22, 23, 24, 25, 26, 11, 27, 28, 29, 30, 31, 32, 33, 34, 35, 36, 37, 38, 39, 40, 41, 13, 42, 43, 44, 45, 46, 47, 48, 49, 50, 51, 52, 73, 74, 75, 76, 77, 78, 79, 80, 67, 68, 69, 70, 71, 72] (by decide +kernel) (by decide +kernel)
set_option maxRecDepth 20000 in
theorem gX8_climbs_X1_addUp : GoodIn wsX8_climbs (wsV RX8 186 RX1 yX1_addUp wsX1_addUp) := goodIn_app (goodIn_of _ (by decide +kernel)) ggX8_climbs_X1_addUp
set_option maxRecDepth 20000 in
theorem ggX8_climbs_X1_goEach : GoodIn wsX8_climbs wsX1_goEach := goodIn_r _ [54, 24, 25, 26, 11, 27, 28, 29, 30, 31, 32, 33, 34, 35, 36, 37, 38, 39, 40, 41, 13, 42, 43, 44, 45, 46, 47, 48, 49, 55, 53, 17, 67, 68, 69, 70, 71, 72] (by decide +kernel) (by decide +kernel)
set_option maxRecDepth 20000 in
theorem gX8_climbs_X1_goEach_n190 : GoodIn wsX8_climbs (wsX1_goEach) := ggX8_climbs_X1_goEach
theorem dX8_climbs_0 : decode cX8_climbs 0 = .ok (.aload_n 0, 1) := by decide +kernel
theorem dX8_climbs_1 : decode cX8_climbs 1 = .ok (.iload_n 1, 1) := by decide +kernel
theorem dX8_climbs_2 : decode cX8_climbs 2 = .ok (.iload_n 2, 1) := by decide +kernel
theorem dX8_climbs_3 : decode cX8_climbs 3 = .ok (.invokevirtual 182, 3) := by decide +kernel
theorem dX8_climbs_6 : decode cX8_climbs 6 = .ok (.ifCond .eq 12, 3) := by decide +kernel
theorem dX8_climbs_9 : decode cX8_climbs 9 = .ok (.iload_n 3, 1) := by decide +kernel
theorem dX8_climbs_10 : decode cX8_climbs 10 = .ok (.ifCond .lt 8, 3) := by decide +kernel
theorem dX8_climbs_13 : decode cX8_climbs 13 = .ok (.iload_n 3, 1) := by decide +kernel
theorem dX8_climbs_14 : decode cX8_climbs 14 = .ok (.iconst 1, 1) := by decide +kernel
theorem dX8_climbs_15 : decode cX8_climbs 15 = .ok (.if_icmp .le 5, 3) := by decide +kernel
theorem dX8_climbs_18 : decode cX8_climbs 18 = .ok (.iconst (-1), 1) := by decide +kernel
theorem dX8_climbs_19 : decode cX8_climbs 19 = .ok (.ireturn, 1) := by decide +kernel
theorem dX8_climbs_20 : decode cX8_climbs 20 = .ok (.iload_n 3, 1) := by decide +kernel
theorem dX8_climbs_21 : decode cX8_climbs 21 = .ok (.ifCond .ne 19, 3) := by decide +kernel
theorem dX8_climbs_24 : decode cX8_climbs 24 = .ok (.aload_n 0, 1) := by decide +kernel
theorem dX8_climbs_25 : decode cX8_climbs 25 = .ok (.getfield 46, 3) := by decide +kernel
theorem dX8_climbs_28 : decode cX8_climbs 28 = .ok (.aload_n 0, 1) := by decide +kernel
theorem dX8_climbs_29 : decode cX8_climbs 29 = .ok (.getfield 10, 3) := by decide +kernel
theorem dX8_climbs_32 : decode cX8_climbs 32 = .ok (.iload_n 1, 1) := by decide +kernel
theorem dX8_climbs_33 : decode cX8_climbs 33 = .ok (.iload_n 2, 1) := by decide +kernel
theorem dX8_climbs_34 : decode cX8_climbs 34 = .ok (.invokevirtual 186, 3) := by decide +kernel
theorem dX8_climbs_37 : decode cX8_climbs 37 = .ok (.goto 13, 3) := by decide +kernel
theorem dX8_climbs_40 : decode cX8_climbs 40 = .ok (.aload_n 0, 1) := by decide +kernel
theorem dX8_climbs_41 : decode cX8_climbs 41 = .ok (.getfield 10, 3) := by decide +kernel
theorem dX8_climbs_44 : decode cX8_climbs 44 = .ok (.iload_n 1, 1) := by decide +kernel
theorem dX8_climbs_45 : decode cX8_climbs 45 = .ok (.iload_n 2, 1) := by decide +kernel
theorem dX8_climbs_46 : decode cX8_climbs 46 = .ok (.iconst 1, 1) := by decide +kernel
theorem dX8_climbs_47 : decode cX8_climbs 47 = .ok (.invokestatic 190, 3) := by decide +kernel
theorem dX8_climbs_50 : decode cX8_climbs 50 = .ok (.ireturn, 1) := by decide +kernel
set_option maxRecDepth 20000 in
theorem ggX8_climb_X8_isSpan : GoodIn wsX8_climb wsX8_isSpan := goodIn_r _ [7, 2, 8, 9, 10, 11, 12, 13, 73, 74, 75, 76, 77, 78, 79, 80, 81, 82, 83, 92, 93, 94, 95, 96, 97] (by decide +kernel) (by decide +kernel)
set_option maxRecDepth 20000 in
theorem gX8_climb_X8_isSpan : GoodIn wsX8_climb (wsV RX8 182 RX8 yX8_isSpan wsX8_isSpan) := goodIn_app (goodIn_of _ (by decide +kernel)) ggX8_climb_X8_isSpan
set_option maxRecDepth 20000 in
theorem ggX8_climb_X1_seek : GoodIn wsX8_climb wsX1_seek := goodIn_r _ [18, 19, 20, 21, 22, 23, 24, 25, 17, 26, 27, 28, 29, 30, 31, 32, 33, 11, 34, 35, 36, 37, 38, 39, 40, 41, 42, 43, 44, 45, 46, 47, 48, 13, 49, 50, 51, 52, 53, 54, 55, 56, 57, 58, 59, 60, 61, 62, 63, 84, 85, 86, 87, 88, 89, 90, 91, 92, 93, 94, 95, 96, 97] (by decide +kernel) (by decide +kernel)
set_option maxRecDepth 20000 in
theorem gX8_climb_X1_seek : GoodIn wsX8_climb (wsV RX8 194 RX1 yX1_seek wsX1_seek) := goodIn_app (goodIn_of _ (by decide +kernel)) ggX8_climb_X1_seek
set_option maxRecDepth 20000 in
theorem ggX8_climb_X1_sumOf : GoodIn wsX8_climb wsX1_sumOf := goodIn_r _ [67, 21, 22, 27, 28, 29, 30, 60, 46, 47, 11, 48, 13, 49, 84, 85, 86, 87, 88, 89, 90, 91, 92, 93, 94, 95, 96, 97] (by decide +kernel) (by decide +kernel)
set_option maxRecDepth 20000 in
theorem gX8_climb_X1_sumOf : GoodIn wsX8_climb (wsV RX8 201 RX1 yX1_sumOf wsX1_sumOf) := goodIn_app (goodIn_of _ (by decide +kernel)) ggX8_climb_X1_sumOf
set_option maxRecDepth 20000 in
theorem ggX8_climb_X1_divisorOf : GoodIn wsX8_climb wsX1_divisorOf := goodIn_r _ [71, 21, 22, 27, 28, 29, 30, 60, 46, 47, 11, 48, 13, 49, 72, 51, 52, 53, 84, 85, 86, 87, 88, 89, 90, 91, 92, 93, 94, 95, 96, 97] (by decide +kernel) (by decide +kernel)
set_option maxRecDepth 20000 in
theorem gX8_climb_X1_divisorOf : GoodIn wsX8_climb (wsV RX8 205 RX1 yX1_divisorOf wsX1_divisorOf) := goodIn_app (goodIn_of _ (by decide +kernel)) ggX8_climb_X1_divisorOf
theorem dX8_climb_0 : decode cX8_climb 0 = .ok (.aload_n 0, 1) := by decide +kernel
theorem dX8_climb_1 : decode cX8_climb 1 = .ok (.iload_n 1, 1) := by decide +kernel
theorem dX8_climb_2 : decode cX8_climb 2 = .ok (.iload_n 2, 1) := by decide +kernel
theorem dX8_climb_3 : decode cX8_climb 3 = .ok (.invokevirtual 182, 3) := by decide +kernel
theorem dX8_climb_6 : decode cX8_climb 6 = .ok (.ifCond .eq 23, 3) := by decide +kernel
theorem dX8_climb_9 : decode cX8_climb 9 = .ok (.iload_n 3, 1) := by decide +kernel
theorem dX8_climb_10 : decode cX8_climb 10 = .ok (.ifCond .lt 19, 3) := by decide +kernel
theorem dX8_climb_13 : decode cX8_climb 13 = .ok (.iload_n 3, 1) := by decide +kernel
theorem dX8_climb_14 : decode cX8_climb 14 = .ok (.iconst 2, 1) := by decide +kernel
theorem dX8_climb_15 : decode cX8_climb 15 = .ok (.if_icmp .gt 14, 3) := by decide +kernel
theorem dX8_climb_18 : decode cX8_climb 18 = .ok (.iload 4, 2) := by decide +kernel
theorem dX8_climb_20 : decode cX8_climb 20 = .ok (.ifCond .lt 9, 3) := by decide +kernel
theorem dX8_climb_23 : decode cX8_climb 23 = .ok (.iload 4, 2) := by decide +kernel
theorem dX8_climb_25 : decode cX8_climb 25 = .ok (.iconst 2, 1) := by decide +kernel
theorem dX8_climb_26 : decode cX8_climb 26 = .ok (.if_icmp .le 5, 3) := by decide +kernel
theorem dX8_climb_29 : decode cX8_climb 29 = .ok (.iconst (-1), 1) := by decide +kernel
theorem dX8_climb_30 : decode cX8_climb 30 = .ok (.ireturn, 1) := by decide +kernel
theorem dX8_climb_31 : decode cX8_climb 31 = .ok (.aload_n 0, 1) := by decide +kernel
theorem dX8_climb_32 : decode cX8_climb 32 = .ok (.getfield 46, 3) := by decide +kernel
theorem dX8_climb_35 : decode cX8_climb 35 = .ok (.aload_n 0, 1) := by decide +kernel
theorem dX8_climb_36 : decode cX8_climb 36 = .ok (.getfield 10, 3) := by decide +kernel
theorem dX8_climb_39 : decode cX8_climb 39 = .ok (.iload_n 1, 1) := by decide +kernel
theorem dX8_climb_40 : decode cX8_climb 40 = .ok (.iload_n 2, 1) := by decide +kernel
theorem dX8_climb_41 : decode cX8_climb 41 = .ok (.iload_n 3, 1) := by decide +kernel
theorem dX8_climb_42 : decode cX8_climb 42 = .ok (.invokevirtual 194, 3) := by decide +kernel
theorem dX8_climb_45 : decode cX8_climb 45 = .ok (.aload_n 0, 1) := by decide +kernel
theorem dX8_climb_46 : decode cX8_climb 46 = .ok (.getfield 46, 3) := by decide +kernel
theorem dX8_climb_49 : decode cX8_climb 49 = .ok (.getfield 198, 3) := by decide +kernel
theorem dX8_climb_52 : decode cX8_climb 52 = .ok (.ifCond .ne 6, 3) := by decide +kernel
theorem dX8_climb_55 : decode cX8_climb 55 = .ok (.bipush (-4), 2) := by decide +kernel
theorem dX8_climb_57 : decode cX8_climb 57 = .ok (.ireturn, 1) := by decide +kernel
theorem dX8_climb_58 : decode cX8_climb 58 = .ok (.iload 4, 2) := by decide +kernel
theorem dX8_climb_60 : decode cX8_climb 60 = .ok (.lookupswitch 48 #[(0, 28), (1, 36)], 28) := by decide +kernel
theorem dX8_climb_88 : decode cX8_climb 88 = .ok (.aload_n 0, 1) := by decide +kernel
theorem dX8_climb_89 : decode cX8_climb 89 = .ok (.getfield 46, 3) := by decide +kernel
theorem dX8_climb_92 : decode cX8_climb 92 = .ok (.getfield 198, 3) := by decide +kernel
theorem dX8_climb_95 : decode cX8_climb 95 = .ok (.ireturn, 1) := by decide +kernel
theorem dX8_climb_96 : decode cX8_climb 96 = .ok (.aload_n 0, 1) := by decide +kernel
theorem dX8_climb_97 : decode cX8_climb 97 = .ok (.getfield 46, 3) := by decide +kernel
theorem dX8_climb_100 : decode cX8_climb 100 = .ok (.aload_n 0, 1) := by decide +kernel
theorem dX8_climb_101 : decode cX8_climb 101 = .ok (.getfield 10, 3) := by decide +kernel
theorem dX8_climb_104 : decode cX8_climb 104 = .ok (.invokevirtual 201, 3) := by decide +kernel
theorem dX8_climb_107 : decode cX8_climb 107 = .ok (.ireturn, 1) := by decide +kernel
theorem dX8_climb_108 : decode cX8_climb 108 = .ok (.aload_n 0, 1) := by decide +kernel
theorem dX8_climb_109 : decode cX8_climb 109 = .ok (.getfield 46, 3) := by decide +kernel
theorem dX8_climb_112 : decode cX8_climb 112 = .ok (.aload_n 0, 1) := by decide +kernel
theorem dX8_climb_113 : decode cX8_climb 113 = .ok (.getfield 10, 3) := by decide +kernel
theorem dX8_climb_116 : decode cX8_climb 116 = .ok (.invokevirtual 205, 3) := by decide +kernel
theorem dX8_climb_119 : decode cX8_climb 119 = .ok (.ireturn, 1) := by decide +kernel
set_option maxRecDepth 20000 in
theorem ggX8_climbAt_X8_isSpan : GoodIn wsX8_climbAt wsX8_isSpan := goodIn_r _ [7, 2, 8, 9, 10, 11, 12, 13, 65, 66, 67, 68, 69, 70, 71, 72, 73, 74, 75, 84, 85, 86, 87, 88, 89] (by decide +kernel) (by decide +kernel)
set_option maxRecDepth 20000 in
theorem gX8_climbAt_X8_isSpan : GoodIn wsX8_climbAt (wsV RX8 182 RX8 yX8_isSpan wsX8_isSpan) := goodIn_app (goodIn_of _ (by decide +kernel)) ggX8_climbAt_X8_isSpan
set_option maxRecDepth 20000 in
theorem ggX8_climbAt_X1_seek : GoodIn wsX8_climbAt wsX1_seek := goodIn_r _ [18, 19, 20, 21, 22, 23, 24, 25, 17, 26, 27, 28, 29, 30, 31, 32, 33, 11, 34, 35, 36, 37, 38, 39, 40, 41, 42, 43, 44, 45, 46, 47, 48, 13, 49, 50, 51, 52, 53, 54, 55, 56, 57, 58, 59, 60, 61, 62, 63, 76, 77, 78, 79, 80, 81, 82, 83, 84, 85, 86, 87, 88, 89] (by decide +kernel) (by decide +kernel)
set_option maxRecDepth 20000 in
theorem gX8_climbAt_X1_seek : GoodIn wsX8_climbAt (wsV RX8 194 RX1 yX1_seek wsX1_seek) := goodIn_app (goodIn_of _ (by decide +kernel)) ggX8_climbAt_X1_seek
set_option maxRecDepth 20000 in
theorem ggX8_climbAt_X5_at : GoodIn wsX8_climbAt wsX5_at := goodIn_r _ [30] (by decide +kernel) (by decide +kernel)
set_option maxRecDepth 20000 in
theorem gX8_climbAt_X5_at : GoodIn wsX8_climbAt (va_wsS RX8 212 yX5_at wsX5_at) := goodIn_app (goodIn_of _ (by decide +kernel)) ggX8_climbAt_X5_at
theorem dX8_climbAt_0 : decode cX8_climbAt 0 = .ok (.aload_n 0, 1) := by decide +kernel
theorem dX8_climbAt_1 : decode cX8_climbAt 1 = .ok (.iload_n 1, 1) := by decide +kernel
theorem dX8_climbAt_2 : decode cX8_climbAt 2 = .ok (.iload_n 2, 1) := by decide +kernel
theorem dX8_climbAt_3 : decode cX8_climbAt 3 = .ok (.invokevirtual 182, 3) := by decide +kernel
theorem dX8_climbAt_6 : decode cX8_climbAt 6 = .ok (.ifCond .eq 17, 3) := by decide +kernel
theorem dX8_climbAt_9 : decode cX8_climbAt 9 = .ok (.iload_n 3, 1) := by decide +kernel
theorem dX8_climbAt_10 : decode cX8_climbAt 10 = .ok (.ifCond .lt 13, 3) := by decide +kernel
theorem dX8_climbAt_13 : decode cX8_climbAt 13 = .ok (.iload_n 3, 1) := by decide +kernel
theorem dX8_climbAt_14 : decode cX8_climbAt 14 = .ok (.iconst 2, 1) := by decide +kernel
theorem dX8_climbAt_15 : decode cX8_climbAt 15 = .ok (.if_icmp .gt 8, 3) := by decide +kernel
theorem dX8_climbAt_18 : decode cX8_climbAt 18 = .ok (.iload 4, 2) := by decide +kernel
theorem dX8_climbAt_20 : decode cX8_climbAt 20 = .ok (.ifCond .ge 5, 3) := by decide +kernel
theorem dX8_climbAt_23 : decode cX8_climbAt 23 = .ok (.iconst (-1), 1) := by decide +kernel
theorem dX8_climbAt_24 : decode cX8_climbAt 24 = .ok (.ireturn, 1) := by decide +kernel
theorem dX8_climbAt_25 : decode cX8_climbAt 25 = .ok (.aload_n 0, 1) := by decide +kernel
theorem dX8_climbAt_26 : decode cX8_climbAt 26 = .ok (.getfield 46, 3) := by decide +kernel
theorem dX8_climbAt_29 : decode cX8_climbAt 29 = .ok (.aload_n 0, 1) := by decide +kernel
theorem dX8_climbAt_30 : decode cX8_climbAt 30 = .ok (.getfield 10, 3) := by decide +kernel
theorem dX8_climbAt_33 : decode cX8_climbAt 33 = .ok (.iload_n 1, 1) := by decide +kernel
theorem dX8_climbAt_34 : decode cX8_climbAt 34 = .ok (.iload_n 2, 1) := by decide +kernel
theorem dX8_climbAt_35 : decode cX8_climbAt 35 = .ok (.iload_n 3, 1) := by decide +kernel
theorem dX8_climbAt_36 : decode cX8_climbAt 36 = .ok (.invokevirtual 194, 3) := by decide +kernel
theorem dX8_climbAt_39 : decode cX8_climbAt 39 = .ok (.iload 4, 2) := by decide +kernel
theorem dX8_climbAt_41 : decode cX8_climbAt 41 = .ok (.aload_n 0, 1) := by decide +kernel
theorem dX8_climbAt_42 : decode cX8_climbAt 42 = .ok (.getfield 46, 3) := by decide +kernel
theorem dX8_climbAt_45 : decode cX8_climbAt 45 = .ok (.getfield 198, 3) := by decide +kernel
theorem dX8_climbAt_48 : decode cX8_climbAt 48 = .ok (.if_icmp .ge 18, 3) := by decide +kernel
theorem dX8_climbAt_51 : decode cX8_climbAt 51 = .ok (.aload_n 0, 1) := by decide +kernel
theorem dX8_climbAt_52 : decode cX8_climbAt 52 = .ok (.getfield 46, 3) := by decide +kernel
theorem dX8_climbAt_55 : decode cX8_climbAt 55 = .ok (.getfield 208, 3) := by decide +kernel
theorem dX8_climbAt_58 : decode cX8_climbAt 58 = .ok (.iload 4, 2) := by decide +kernel
theorem dX8_climbAt_60 : decode cX8_climbAt 60 = .ok (.invokestatic 212, 3) := by decide +kernel
theorem dX8_climbAt_63 : decode cX8_climbAt 63 = .ok (.goto 5, 3) := by decide +kernel
theorem dX8_climbAt_66 : decode cX8_climbAt 66 = .ok (.bipush (-4), 2) := by decide +kernel
theorem dX8_climbAt_68 : decode cX8_climbAt 68 = .ok (.ireturn, 1) := by decide +kernel
set_option maxRecDepth 20000 in
theorem ggX8_crown_X6_kinOf : GoodIn wsX8_crown wsX6_kinOf := goodIn_r _ [6, 7, 8, 9, 10, 5, 11, 12, 13, 14, 15, 16, 17, 18, 19, 20, 21, 22, 23, 24, 37, 38, 39, 40, 41, 42] (by decide +kernel) (by decide +kernel)
set_option maxRecDepth 20000 in
theorem gX8_crown_X6_kinOf : GoodIn wsX8_crown (wsV RX8 144 RX6 yX6_kinOf wsX6_kinOf) := goodIn_app (goodIn_of _ (by decide +kernel)) ggX8_crown_X6_kinOf
set_option maxRecDepth 20000 in
theorem ggX8_crown_X6_numberOf : GoodIn wsX8_crown wsX6_numberOf := goodIn_r _ [16, 7, 17, 37, 38, 39, 40, 41, 42] (by decide +kernel) (by decide +kernel)
set_option maxRecDepth 20000 in
theorem gX8_crown_X6_numberOf : GoodIn wsX8_crown (wsV RX8 141 RX6 yX6_numberOf wsX6_numberOf) := goodIn_app (goodIn_of _ (by decide +kernel)) ggX8_crown_X6_numberOf
theorem dX8_crown_0 : decode cX8_crown 0 = .ok (.iconst (-1), 1) := by decide +kernel
theorem dX8_crown_1 : decode cX8_crown 1 = .ok (.istore_n 1, 1) := by decide +kernel
theorem dX8_crown_2 : decode cX8_crown 2 = .ok (.iconst (-1), 1) := by decide +kernel
theorem dX8_crown_3 : decode cX8_crown 3 = .ok (.istore_n 2, 1) := by decide +kernel
theorem dX8_crown_4 : decode cX8_crown 4 = .ok (.iconst 0, 1) := by decide +kernel
theorem dX8_crown_5 : decode cX8_crown 5 = .ok (.istore_n 3, 1) := by decide +kernel
theorem dX8_crown_6 : decode cX8_crown 6 = .ok (.iload_n 3, 1) := by decide +kernel
theorem dX8_crown_7 : decode cX8_crown 7 = .ok (.aload_n 0, 1) := by decide +kernel
theorem dX8_crown_8 : decode cX8_crown 8 = .ok (.getfield 10, 3) := by decide +kernel
theorem dX8_crown_11 : decode cX8_crown 11 = .ok (.getfield 97, 3) := by decide +kernel
theorem dX8_crown_14 : decode cX8_crown 14 = .ok (.if_icmp .ge 55, 3) := by decide +kernel
theorem dX8_crown_17 : decode cX8_crown 17 = .ok (.aload_n 0, 1) := by decide +kernel
theorem dX8_crown_18 : decode cX8_crown 18 = .ok (.getfield 10, 3) := by decide +kernel
theorem dX8_crown_21 : decode cX8_crown 21 = .ok (.iload_n 3, 1) := by decide +kernel
theorem dX8_crown_22 : decode cX8_crown 22 = .ok (.invokevirtual 144, 3) := by decide +kernel
theorem dX8_crown_25 : decode cX8_crown 25 = .ok (.istore 4, 2) := by decide +kernel
theorem dX8_crown_27 : decode cX8_crown 27 = .ok (.iload 4, 2) := by decide +kernel
theorem dX8_crown_29 : decode cX8_crown 29 = .ok (.iload_n 2, 1) := by decide +kernel
theorem dX8_crown_30 : decode cX8_crown 30 = .ok (.if_icmp .gt 28, 3) := by decide +kernel
theorem dX8_crown_33 : decode cX8_crown 33 = .ok (.iload 4, 2) := by decide +kernel
theorem dX8_crown_35 : decode cX8_crown 35 = .ok (.iload_n 2, 1) := by decide +kernel
theorem dX8_crown_36 : decode cX8_crown 36 = .ok (.if_icmp .ne 27, 3) := by decide +kernel
theorem dX8_crown_39 : decode cX8_crown 39 = .ok (.aload_n 0, 1) := by decide +kernel
theorem dX8_crown_40 : decode cX8_crown 40 = .ok (.getfield 10, 3) := by decide +kernel
theorem dX8_crown_43 : decode cX8_crown 43 = .ok (.iload_n 3, 1) := by decide +kernel
theorem dX8_crown_44 : decode cX8_crown 44 = .ok (.invokevirtual 141, 3) := by decide +kernel
theorem dX8_crown_47 : decode cX8_crown 47 = .ok (.aload_n 0, 1) := by decide +kernel
theorem dX8_crown_48 : decode cX8_crown 48 = .ok (.getfield 10, 3) := by decide +kernel
theorem dX8_crown_51 : decode cX8_crown 51 = .ok (.iload_n 1, 1) := by decide +kernel
theorem dX8_crown_52 : decode cX8_crown 52 = .ok (.invokevirtual 141, 3) := by decide +kernel
theorem dX8_crown_55 : decode cX8_crown 55 = .ok (.if_icmp .le 8, 3) := by decide +kernel
theorem dX8_crown_58 : decode cX8_crown 58 = .ok (.iload_n 3, 1) := by decide +kernel
theorem dX8_crown_59 : decode cX8_crown 59 = .ok (.istore_n 1, 1) := by decide +kernel
theorem dX8_crown_60 : decode cX8_crown 60 = .ok (.iload 4, 2) := by decide +kernel
theorem dX8_crown_62 : decode cX8_crown 62 = .ok (.istore_n 2, 1) := by decide +kernel
theorem dX8_crown_63 : decode cX8_crown 63 = .ok (.iinc 3 1, 3) := by decide +kernel
theorem dX8_crown_66 : decode cX8_crown 66 = .ok (.goto (-60), 3) := by decide +kernel
theorem dX8_crown_69 : decode cX8_crown 69 = .ok (.iload_n 1, 1) := by decide +kernel
theorem dX8_crown_70 : decode cX8_crown 70 = .ok (.iconst (-1), 1) := by decide +kernel
theorem dX8_crown_71 : decode cX8_crown 71 = .ok (.if_icmp .ne 8, 3) := by decide +kernel
theorem dX8_crown_74 : decode cX8_crown 74 = .ok (.bipush (-4), 2) := by decide +kernel
theorem dX8_crown_76 : decode cX8_crown 76 = .ok (.goto 4, 3) := by decide +kernel
theorem dX8_crown_79 : decode cX8_crown 79 = .ok (.iload_n 1, 1) := by decide +kernel
theorem dX8_crown_80 : decode cX8_crown 80 = .ok (.ireturn, 1) := by decide +kernel
set_option maxRecDepth 20000 in
theorem ggX8_prime_X7_isPrime : GoodIn wsX8_prime wsX7_isPrime := goodIn_r _ [5, 6, 7, 4, 8, 9, 10, 11] (by decide +kernel) (by decide +kernel)
set_option maxRecDepth 20000 in
theorem gX8_prime_X7_isPrime : GoodIn wsX8_prime (va_wsS RX8 218 yX7_isPrime wsX7_isPrime) := goodIn_app (goodIn_of _ (by decide +kernel)) ggX8_prime_X7_isPrime
set_option maxRecDepth 20000 in
theorem ggX8_prime_X0_chipsOf : GoodIn wsX8_prime wsX0_chipsOf := goodIn_r _ [16, 17, 18, 19, 20, 15, 21, 22, 23, 24, 25, 26, 27, 80, 81, 82, 83] (by decide +kernel) (by decide +kernel)
set_option maxRecDepth 20000 in
theorem gX8_prime_X0_chipsOf : GoodIn wsX8_prime (wsV RX8 225 RX0 yX0_chipsOf wsX0_chipsOf) := goodIn_app (goodIn_of _ (by decide +kernel)) ggX8_prime_X0_chipsOf
set_option maxRecDepth 20000 in
theorem ggX8_prime_X0_cameOf : GoodIn wsX8_prime wsX0_cameOf := goodIn_r _ [31, 32, 18, 19, 20, 15, 21, 22, 23, 24, 25, 26, 27, 80, 81, 82, 83] (by decide +kernel) (by decide +kernel)
set_option maxRecDepth 20000 in
theorem gX8_prime_X0_cameOf : GoodIn wsX8_prime (wsV RX8 230 RX0 yX0_cameOf wsX0_cameOf) := goodIn_app (goodIn_of _ (by decide +kernel)) ggX8_prime_X0_cameOf
set_option maxRecDepth 20000 in
theorem ggX8_prime_X6_sumOfExponents : GoodIn wsX8_prime wsX6_sumOfExponents := goodIn_r _ [37, 38, 39, 40, 41, 36, 42, 43, 44, 45, 4, 46, 9, 10, 11, 47, 48, 49, 74, 75, 76, 77, 78, 79] (by decide +kernel) (by decide +kernel)
set_option maxRecDepth 20000 in
theorem gX8_prime_X6_sumOfExponents : GoodIn wsX8_prime (wsV RX8 233 RX6 yX6_sumOfExponents wsX6_sumOfExponents) := goodIn_app (goodIn_of _ (by decide +kernel)) ggX8_prime_X6_sumOfExponents
set_option maxRecDepth 20000 in
theorem ggX8_prime_X6_greatestExponent : GoodIn wsX8_prime wsX6_greatestExponent := goodIn_r _ [53, 38, 54, 55, 56, 57, 39, 40, 41, 36, 42, 43, 44, 45, 4, 46, 9, 10, 11, 47, 48, 49, 74, 75, 76, 77, 78, 79] (by decide +kernel) (by decide +kernel)
set_option maxRecDepth 20000 in
theorem gX8_prime_X6_greatestExponent : GoodIn wsX8_prime (wsV RX8 236 RX6 yX6_greatestExponent wsX6_greatestExponent) := goodIn_app (goodIn_of _ (by decide +kernel)) ggX8_prime_X6_greatestExponent
set_option maxRecDepth 20000 in
theorem ggX8_prime_X6_multiplesOf : GoodIn wsX8_prime wsX6_multiplesOf := goodIn_r _ [61, 38, 39, 40, 41, 36, 42, 43, 62, 10, 4, 11, 74, 75, 76, 77, 78, 79] (by decide +kernel) (by decide +kernel)
set_option maxRecDepth 20000 in
theorem gX8_prime_X6_multiplesOf : GoodIn wsX8_prime (wsV RX8 239 RX6 yX6_multiplesOf wsX6_multiplesOf) := goodIn_app (goodIn_of _ (by decide +kernel)) ggX8_prime_X6_multiplesOf
theorem dX8_prime_0 : decode cX8_prime 0 = .ok (.iload_n 1, 1) := by decide +kernel
theorem dX8_prime_1 : decode cX8_prime 1 = .ok (.invokestatic 218, 3) := by decide +kernel
theorem dX8_prime_4 : decode cX8_prime 4 = .ok (.ifCond .eq 12, 3) := by decide +kernel
theorem dX8_prime_7 : decode cX8_prime 7 = .ok (.iload_n 2, 1) := by decide +kernel
theorem dX8_prime_8 : decode cX8_prime 8 = .ok (.ifCond .lt 8, 3) := by decide +kernel
theorem dX8_prime_11 : decode cX8_prime 11 = .ok (.iload_n 2, 1) := by decide +kernel
theorem dX8_prime_12 : decode cX8_prime 12 = .ok (.iconst 4, 1) := by decide +kernel
theorem dX8_prime_13 : decode cX8_prime 13 = .ok (.if_icmp .le 5, 3) := by decide +kernel
theorem dX8_prime_16 : decode cX8_prime 16 = .ok (.iconst (-1), 1) := by decide +kernel
theorem dX8_prime_17 : decode cX8_prime 17 = .ok (.ireturn, 1) := by decide +kernel
theorem dX8_prime_18 : decode cX8_prime 18 = .ok (.iload_n 2, 1) := by decide +kernel
theorem dX8_prime_19 : decode cX8_prime 19 = .ok (.tableswitch 71 0 3 #[29, 41, 53, 62], 29) := by decide +kernel
theorem dX8_prime_48 : decode cX8_prime 48 = .ok (.aload_n 0, 1) := by decide +kernel
theorem dX8_prime_49 : decode cX8_prime 49 = .ok (.getfield 10, 3) := by decide +kernel
theorem dX8_prime_52 : decode cX8_prime 52 = .ok (.getfield 221, 3) := by decide +kernel
theorem dX8_prime_55 : decode cX8_prime 55 = .ok (.iload_n 1, 1) := by decide +kernel
theorem dX8_prime_56 : decode cX8_prime 56 = .ok (.invokevirtual 225, 3) := by decide +kernel
theorem dX8_prime_59 : decode cX8_prime 59 = .ok (.ireturn, 1) := by decide +kernel
theorem dX8_prime_60 : decode cX8_prime 60 = .ok (.aload_n 0, 1) := by decide +kernel
theorem dX8_prime_61 : decode cX8_prime 61 = .ok (.getfield 10, 3) := by decide +kernel
theorem dX8_prime_64 : decode cX8_prime 64 = .ok (.getfield 221, 3) := by decide +kernel
theorem dX8_prime_67 : decode cX8_prime 67 = .ok (.iload_n 1, 1) := by decide +kernel
theorem dX8_prime_68 : decode cX8_prime 68 = .ok (.invokevirtual 230, 3) := by decide +kernel
theorem dX8_prime_71 : decode cX8_prime 71 = .ok (.ireturn, 1) := by decide +kernel
theorem dX8_prime_72 : decode cX8_prime 72 = .ok (.aload_n 0, 1) := by decide +kernel
theorem dX8_prime_73 : decode cX8_prime 73 = .ok (.getfield 10, 3) := by decide +kernel
theorem dX8_prime_76 : decode cX8_prime 76 = .ok (.iload_n 1, 1) := by decide +kernel
theorem dX8_prime_77 : decode cX8_prime 77 = .ok (.invokevirtual 233, 3) := by decide +kernel
theorem dX8_prime_80 : decode cX8_prime 80 = .ok (.ireturn, 1) := by decide +kernel
theorem dX8_prime_81 : decode cX8_prime 81 = .ok (.aload_n 0, 1) := by decide +kernel
theorem dX8_prime_82 : decode cX8_prime 82 = .ok (.getfield 10, 3) := by decide +kernel
theorem dX8_prime_85 : decode cX8_prime 85 = .ok (.iload_n 1, 1) := by decide +kernel
theorem dX8_prime_86 : decode cX8_prime 86 = .ok (.invokevirtual 236, 3) := by decide +kernel
theorem dX8_prime_89 : decode cX8_prime 89 = .ok (.ireturn, 1) := by decide +kernel
theorem dX8_prime_90 : decode cX8_prime 90 = .ok (.aload_n 0, 1) := by decide +kernel
theorem dX8_prime_91 : decode cX8_prime 91 = .ok (.getfield 10, 3) := by decide +kernel
theorem dX8_prime_94 : decode cX8_prime 94 = .ok (.iload_n 1, 1) := by decide +kernel
theorem dX8_prime_95 : decode cX8_prime 95 = .ok (.invokevirtual 239, 3) := by decide +kernel
theorem dX8_prime_98 : decode cX8_prime 98 = .ok (.ireturn, 1) := by decide +kernel
set_option maxRecDepth 20000 in
theorem ggX8_count_X6_pairs : GoodIn wsX8_count wsX6_pairs := goodIn_r _ [9, 10, 11, 12, 13, 8, 14, 15, 16, 17, 18, 19, 20, 21, 22, 23, 24, 25, 26, 27, 122, 123, 124, 125, 126, 127] (by decide +kernel) (by decide +kernel)
set_option maxRecDepth 20000 in
theorem gX8_count_X6_pairs : GoodIn wsX8_count (wsV RX8 242 RX6 yX6_pairs wsX6_pairs) := goodIn_app (goodIn_of _ (by decide +kernel)) ggX8_count_X6_pairs
set_option maxRecDepth 20000 in
theorem ggX8_count_X2_find : GoodIn wsX8_count wsX2_find := goodIn_r _ [32, 33, 34, 35, 36, 37, 38, 39, 12, 13, 8, 14, 15, 16, 17, 18, 19, 10, 20, 21, 22, 23, 24, 25, 26, 27, 40, 41, 42, 31, 43, 44, 45, 46, 47, 48, 49, 50, 51, 52, 53, 54, 122, 123, 124, 125, 126, 127, 140, 141] (by decide +kernel) (by decide +kernel)
set_option maxRecDepth 20000 in
theorem gX8_count_X2_find : GoodIn wsX8_count (wsV RX8 147 RX2 yX2_find wsX2_find) := goodIn_app (goodIn_of _ (by decide +kernel)) ggX8_count_X2_find
set_option maxRecDepth 20000 in
theorem ggX8_count_X2_many : GoodIn wsX8_count wsX2_many := goodIn_r _ [58, 33, 40, 41, 42, 31, 43, 34, 44, 45, 37, 46, 140, 141] (by decide +kernel) (by decide +kernel)
set_option maxRecDepth 20000 in
theorem gX8_count_X2_many : GoodIn wsX8_count (wsV RX8 245 RX2 yX2_many wsX2_many) := goodIn_app (goodIn_of _ (by decide +kernel)) ggX8_count_X2_many
set_option maxRecDepth 20000 in
theorem ggX8_count_X2_greatest : GoodIn wsX8_count wsX2_greatest := goodIn_r _ [62, 33, 63, 64, 53, 65, 66, 67, 68, 31, 69, 40, 41, 42, 43, 34, 44, 45, 37, 46, 140, 141] (by decide +kernel) (by decide +kernel)
set_option maxRecDepth 20000 in
theorem gX8_count_X2_greatest : GoodIn wsX8_count (wsV RX8 248 RX2 yX2_greatest wsX2_greatest) := goodIn_app (goodIn_of _ (by decide +kernel)) ggX8_count_X2_greatest
set_option maxRecDepth 20000 in
theorem ggX8_count_X6_isSettled : GoodIn wsX8_count wsX6_isSettled := goodIn_r _ [73, 10, 16, 17, 18, 8, 19, 20, 25, 26, 23, 27, 122, 123, 124, 125, 126, 127] (by decide +kernel) (by decide +kernel)
set_option maxRecDepth 20000 in
theorem gX8_count_X6_isSettled : GoodIn wsX8_count (wsV RX8 251 RX6 yX6_isSettled wsX6_isSettled) := goodIn_app (goodIn_of _ (by decide +kernel)) ggX8_count_X6_isSettled
set_option maxRecDepth 20000 in
theorem ggX8_count_X0_allChips : GoodIn wsX8_count wsX0_allChips := goodIn_r _ [78, 79, 80, 81, 45, 37, 46, 142, 143, 144, 145] (by decide +kernel) (by decide +kernel)
set_option maxRecDepth 20000 in
theorem gX8_count_X0_allChips : GoodIn wsX8_count (wsV RX8 255 RX0 yX0_allChips wsX0_allChips) := goodIn_app (goodIn_of _ (by decide +kernel)) ggX8_count_X0_allChips
set_option maxRecDepth 20000 in
theorem ggX8_count_X0_kindsOfChips : GoodIn wsX8_count wsX0_kindsOfChips := goodIn_r _ [85, 79, 80, 81, 45, 37, 46, 142, 143, 144, 145] (by decide +kernel) (by decide +kernel)
set_option maxRecDepth 20000 in
theorem gX8_count_X0_kindsOfChips : GoodIn wsX8_count (wsV RX8 258 RX0 yX0_kindsOfChips wsX0_kindsOfChips) := goodIn_app (goodIn_of _ (by decide +kernel)) ggX8_count_X0_kindsOfChips
set_option maxRecDepth 20000 in
theorem ggX8_count_X6_differentPrimes : GoodIn wsX8_count wsX6_differentPrimes := goodIn_r _ [89, 10, 16, 17, 18, 8, 19, 20, 90, 91, 23, 92, 93, 26, 27, 94, 95, 96, 97, 25, 98, 99, 100, 101, 102, 103, 104, 105, 106, 122, 123, 124, 125, 126, 127] (by decide +kernel) (by decide +kernel)
set_option maxRecDepth 20000 in
theorem gX8_count_X6_differentPrimes : GoodIn wsX8_count (wsV RX8 264 RX6 yX6_differentPrimes wsX6_differentPrimes) := goodIn_app (goodIn_of _ (by decide +kernel)) ggX8_count_X6_differentPrimes
set_option maxRecDepth 20000 in
theorem ggX8_count_X6_ones : GoodIn wsX8_count wsX6_ones := goodIn_r _ [110, 10, 16, 17, 18, 8, 19, 20, 122, 123, 124, 125, 126, 127] (by decide +kernel) (by decide +kernel)
set_option maxRecDepth 20000 in
theorem gX8_count_X6_ones : GoodIn wsX8_count (wsV RX8 267 RX6 yX6_ones wsX6_ones) := goodIn_app (goodIn_of _ (by decide +kernel)) ggX8_count_X6_ones
theorem dX8_count_0 : decode cX8_count 0 = .ok (.iload_n 1, 1) := by decide +kernel
theorem dX8_count_1 : decode cX8_count 1 = .ok (.tableswitch 219 0 13 #[71, 79, 87, 106, 125, 141, 152, 163, 171, 179, 187, 195, 203, 211], 71) := by decide +kernel
theorem dX8_count_72 : decode cX8_count 72 = .ok (.aload_n 0, 1) := by decide +kernel
theorem dX8_count_73 : decode cX8_count 73 = .ok (.getfield 10, 3) := by decide +kernel
theorem dX8_count_76 : decode cX8_count 76 = .ok (.getfield 97, 3) := by decide +kernel
theorem dX8_count_79 : decode cX8_count 79 = .ok (.ireturn, 1) := by decide +kernel
theorem dX8_count_80 : decode cX8_count 80 = .ok (.aload_n 0, 1) := by decide +kernel
theorem dX8_count_81 : decode cX8_count 81 = .ok (.getfield 10, 3) := by decide +kernel
theorem dX8_count_84 : decode cX8_count 84 = .ok (.invokevirtual 242, 3) := by decide +kernel
theorem dX8_count_87 : decode cX8_count 87 = .ok (.ireturn, 1) := by decide +kernel
theorem dX8_count_88 : decode cX8_count 88 = .ok (.aload_n 0, 1) := by decide +kernel
theorem dX8_count_89 : decode cX8_count 89 = .ok (.getfield 39, 3) := by decide +kernel
theorem dX8_count_92 : decode cX8_count 92 = .ok (.aload_n 0, 1) := by decide +kernel
theorem dX8_count_93 : decode cX8_count 93 = .ok (.getfield 10, 3) := by decide +kernel
theorem dX8_count_96 : decode cX8_count 96 = .ok (.invokevirtual 147, 3) := by decide +kernel
theorem dX8_count_99 : decode cX8_count 99 = .ok (.aload_n 0, 1) := by decide +kernel
theorem dX8_count_100 : decode cX8_count 100 = .ok (.getfield 39, 3) := by decide +kernel
theorem dX8_count_103 : decode cX8_count 103 = .ok (.invokevirtual 245, 3) := by decide +kernel
theorem dX8_count_106 : decode cX8_count 106 = .ok (.ireturn, 1) := by decide +kernel
theorem dX8_count_107 : decode cX8_count 107 = .ok (.aload_n 0, 1) := by decide +kernel
theorem dX8_count_108 : decode cX8_count 108 = .ok (.getfield 39, 3) := by decide +kernel
theorem dX8_count_111 : decode cX8_count 111 = .ok (.aload_n 0, 1) := by decide +kernel
theorem dX8_count_112 : decode cX8_count 112 = .ok (.getfield 10, 3) := by decide +kernel
theorem dX8_count_115 : decode cX8_count 115 = .ok (.invokevirtual 147, 3) := by decide +kernel
theorem dX8_count_118 : decode cX8_count 118 = .ok (.aload_n 0, 1) := by decide +kernel
theorem dX8_count_119 : decode cX8_count 119 = .ok (.getfield 39, 3) := by decide +kernel
theorem dX8_count_122 : decode cX8_count 122 = .ok (.invokevirtual 248, 3) := by decide +kernel
theorem dX8_count_125 : decode cX8_count 125 = .ok (.ireturn, 1) := by decide +kernel
theorem dX8_count_126 : decode cX8_count 126 = .ok (.aload_n 0, 1) := by decide +kernel
theorem dX8_count_127 : decode cX8_count 127 = .ok (.getfield 10, 3) := by decide +kernel
theorem dX8_count_130 : decode cX8_count 130 = .ok (.invokevirtual 251, 3) := by decide +kernel
theorem dX8_count_133 : decode cX8_count 133 = .ok (.ifCond .eq 7, 3) := by decide +kernel
theorem dX8_count_136 : decode cX8_count 136 = .ok (.iconst 1, 1) := by decide +kernel
theorem dX8_count_137 : decode cX8_count 137 = .ok (.goto 4, 3) := by decide +kernel
theorem dX8_count_140 : decode cX8_count 140 = .ok (.iconst 0, 1) := by decide +kernel
theorem dX8_count_141 : decode cX8_count 141 = .ok (.ireturn, 1) := by decide +kernel
theorem dX8_count_142 : decode cX8_count 142 = .ok (.aload_n 0, 1) := by decide +kernel
theorem dX8_count_143 : decode cX8_count 143 = .ok (.getfield 10, 3) := by decide +kernel
theorem dX8_count_146 : decode cX8_count 146 = .ok (.getfield 221, 3) := by decide +kernel
theorem dX8_count_149 : decode cX8_count 149 = .ok (.invokevirtual 255, 3) := by decide +kernel
theorem dX8_count_152 : decode cX8_count 152 = .ok (.ireturn, 1) := by decide +kernel
theorem dX8_count_153 : decode cX8_count 153 = .ok (.aload_n 0, 1) := by decide +kernel
theorem dX8_count_154 : decode cX8_count 154 = .ok (.getfield 10, 3) := by decide +kernel
theorem dX8_count_157 : decode cX8_count 157 = .ok (.getfield 221, 3) := by decide +kernel
theorem dX8_count_160 : decode cX8_count 160 = .ok (.invokevirtual 258, 3) := by decide +kernel
theorem dX8_count_163 : decode cX8_count 163 = .ok (.ireturn, 1) := by decide +kernel
theorem dX8_count_164 : decode cX8_count 164 = .ok (.aload_n 0, 1) := by decide +kernel
theorem dX8_count_165 : decode cX8_count 165 = .ok (.getfield 10, 3) := by decide +kernel
theorem dX8_count_168 : decode cX8_count 168 = .ok (.getfield 261, 3) := by decide +kernel
theorem dX8_count_171 : decode cX8_count 171 = .ok (.ireturn, 1) := by decide +kernel
theorem dX8_count_172 : decode cX8_count 172 = .ok (.aload_n 0, 1) := by decide +kernel
theorem dX8_count_173 : decode cX8_count 173 = .ok (.getfield 10, 3) := by decide +kernel
theorem dX8_count_176 : decode cX8_count 176 = .ok (.invokevirtual 264, 3) := by decide +kernel
theorem dX8_count_179 : decode cX8_count 179 = .ok (.ireturn, 1) := by decide +kernel
theorem dX8_count_180 : decode cX8_count 180 = .ok (.aload_n 0, 1) := by decide +kernel
theorem dX8_count_181 : decode cX8_count 181 = .ok (.getfield 10, 3) := by decide +kernel
theorem dX8_count_184 : decode cX8_count 184 = .ok (.invokevirtual 267, 3) := by decide +kernel
theorem dX8_count_187 : decode cX8_count 187 = .ok (.ireturn, 1) := by decide +kernel
theorem dX8_count_188 : decode cX8_count 188 = .ok (.aload_n 0, 1) := by decide +kernel
theorem dX8_count_189 : decode cX8_count 189 = .ok (.getfield 10, 3) := by decide +kernel
theorem dX8_count_192 : decode cX8_count 192 = .ok (.getfield 270, 3) := by decide +kernel
theorem dX8_count_195 : decode cX8_count 195 = .ok (.ireturn, 1) := by decide +kernel
theorem dX8_count_196 : decode cX8_count 196 = .ok (.aload_n 0, 1) := by decide +kernel
theorem dX8_count_197 : decode cX8_count 197 = .ok (.getfield 10, 3) := by decide +kernel
theorem dX8_count_200 : decode cX8_count 200 = .ok (.getfield 273, 3) := by decide +kernel
theorem dX8_count_203 : decode cX8_count 203 = .ok (.ireturn, 1) := by decide +kernel
theorem dX8_count_204 : decode cX8_count 204 = .ok (.aload_n 0, 1) := by decide +kernel
theorem dX8_count_205 : decode cX8_count 205 = .ok (.getfield 32, 3) := by decide +kernel
theorem dX8_count_208 : decode cX8_count 208 = .ok (.getfield 276, 3) := by decide +kernel
theorem dX8_count_211 : decode cX8_count 211 = .ok (.ireturn, 1) := by decide +kernel
theorem dX8_count_212 : decode cX8_count 212 = .ok (.aload_n 0, 1) := by decide +kernel
theorem dX8_count_213 : decode cX8_count 213 = .ok (.getfield 25, 3) := by decide +kernel
theorem dX8_count_216 : decode cX8_count 216 = .ok (.getfield 277, 3) := by decide +kernel
theorem dX8_count_219 : decode cX8_count 219 = .ok (.ireturn, 1) := by decide +kernel
theorem dX8_count_220 : decode cX8_count 220 = .ok (.iconst (-1), 1) := by decide +kernel
theorem dX8_count_221 : decode cX8_count 221 = .ok (.ireturn, 1) := by decide +kernel
set_option maxRecDepth 20000 in
theorem ggX8_mean_X6_kinOf : GoodIn wsX8_mean wsX6_kinOf := goodIn_r _ [6, 7, 8, 9, 10, 5, 11, 12, 13, 14, 15, 16, 17, 18, 19, 20, 21, 22, 23, 24, 36, 37, 38, 39, 40, 41] (by decide +kernel) (by decide +kernel)
set_option maxRecDepth 20000 in
theorem gX8_mean_X6_kinOf : GoodIn wsX8_mean (wsV RX8 144 RX6 yX6_kinOf wsX6_kinOf) := goodIn_app (goodIn_of _ (by decide +kernel)) ggX8_mean_X6_kinOf
theorem dX8_mean_0 : decode cX8_mean 0 = .ok (.aload_n 0, 1) := by decide +kernel
theorem dX8_mean_1 : decode cX8_mean 1 = .ok (.getfield 10, 3) := by decide +kernel
theorem dX8_mean_4 : decode cX8_mean 4 = .ok (.getfield 97, 3) := by decide +kernel
theorem dX8_mean_7 : decode cX8_mean 7 = .ok (.ifCond .ne 5, 3) := by decide +kernel
theorem dX8_mean_10 : decode cX8_mean 10 = .ok (.dconst 0, 1) := by decide +kernel
theorem dX8_mean_11 : decode cX8_mean 11 = .ok (.dreturn, 1) := by decide +kernel
theorem dX8_mean_12 : decode cX8_mean 12 = .ok (.iconst 0, 1) := by decide +kernel
theorem dX8_mean_13 : decode cX8_mean 13 = .ok (.istore_n 1, 1) := by decide +kernel
theorem dX8_mean_14 : decode cX8_mean 14 = .ok (.iconst 0, 1) := by decide +kernel
theorem dX8_mean_15 : decode cX8_mean 15 = .ok (.istore_n 2, 1) := by decide +kernel
theorem dX8_mean_16 : decode cX8_mean 16 = .ok (.iload_n 2, 1) := by decide +kernel
theorem dX8_mean_17 : decode cX8_mean 17 = .ok (.aload_n 0, 1) := by decide +kernel
theorem dX8_mean_18 : decode cX8_mean 18 = .ok (.getfield 10, 3) := by decide +kernel
theorem dX8_mean_21 : decode cX8_mean 21 = .ok (.getfield 97, 3) := by decide +kernel
theorem dX8_mean_24 : decode cX8_mean 24 = .ok (.if_icmp .ge 20, 3) := by decide +kernel
theorem dX8_mean_27 : decode cX8_mean 27 = .ok (.iload_n 1, 1) := by decide +kernel
