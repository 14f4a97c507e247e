theorem dX9_fault_69 : decode cX9_fault 69 = .ok (.iload_n 1, 1) := by decide +kernel
theorem dX9_fault_70 : decode cX9_fault 70 = .ok (.ifCond .ne 8, 3) := by decide +kernel
theorem dX9_fault_73 : decode cX9_fault 73 = .ok (.bipush 44, 2) := by decide +kernel
theorem dX9_fault_75 : decode cX9_fault 75 = .ok (.goto 5, 3) := by decide +kernel
theorem dX9_fault_78 : decode cX9_fault 78 = .ok (.bipush 59, 2) := by decide +kernel
theorem dX9_fault_80 : decode cX9_fault 80 = .ok (.invokevirtual 147, 3) := by decide +kernel
theorem dX9_fault_83 : decode cX9_fault 83 = .ok (.istore_n 2, 1) := by decide +kernel
theorem dX9_fault_84 : decode cX9_fault 84 = .ok (.goto (-61), 3) := by decide +kernel
theorem dX9_fault_87 : decode cX9_fault 87 = .ok (.aload_n 0, 1) := by decide +kernel
theorem dX9_fault_88 : decode cX9_fault 88 = .ok (.getfield 135, 3) := by decide +kernel
theorem dX9_fault_91 : decode cX9_fault 91 = .ok (.aload_n 0, 1) := by decide +kernel
theorem dX9_fault_92 : decode cX9_fault 92 = .ok (.getfield 132, 3) := by decide +kernel
theorem dX9_fault_95 : decode cX9_fault 95 = .ok (.if_icmp .ne 8, 3) := by decide +kernel
theorem dX9_fault_98 : decode cX9_fault 98 = .ok (.bipush (-4), 2) := by decide +kernel
theorem dX9_fault_100 : decode cX9_fault 100 = .ok (.goto 7, 3) := by decide +kernel
theorem dX9_fault_103 : decode cX9_fault 103 = .ok (.aload_n 0, 1) := by decide +kernel
theorem dX9_fault_104 : decode cX9_fault 104 = .ok (.getfield 135, 3) := by decide +kernel
theorem dX9_fault_107 : decode cX9_fault 107 = .ok (.ireturn, 1) := by decide +kernel
set_option maxRecDepth 20000 in
theorem ggX9_read_X9_fault : GoodIn wsX9_read wsX9_fault := goodIn_r _ [9, 10, 2, 4, 11, 12, 8, 13, 14, 15, 16, 17, 18, 3, 19, 20, 21, 22, 23, 24, 25, 26, 27, 28, 29, 30, 42, 43, 44, 45, 46, 47, 48, 49, 50, 51, 52, 53, 54, 55, 56, 57, 58, 59] (by decide +kernel) (by decide +kernel)
set_option maxRecDepth 20000 in
theorem gX9_read_X9_fault : GoodIn wsX9_read (wsV RX9 153 RX9 yX9_fault wsX9_fault) := goodIn_app (goodIn_of _ (by decide +kernel)) ggX9_read_X9_fault
set_option maxRecDepth 20000 in
theorem ggX9_read_X9_changes : GoodIn wsX9_read wsX9_changes := goodIn_r _ [34, 35, 36, 37, 1, 42, 43, 44, 45, 46, 47, 48, 49, 50, 51, 52, 53, 54, 55, 56, 57, 58, 59] (by decide +kernel) (by decide +kernel)
set_option maxRecDepth 20000 in
theorem gX9_read_X9_changes : GoodIn wsX9_read (wsV RX9 79 RX9 yX9_changes wsX9_changes) := goodIn_app (goodIn_of _ (by decide +kernel)) ggX9_read_X9_changes
set_option maxRecDepth 20000 in
theorem ggX9_read_X9_puts : GoodIn wsX9_read wsX9_puts := goodIn_r _ [41, 1, 42, 43, 44, 45, 46, 47, 48, 49, 50, 51, 52, 53, 54, 55, 56, 57, 58, 59] (by decide +kernel) (by decide +kernel)
set_option maxRecDepth 20000 in
theorem gX9_read_X9_puts : GoodIn wsX9_read (wsV RX9 82 RX9 yX9_puts wsX9_puts) := goodIn_app (goodIn_of _ (by decide +kernel)) ggX9_read_X9_puts
theorem dX9_read_0 : decode cX9_read 0 = .ok (.aload_n 0, 1) := by decide +kernel
theorem dX9_read_1 : decode cX9_read 1 = .ok (.iconst 0, 1) := by decide +kernel
theorem dX9_read_2 : decode cX9_read 2 = .ok (.invokevirtual 153, 3) := by decide +kernel
theorem dX9_read_5 : decode cX9_read 5 = .ok (.bipush (-4), 2) := by decide +kernel
theorem dX9_read_7 : decode cX9_read 7 = .ok (.if_icmp .eq 6, 3) := by decide +kernel
theorem dX9_read_10 : decode cX9_read 10 = .ok (.bipush (-2), 2) := by decide +kernel
theorem dX9_read_12 : decode cX9_read 12 = .ok (.ireturn, 1) := by decide +kernel
theorem dX9_read_13 : decode cX9_read 13 = .ok (.aload_n 0, 1) := by decide +kernel
theorem dX9_read_14 : decode cX9_read 14 = .ok (.getfield 7, 3) := by decide +kernel
theorem dX9_read_17 : decode cX9_read 17 = .ok (.iconst 2, 1) := by decide +kernel
theorem dX9_read_18 : decode cX9_read 18 = .ok (.iaload, 1) := by decide +kernel
theorem dX9_read_19 : decode cX9_read 19 = .ok (.aload_n 0, 1) := by decide +kernel
theorem dX9_read_20 : decode cX9_read 20 = .ok (.getfield 141, 3) := by decide +kernel
theorem dX9_read_23 : decode cX9_read 23 = .ok (.iadd, 1) := by decide +kernel
theorem dX9_read_24 : decode cX9_read 24 = .ok (.bipush 12, 2) := by decide +kernel
theorem dX9_read_26 : decode cX9_read 26 = .ok (.if_icmp .le 6, 3) := by decide +kernel
theorem dX9_read_29 : decode cX9_read 29 = .ok (.bipush (-3), 2) := by decide +kernel
theorem dX9_read_31 : decode cX9_read 31 = .ok (.ireturn, 1) := by decide +kernel
theorem dX9_read_32 : decode cX9_read 32 = .ok (.aload_n 0, 1) := by decide +kernel
theorem dX9_read_33 : decode cX9_read 33 = .ok (.invokevirtual 79, 3) := by decide +kernel
theorem dX9_read_36 : decode cX9_read 36 = .ok (.iconst 0, 1) := by decide +kernel
theorem dX9_read_37 : decode cX9_read 37 = .ok (.istore_n 1, 1) := by decide +kernel
theorem dX9_read_38 : decode cX9_read 38 = .ok (.iload_n 1, 1) := by decide +kernel
theorem dX9_read_39 : decode cX9_read 39 = .ok (.aload_n 0, 1) := by decide +kernel
theorem dX9_read_40 : decode cX9_read 40 = .ok (.getfield 141, 3) := by decide +kernel
theorem dX9_read_43 : decode cX9_read 43 = .ok (.if_icmp .ge 29, 3) := by decide +kernel
theorem dX9_read_46 : decode cX9_read 46 = .ok (.aload_n 0, 1) := by decide +kernel
theorem dX9_read_47 : decode cX9_read 47 = .ok (.aload_n 0, 1) := by decide +kernel
theorem dX9_read_48 : decode cX9_read 48 = .ok (.getfield 7, 3) := by decide +kernel
theorem dX9_read_51 : decode cX9_read 51 = .ok (.iconst 2, 1) := by decide +kernel
theorem dX9_read_52 : decode cX9_read 52 = .ok (.iaload, 1) := by decide +kernel
theorem dX9_read_53 : decode cX9_read 53 = .ok (.aload_n 0, 1) := by decide +kernel
theorem dX9_read_54 : decode cX9_read 54 = .ok (.getfield 34, 3) := by decide +kernel
theorem dX9_read_57 : decode cX9_read 57 = .ok (.iconst 4, 1) := by decide +kernel
theorem dX9_read_58 : decode cX9_read 58 = .ok (.iload_n 1, 1) := by decide +kernel
theorem dX9_read_59 : decode cX9_read 59 = .ok (.imul, 1) := by decide +kernel
theorem dX9_read_60 : decode cX9_read 60 = .ok (.iconst 1, 1) := by decide +kernel
theorem dX9_read_61 : decode cX9_read 61 = .ok (.iadd, 1) := by decide +kernel
theorem dX9_read_62 : decode cX9_read 62 = .ok (.iaload, 1) := by decide +kernel
theorem dX9_read_63 : decode cX9_read 63 = .ok (.invokevirtual 82, 3) := by decide +kernel
theorem dX9_read_66 : decode cX9_read 66 = .ok (.iinc 1 1, 3) := by decide +kernel
theorem dX9_read_69 : decode cX9_read 69 = .ok (.goto (-31), 3) := by decide +kernel
theorem dX9_read_72 : decode cX9_read 72 = .ok (.aload_n 0, 1) := by decide +kernel
theorem dX9_read_73 : decode cX9_read 73 = .ok (.iconst 0, 1) := by decide +kernel
theorem dX9_read_74 : decode cX9_read 74 = .ok (.putfield 132, 3) := by decide +kernel
theorem dX9_read_77 : decode cX9_read 77 = .ok (.aload_n 0, 1) := by decide +kernel
theorem dX9_read_78 : decode cX9_read 78 = .ok (.getfield 7, 3) := by decide +kernel
theorem dX9_read_81 : decode cX9_read 81 = .ok (.iconst 2, 1) := by decide +kernel
theorem dX9_read_82 : decode cX9_read 82 = .ok (.iaload, 1) := by decide +kernel
theorem dX9_read_83 : decode cX9_read 83 = .ok (.ireturn, 1) := by decide +kernel
set_option maxRecDepth 20000 in
theorem ggX9_does_X9_share : GoodIn wsX9_does wsX9_share := goodIn_r _ [6, 7, 8, 9, 5, 10, 11, 12, 13, 14, 15, 16, 17, 18, 19, 20, 21, 22, 23, 24, 25, 26, 27, 28, 29, 30, 31, 32, 33, 34, 35, 36, 77, 78, 79, 80, 81, 82, 83, 84, 85, 86, 87, 88, 89, 90, 91, 92, 93, 94] (by decide +kernel) (by decide +kernel)
set_option maxRecDepth 20000 in
theorem gX9_does_X9_share : GoodIn wsX9_does (wsV RX9 156 RX9 yX9_share wsX9_share) := goodIn_app (goodIn_of _ (by decide +kernel)) ggX9_does_X9_share
set_option maxRecDepth 20000 in
theorem ggX9_does_X9_divide : GoodIn wsX9_does wsX9_divide := goodIn_r _ [40, 41, 42, 43, 5, 44, 11, 12, 13, 14, 19, 20, 21, 22, 26, 27, 28, 29, 30, 31, 32, 45, 46, 47, 48, 49, 50, 51, 52, 53, 54, 55, 56, 57, 58, 59, 60, 61, 62, 63, 64, 77, 78, 79, 80, 81, 82, 83, 84, 85, 86, 87, 88, 89, 90, 91, 92, 93, 94] (by decide +kernel) (by decide +kernel)
set_option maxRecDepth 20000 in
theorem gX9_does_X9_divide : GoodIn wsX9_does (wsV RX9 159 RX9 yX9_divide wsX9_divide) := goodIn_app (goodIn_of _ (by decide +kernel)) ggX9_does_X9_divide
set_option maxRecDepth 20000 in
theorem ggX9_does_X9_strike : GoodIn wsX9_does wsX9_strike := goodIn_r _ [68, 69, 70, 71, 5, 72, 11, 12, 13, 14, 52, 53, 54, 55, 56, 19, 20, 21, 22, 26, 27, 28, 29, 30, 31, 32, 73, 74, 75, 76, 57, 58, 59, 60, 61, 62, 63, 64, 77, 78, 79, 80, 81, 82, 83, 84, 85, 86, 87, 88, 89, 90, 91, 92, 93, 94] (by decide +kernel) (by decide +kernel)
set_option maxRecDepth 20000 in
theorem gX9_does_X9_strike : GoodIn wsX9_does (wsV RX9 162 RX9 yX9_strike wsX9_strike) := goodIn_app (goodIn_of _ (by decide +kernel)) ggX9_does_X9_strike
theorem dX9_does_0 : decode cX9_does 0 = .ok (.aload_n 0, 1) := by decide +kernel
theorem dX9_does_1 : decode cX9_does 1 = .ok (.getfield 34, 3) := by decide +kernel
theorem dX9_does_4 : decode cX9_does 4 = .ok (.iconst 4, 1) := by decide +kernel
theorem dX9_does_5 : decode cX9_does 5 = .ok (.iload_n 1, 1) := by decide +kernel
theorem dX9_does_6 : decode cX9_does 6 = .ok (.imul, 1) := by decide +kernel
theorem dX9_does_7 : decode cX9_does 7 = .ok (.iconst 1, 1) := by decide +kernel
theorem dX9_does_8 : decode cX9_does 8 = .ok (.iadd, 1) := by decide +kernel
theorem dX9_does_9 : decode cX9_does 9 = .ok (.iaload, 1) := by decide +kernel
theorem dX9_does_10 : decode cX9_does 10 = .ok (.istore_n 2, 1) := by decide +kernel
theorem dX9_does_11 : decode cX9_does 11 = .ok (.aload_n 0, 1) := by decide +kernel
theorem dX9_does_12 : decode cX9_does 12 = .ok (.getfield 34, 3) := by decide +kernel
theorem dX9_does_15 : decode cX9_does 15 = .ok (.iconst 4, 1) := by decide +kernel
theorem dX9_does_16 : decode cX9_does 16 = .ok (.iload_n 1, 1) := by decide +kernel
theorem dX9_does_17 : decode cX9_does 17 = .ok (.imul, 1) := by decide +kernel
theorem dX9_does_18 : decode cX9_does 18 = .ok (.iaload, 1) := by decide +kernel
theorem dX9_does_19 : decode cX9_does 19 = .ok (.lookupswitch 37 #[(100, 31), (115, 25)], 25) := by decide +kernel
theorem dX9_does_44 : decode cX9_does 44 = .ok (.aload_n 0, 1) := by decide +kernel
theorem dX9_does_45 : decode cX9_does 45 = .ok (.iload_n 2, 1) := by decide +kernel
theorem dX9_does_46 : decode cX9_does 46 = .ok (.invokevirtual 156, 3) := by decide +kernel
theorem dX9_does_49 : decode cX9_does 49 = .ok (.ireturn, 1) := by decide +kernel
theorem dX9_does_50 : decode cX9_does 50 = .ok (.aload_n 0, 1) := by decide +kernel
theorem dX9_does_51 : decode cX9_does 51 = .ok (.iload_n 2, 1) := by decide +kernel
theorem dX9_does_52 : decode cX9_does 52 = .ok (.invokevirtual 159, 3) := by decide +kernel
theorem dX9_does_55 : decode cX9_does 55 = .ok (.ireturn, 1) := by decide +kernel
theorem dX9_does_56 : decode cX9_does 56 = .ok (.aload_n 0, 1) := by decide +kernel
theorem dX9_does_57 : decode cX9_does 57 = .ok (.iload_n 2, 1) := by decide +kernel
theorem dX9_does_58 : decode cX9_does 58 = .ok (.aload_n 0, 1) := by decide +kernel
theorem dX9_does_59 : decode cX9_does 59 = .ok (.getfield 34, 3) := by decide +kernel
theorem dX9_does_62 : decode cX9_does 62 = .ok (.iconst 4, 1) := by decide +kernel
theorem dX9_does_63 : decode cX9_does 63 = .ok (.iload_n 1, 1) := by decide +kernel
theorem dX9_does_64 : decode cX9_does 64 = .ok (.imul, 1) := by decide +kernel
theorem dX9_does_65 : decode cX9_does 65 = .ok (.iconst 2, 1) := by decide +kernel
theorem dX9_does_66 : decode cX9_does 66 = .ok (.iadd, 1) := by decide +kernel
theorem dX9_does_67 : decode cX9_does 67 = .ok (.iaload, 1) := by decide +kernel
theorem dX9_does_68 : decode cX9_does 68 = .ok (.invokevirtual 162, 3) := by decide +kernel
theorem dX9_does_71 : decode cX9_does 71 = .ok (.ireturn, 1) := by decide +kernel
set_option maxRecDepth 20000 in
theorem ggX9_carryOut_X9_fault : GoodIn wsX9_carryOut wsX9_fault := goodIn_r _ [11, 12, 4, 1, 13, 14, 10, 15, 16, 17, 18, 19, 20, 6, 21, 22, 23, 24, 25, 26, 27, 28, 29, 30, 31, 32, 107, 108, 109, 110, 111, 112, 113, 114, 115, 116, 117, 118, 119, 120, 121, 122, 123, 124] (by decide +kernel) (by decide +kernel)
set_option maxRecDepth 20000 in
theorem gX9_carryOut_X9_fault : GoodIn wsX9_carryOut (wsV RX9 153 RX9 yX9_fault wsX9_fault) := goodIn_app (goodIn_of _ (by decide +kernel)) ggX9_carryOut_X9_fault
set_option maxRecDepth 20000 in
theorem ggX9_carryOut_X9_changes : GoodIn wsX9_carryOut wsX9_changes := goodIn_r _ [36, 2, 37, 38, 39, 107, 108, 109, 110, 111, 112, 113, 114, 115, 116, 117, 118, 119, 120, 121, 122, 123, 124] (by decide +kernel) (by decide +kernel)
set_option maxRecDepth 20000 in
theorem gX9_carryOut_X9_changes : GoodIn wsX9_carryOut (wsV RX9 79 RX9 yX9_changes wsX9_changes) := goodIn_app (goodIn_of _ (by decide +kernel)) ggX9_carryOut_X9_changes
set_option maxRecDepth 20000 in
theorem ggX9_carryOut_X9_does : GoodIn wsX9_carryOut wsX9_does := goodIn_r _ [43, 6, 44, 45, 46, 10, 47, 48, 49, 50, 51, 39, 13, 14, 15, 52, 53, 54, 55, 56, 57, 58, 59, 60, 61, 62, 33, 34, 35, 36, 2, 37, 38, 63, 64, 65, 66, 67, 68, 69, 70, 71, 72, 73, 74, 75, 76, 77, 78, 79, 80, 81, 82, 83, 84, 85, 86, 87, 88, 89, 90, 91, 92, 93, 94, 95, 96, 97, 98, 99, 100, 101, 102, 103, 104, 105, 106, 107, 108, 109, 110, 111, 112, 113, 114, 115, 116, 117, 118, 119, 120, 121, 122, 123, 124] (by decide +kernel) (by decide +kernel)
set_option maxRecDepth 20000 in
theorem gX9_carryOut_X9_does : GoodIn wsX9_carryOut (wsV RX9 168 RX9 yX9_does wsX9_does) := goodIn_app (goodIn_of _ (by decide +kernel)) ggX9_carryOut_X9_does
theorem dX9_carryOut_0 : decode cX9_carryOut 0 = .ok (.aload_n 0, 1) := by decide +kernel
theorem dX9_carryOut_1 : decode cX9_carryOut 1 = .ok (.iconst 1, 1) := by decide +kernel
theorem dX9_carryOut_2 : decode cX9_carryOut 2 = .ok (.invokevirtual 153, 3) := by decide +kernel
theorem dX9_carryOut_5 : decode cX9_carryOut 5 = .ok (.bipush (-4), 2) := by decide +kernel
theorem dX9_carryOut_7 : decode cX9_carryOut 7 = .ok (.if_icmp .eq 6, 3) := by decide +kernel
theorem dX9_carryOut_10 : decode cX9_carryOut 10 = .ok (.bipush (-2), 2) := by decide +kernel
theorem dX9_carryOut_12 : decode cX9_carryOut 12 = .ok (.ireturn, 1) := by decide +kernel
theorem dX9_carryOut_13 : decode cX9_carryOut 13 = .ok (.aload_n 0, 1) := by decide +kernel
theorem dX9_carryOut_14 : decode cX9_carryOut 14 = .ok (.invokevirtual 79, 3) := by decide +kernel
theorem dX9_carryOut_17 : decode cX9_carryOut 17 = .ok (.aload_n 0, 1) := by decide +kernel
theorem dX9_carryOut_18 : decode cX9_carryOut 18 = .ok (.iconst 0, 1) := by decide +kernel
theorem dX9_carryOut_19 : decode cX9_carryOut 19 = .ok (.putfield 132, 3) := by decide +kernel
theorem dX9_carryOut_22 : decode cX9_carryOut 22 = .ok (.aload_n 0, 1) := by decide +kernel
theorem dX9_carryOut_23 : decode cX9_carryOut 23 = .ok (.iconst 1, 1) := by decide +kernel
theorem dX9_carryOut_24 : decode cX9_carryOut 24 = .ok (.putfield 43, 3) := by decide +kernel
theorem dX9_carryOut_27 : decode cX9_carryOut 27 = .ok (.aload_n 0, 1) := by decide +kernel
theorem dX9_carryOut_28 : decode cX9_carryOut 28 = .ok (.iconst 0, 1) := by decide +kernel
theorem dX9_carryOut_29 : decode cX9_carryOut 29 = .ok (.putfield 165, 3) := by decide +kernel
theorem dX9_carryOut_32 : decode cX9_carryOut 32 = .ok (.iconst 0, 1) := by decide +kernel
theorem dX9_carryOut_33 : decode cX9_carryOut 33 = .ok (.istore_n 1, 1) := by decide +kernel
theorem dX9_carryOut_34 : decode cX9_carryOut 34 = .ok (.iload_n 1, 1) := by decide +kernel
theorem dX9_carryOut_35 : decode cX9_carryOut 35 = .ok (.aload_n 0, 1) := by decide +kernel
theorem dX9_carryOut_36 : decode cX9_carryOut 36 = .ok (.getfield 141, 3) := by decide +kernel
theorem dX9_carryOut_39 : decode cX9_carryOut 39 = .ok (.if_icmp .ge 77, 3) := by decide +kernel
theorem dX9_carryOut_42 : decode cX9_carryOut 42 = .ok (.aload_n 0, 1) := by decide +kernel
theorem dX9_carryOut_43 : decode cX9_carryOut 43 = .ok (.getfield 165, 3) := by decide +kernel
theorem dX9_carryOut_46 : decode cX9_carryOut 46 = .ok (.ifCond .ne 70, 3) := by decide +kernel
theorem dX9_carryOut_49 : decode cX9_carryOut 49 = .ok (.aload_n 0, 1) := by decide +kernel
theorem dX9_carryOut_50 : decode cX9_carryOut 50 = .ok (.iload_n 1, 1) := by decide +kernel
theorem dX9_carryOut_51 : decode cX9_carryOut 51 = .ok (.invokevirtual 168, 3) := by decide +kernel
theorem dX9_carryOut_54 : decode cX9_carryOut 54 = .ok (.istore_n 2, 1) := by decide +kernel
theorem dX9_carryOut_55 : decode cX9_carryOut 55 = .ok (.aload_n 0, 1) := by decide +kernel
theorem dX9_carryOut_56 : decode cX9_carryOut 56 = .ok (.iload_n 2, 1) := by decide +kernel
theorem dX9_carryOut_57 : decode cX9_carryOut 57 = .ok (.ifCond .ge 7, 3) := by decide +kernel
theorem dX9_carryOut_60 : decode cX9_carryOut 60 = .ok (.iconst 1, 1) := by decide +kernel
theorem dX9_carryOut_61 : decode cX9_carryOut 61 = .ok (.goto 4, 3) := by decide +kernel
theorem dX9_carryOut_64 : decode cX9_carryOut 64 = .ok (.iconst 0, 1) := by decide +kernel
theorem dX9_carryOut_65 : decode cX9_carryOut 65 = .ok (.putfield 165, 3) := by decide +kernel
theorem dX9_carryOut_68 : decode cX9_carryOut 68 = .ok (.aload_n 0, 1) := by decide +kernel
theorem dX9_carryOut_69 : decode cX9_carryOut 69 = .ok (.getfield 28, 3) := by decide +kernel
theorem dX9_carryOut_72 : decode cX9_carryOut 72 = .ok (.iconst 0, 1) := by decide +kernel
theorem dX9_carryOut_73 : decode cX9_carryOut 73 = .ok (.iload_n 2, 1) := by decide +kernel
theorem dX9_carryOut_74 : decode cX9_carryOut 74 = .ok (.iastore, 1) := by decide +kernel
theorem dX9_carryOut_75 : decode cX9_carryOut 75 = .ok (.aload_n 0, 1) := by decide +kernel
theorem dX9_carryOut_76 : decode cX9_carryOut 76 = .ok (.getfield 28, 3) := by decide +kernel
theorem dX9_carryOut_79 : decode cX9_carryOut 79 = .ok (.iconst 1, 1) := by decide +kernel
theorem dX9_carryOut_80 : decode cX9_carryOut 80 = .ok (.iload_n 1, 1) := by decide +kernel
theorem dX9_carryOut_81 : decode cX9_carryOut 81 = .ok (.iastore, 1) := by decide +kernel
theorem dX9_carryOut_82 : decode cX9_carryOut 82 = .ok (.aload_n 0, 1) := by decide +kernel
theorem dX9_carryOut_83 : decode cX9_carryOut 83 = .ok (.getfield 28, 3) := by decide +kernel
theorem dX9_carryOut_86 : decode cX9_carryOut 86 = .ok (.iconst 2, 1) := by decide +kernel
theorem dX9_carryOut_87 : decode cX9_carryOut 87 = .ok (.aload_n 0, 1) := by decide +kernel
theorem dX9_carryOut_88 : decode cX9_carryOut 88 = .ok (.getfield 34, 3) := by decide +kernel
theorem dX9_carryOut_91 : decode cX9_carryOut 91 = .ok (.iconst 4, 1) := by decide +kernel
theorem dX9_carryOut_92 : decode cX9_carryOut 92 = .ok (.iload_n 1, 1) := by decide +kernel
theorem dX9_carryOut_93 : decode cX9_carryOut 93 = .ok (.imul, 1) := by decide +kernel
theorem dX9_carryOut_94 : decode cX9_carryOut 94 = .ok (.iconst 3, 1) := by decide +kernel
theorem dX9_carryOut_95 : decode cX9_carryOut 95 = .ok (.iadd, 1) := by decide +kernel
theorem dX9_carryOut_96 : decode cX9_carryOut 96 = .ok (.iaload, 1) := by decide +kernel
theorem dX9_carryOut_97 : decode cX9_carryOut 97 = .ok (.iastore, 1) := by decide +kernel
theorem dX9_carryOut_98 : decode cX9_carryOut 98 = .ok (.iload_n 1, 1) := by decide +kernel
theorem dX9_carryOut_99 : decode cX9_carryOut 99 = .ok (.aload_n 0, 1) := by decide +kernel
theorem dX9_carryOut_100 : decode cX9_carryOut 100 = .ok (.getfield 165, 3) := by decide +kernel
theorem dX9_carryOut_103 : decode cX9_carryOut 103 = .ok (.ifCond .eq 7, 3) := by decide +kernel
theorem dX9_carryOut_106 : decode cX9_carryOut 106 = .ok (.iconst 0, 1) := by decide +kernel
theorem dX9_carryOut_107 : decode cX9_carryOut 107 = .ok (.goto 4, 3) := by decide +kernel
theorem dX9_carryOut_110 : decode cX9_carryOut 110 = .ok (.iconst 1, 1) := by decide +kernel
theorem dX9_carryOut_111 : decode cX9_carryOut 111 = .ok (.iadd, 1) := by decide +kernel
theorem dX9_carryOut_112 : decode cX9_carryOut 112 = .ok (.istore_n 1, 1) := by decide +kernel
theorem dX9_carryOut_113 : decode cX9_carryOut 113 = .ok (.goto (-79), 3) := by decide +kernel
theorem dX9_carryOut_116 : decode cX9_carryOut 116 = .ok (.aload_n 0, 1) := by decide +kernel
theorem dX9_carryOut_117 : decode cX9_carryOut 117 = .ok (.iconst 0, 1) := by decide +kernel
theorem dX9_carryOut_118 : decode cX9_carryOut 118 = .ok (.putfield 43, 3) := by decide +kernel
theorem dX9_carryOut_121 : decode cX9_carryOut 121 = .ok (.iload_n 1, 1) := by decide +kernel
theorem dX9_carryOut_122 : decode cX9_carryOut 122 = .ok (.ireturn, 1) := by decide +kernel
set_option maxRecDepth 20000 in
theorem ggX9_why_X9_in : GoodIn wsX9_why wsX9_in := goodIn_r _ [6] (by decide +kernel) (by decide +kernel)
set_option maxRecDepth 20000 in
theorem gX9_why_X9_in : GoodIn wsX9_why (va_wsS RX9 51 yX9_in wsX9_in) := goodIn_app (goodIn_of _ (by decide +kernel)) ggX9_why_X9_in
theorem dX9_why_0 : decode cX9_why 0 = .ok (.iload_n 1, 1) := by decide +kernel
theorem dX9_why_1 : decode cX9_why 1 = .ok (.iconst 0, 1) := by decide +kernel
theorem dX9_why_2 : decode cX9_why 2 = .ok (.iconst 2, 1) := by decide +kernel
theorem dX9_why_3 : decode cX9_why 3 = .ok (.invokestatic 51, 3) := by decide +kernel
theorem dX9_why_6 : decode cX9_why 6 = .ok (.ifCond .ne 7, 3) := by decide +kernel
theorem dX9_why_9 : decode cX9_why 9 = .ok (.iconst (-1), 1) := by decide +kernel
theorem dX9_why_10 : decode cX9_why 10 = .ok (.goto 21, 3) := by decide +kernel
theorem dX9_why_13 : decode cX9_why 13 = .ok (.aload_n 0, 1) := by decide +kernel
theorem dX9_why_14 : decode cX9_why 14 = .ok (.getfield 165, 3) := by decide +kernel
theorem dX9_why_17 : decode cX9_why 17 = .ok (.ifCond .eq 12, 3) := by decide +kernel
theorem dX9_why_20 : decode cX9_why 20 = .ok (.aload_n 0, 1) := by decide +kernel
theorem dX9_why_21 : decode cX9_why 21 = .ok (.getfield 28, 3) := by decide +kernel
theorem dX9_why_24 : decode cX9_why 24 = .ok (.iload_n 1, 1) := by decide +kernel
theorem dX9_why_25 : decode cX9_why 25 = .ok (.iaload, 1) := by decide +kernel
theorem dX9_why_26 : decode cX9_why 26 = .ok (.goto 5, 3) := by decide +kernel
theorem dX9_why_29 : decode cX9_why 29 = .ok (.bipush (-4), 2) := by decide +kernel
theorem dX9_why_31 : decode cX9_why 31 = .ok (.ireturn, 1) := by decide +kernel
set_option maxRecDepth 20000 in
theorem ggX9_ways_X9_areKin : GoodIn wsX9_ways wsX9_areKin := goodIn_r _ [6, 1, 7, 8, 9, 5, 10, 11, 12, 13, 14, 15, 16, 17, 18, 19, 20, 21, 22, 23, 24, 25, 26, 27, 28, 29, 30, 31] (by decide +kernel) (by decide +kernel)
set_option maxRecDepth 20000 in
theorem gX9_ways_X9_areKin : GoodIn wsX9_ways (wsV RX9 66 RX9 yX9_areKin wsX9_areKin) := goodIn_app (goodIn_of _ (by decide +kernel)) ggX9_ways_X9_areKin
theorem dX9_ways_0 : decode cX9_ways 0 = .ok (.iconst 0, 1) := by decide +kernel
theorem dX9_ways_1 : decode cX9_ways 1 = .ok (.istore_n 2, 1) := by decide +kernel
theorem dX9_ways_2 : decode cX9_ways 2 = .ok (.iload_n 1, 1) := by decide +kernel
theorem dX9_ways_3 : decode cX9_ways 3 = .ok (.iconst 1, 1) := by decide +kernel
theorem dX9_ways_4 : decode cX9_ways 4 = .ok (.iadd, 1) := by decide +kernel
theorem dX9_ways_5 : decode cX9_ways 5 = .ok (.istore_n 3, 1) := by decide +kernel
theorem dX9_ways_6 : decode cX9_ways 6 = .ok (.iload_n 3, 1) := by decide +kernel
theorem dX9_ways_7 : decode cX9_ways 7 = .ok (.aload_n 0, 1) := by decide +kernel
theorem dX9_ways_8 : decode cX9_ways 8 = .ok (.getfield 7, 3) := by decide +kernel
theorem dX9_ways_11 : decode cX9_ways 11 = .ok (.iconst 2, 1) := by decide +kernel
theorem dX9_ways_12 : decode cX9_ways 12 = .ok (.iaload, 1) := by decide +kernel
theorem dX9_ways_13 : decode cX9_ways 13 = .ok (.if_icmp .ge 38, 3) := by decide +kernel
theorem dX9_ways_16 : decode cX9_ways 16 = .ok (.iload_n 3, 1) := by decide +kernel
theorem dX9_ways_17 : decode cX9_ways 17 = .ok (.iload_n 1, 1) := by decide +kernel
theorem dX9_ways_18 : decode cX9_ways 18 = .ok (.aload_n 0, 1) := by decide +kernel
theorem dX9_ways_19 : decode cX9_ways 19 = .ok (.getfield 7, 3) := by decide +kernel
theorem dX9_ways_22 : decode cX9_ways 22 = .ok (.iconst 1, 1) := by decide +kernel
theorem dX9_ways_23 : decode cX9_ways 23 = .ok (.iaload, 1) := by decide +kernel
theorem dX9_ways_24 : decode cX9_ways 24 = .ok (.iadd, 1) := by decide +kernel
theorem dX9_ways_25 : decode cX9_ways 25 = .ok (.if_icmp .gt 26, 3) := by decide +kernel
theorem dX9_ways_28 : decode cX9_ways 28 = .ok (.iload_n 2, 1) := by decide +kernel
theorem dX9_ways_29 : decode cX9_ways 29 = .ok (.aload_n 0, 1) := by decide +kernel
theorem dX9_ways_30 : decode cX9_ways 30 = .ok (.iload_n 1, 1) := by decide +kernel
theorem dX9_ways_31 : decode cX9_ways 31 = .ok (.iload_n 3, 1) := by decide +kernel
theorem dX9_ways_32 : decode cX9_ways 32 = .ok (.invokevirtual 66, 3) := by decide +kernel
theorem dX9_ways_35 : decode cX9_ways 35 = .ok (.ifCond .eq 7, 3) := by decide +kernel
theorem dX9_ways_38 : decode cX9_ways 38 = .ok (.iconst 1, 1) := by decide +kernel
theorem dX9_ways_39 : decode cX9_ways 39 = .ok (.goto 4, 3) := by decide +kernel
theorem dX9_ways_42 : decode cX9_ways 42 = .ok (.iconst 0, 1) := by decide +kernel
theorem dX9_ways_43 : decode cX9_ways 43 = .ok (.iadd, 1) := by decide +kernel
theorem dX9_ways_44 : decode cX9_ways 44 = .ok (.istore_n 2, 1) := by decide +kernel
theorem dX9_ways_45 : decode cX9_ways 45 = .ok (.iinc 3 1, 3) := by decide +kernel
theorem dX9_ways_48 : decode cX9_ways 48 = .ok (.goto (-42), 3) := by decide +kernel
theorem dX9_ways_51 : decode cX9_ways 51 = .ok (.iload_n 2, 1) := by decide +kernel
theorem dX9_ways_52 : decode cX9_ways 52 = .ok (.ireturn, 1) := by decide +kernel
set_option maxRecDepth 20000 in
theorem ggX9_step_X9_isStep : GoodIn wsX9_step wsX9_isStep := goodIn_r _ [6, 7, 8, 9, 5, 10, 47, 48, 49, 50, 51, 52, 53, 54, 55, 56, 57, 58, 59, 60, 61, 62, 63, 64] (by decide +kernel) (by decide +kernel)
set_option maxRecDepth 20000 in
theorem gX9_step_X9_isStep : GoodIn wsX9_step (wsV RX9 86 RX9 yX9_isStep wsX9_isStep) := goodIn_app (goodIn_of _ (by decide +kernel)) ggX9_step_X9_isStep
set_option maxRecDepth 20000 in
theorem ggX9_step_X9_in : GoodIn wsX9_step wsX9_in := goodIn_r _ [10] (by decide +kernel) (by decide +kernel)
set_option maxRecDepth 20000 in
theorem gX9_step_X9_in : GoodIn wsX9_step (va_wsS RX9 51 yX9_in wsX9_in) := goodIn_app (goodIn_of _ (by decide +kernel)) ggX9_step_X9_in
set_option maxRecDepth 20000 in
theorem ggX9_step_X9_joins : GoodIn wsX9_step wsX9_joins := goodIn_r _ [14, 1, 7, 15, 16, 17, 5, 18, 19, 20, 21, 22, 23, 24, 25, 47, 48, 49, 50, 51, 52, 53, 54, 55, 56, 57, 58, 59, 60, 61, 62, 63, 64] (by decide +kernel) (by decide +kernel)
set_option maxRecDepth 20000 in
theorem gX9_step_X9_joins : GoodIn wsX9_step (wsV RX9 73 RX9 yX9_joins wsX9_joins) := goodIn_app (goodIn_of _ (by decide +kernel)) ggX9_step_X9_joins
set_option maxRecDepth 20000 in
theorem ggX9_step_X9_of : GoodIn wsX9_step wsX9_of := goodIn_r _ [22, 7, 47, 48, 49, 50, 51, 52, 53, 54, 55, 56, 57, 58, 59, 60, 61, 62, 63, 64] (by decide +kernel) (by decide +kernel)
set_option maxRecDepth 20000 in
theorem gX9_step_X9_of : GoodIn wsX9_step (wsV RX9 59 RX9 yX9_of wsX9_of) := goodIn_app (goodIn_of _ (by decide +kernel)) ggX9_step_X9_of
set_option maxRecDepth 20000 in
theorem ggX9_step_X9_kinOf : GoodIn wsX9_step wsX9_kinOf := goodIn_r _ [29, 7, 15, 16, 17, 5, 18, 19, 20, 21, 22, 23, 24, 25, 47, 48, 49, 50, 51, 52, 53, 54, 55, 56, 57, 58, 59, 60, 61, 62, 63, 64] (by decide +kernel) (by decide +kernel)
set_option maxRecDepth 20000 in
theorem gX9_step_X9_kinOf : GoodIn wsX9_step (wsV RX9 70 RX9 yX9_kinOf wsX9_kinOf) := goodIn_app (goodIn_of _ (by decide +kernel)) ggX9_step_X9_kinOf
set_option maxRecDepth 20000 in
theorem ggX9_step_X9_sizeOf : GoodIn wsX9_step wsX9_sizeOf := goodIn_r _ [33, 7, 1, 47, 48, 49, 50, 51, 52, 53, 54, 55, 56, 57, 58, 59, 60, 61, 62, 63, 64] (by decide +kernel) (by decide +kernel)
set_option maxRecDepth 20000 in
theorem gX9_step_X9_sizeOf : GoodIn wsX9_step (wsV RX9 76 RX9 yX9_sizeOf wsX9_sizeOf) := goodIn_app (goodIn_of _ (by decide +kernel)) ggX9_step_X9_sizeOf
set_option maxRecDepth 20000 in
theorem ggX9_step_X9_factors : GoodIn wsX9_step wsX9_factors := goodIn_r _ [36, 37, 38, 5, 39] (by decide +kernel) (by decide +kernel)
set_option maxRecDepth 20000 in
theorem gX9_step_X9_factors : GoodIn wsX9_step (va_wsS RX9 171 yX9_factors wsX9_factors) := goodIn_app (goodIn_of _ (by decide +kernel)) ggX9_step_X9_factors
set_option maxRecDepth 20000 in
theorem ggX9_step_X9_factorOf : GoodIn wsX9_step wsX9_factorOf := goodIn_r _ [42, 37, 38, 5, 39] (by decide +kernel) (by decide +kernel)
set_option maxRecDepth 20000 in
theorem gX9_step_X9_factorOf : GoodIn wsX9_step (va_wsS RX9 175 yX9_factorOf wsX9_factorOf) := goodIn_app (goodIn_of _ (by decide +kernel)) ggX9_step_X9_factorOf
set_option maxRecDepth 20000 in
theorem ggX9_step_X9_ways : GoodIn wsX9_step wsX9_ways := goodIn_r _ [46, 7, 15, 16, 17, 5, 18, 19, 20, 21, 22, 23, 24, 25, 47, 48, 49, 50, 51, 52, 53, 54, 55, 56, 57, 58, 59, 60, 61, 62, 63, 64] (by decide +kernel) (by decide +kernel)
set_option maxRecDepth 20000 in
theorem gX9_step_X9_ways : GoodIn wsX9_step (wsV RX9 178 RX9 yX9_ways wsX9_ways) := goodIn_app (goodIn_of _ (by decide +kernel)) ggX9_step_X9_ways
theorem dX9_step_0 : decode cX9_step 0 = .ok (.aload_n 0, 1) := by decide +kernel
theorem dX9_step_1 : decode cX9_step 1 = .ok (.iload_n 1, 1) := by decide +kernel
theorem dX9_step_2 : decode cX9_step 2 = .ok (.invokevirtual 86, 3) := by decide +kernel
theorem dX9_step_5 : decode cX9_step 5 = .ok (.ifCond .eq 13, 3) := by decide +kernel
theorem dX9_step_8 : decode cX9_step 8 = .ok (.iload_n 2, 1) := by decide +kernel
theorem dX9_step_9 : decode cX9_step 9 = .ok (.iconst 0, 1) := by decide +kernel
theorem dX9_step_10 : decode cX9_step 10 = .ok (.bipush 7, 2) := by decide +kernel
theorem dX9_step_12 : decode cX9_step 12 = .ok (.invokestatic 51, 3) := by decide +kernel
theorem dX9_step_15 : decode cX9_step 15 = .ok (.ifCond .ne 5, 3) := by decide +kernel
theorem dX9_step_18 : decode cX9_step 18 = .ok (.iconst (-1), 1) := by decide +kernel
theorem dX9_step_19 : decode cX9_step 19 = .ok (.ireturn, 1) := by decide +kernel
theorem dX9_step_20 : decode cX9_step 20 = .ok (.aload_n 0, 1) := by decide +kernel
theorem dX9_step_21 : decode cX9_step 21 = .ok (.invokevirtual 73, 3) := by decide +kernel
theorem dX9_step_24 : decode cX9_step 24 = .ok (.aload_n 0, 1) := by decide +kernel
theorem dX9_step_25 : decode cX9_step 25 = .ok (.iload_n 1, 1) := by decide +kernel
theorem dX9_step_26 : decode cX9_step 26 = .ok (.invokevirtual 59, 3) := by decide +kernel
theorem dX9_step_29 : decode cX9_step 29 = .ok (.istore_n 3, 1) := by decide +kernel
theorem dX9_step_30 : decode cX9_step 30 = .ok (.iload_n 2, 1) := by decide +kernel
theorem dX9_step_31 : decode cX9_step 31 = .ok (.tableswitch 91 0 6 #[41, 43, 49, 56, 67, 73, 79], 41) := by decide +kernel
theorem dX9_step_72 : decode cX9_step 72 = .ok (.iload_n 3, 1) := by decide +kernel
theorem dX9_step_73 : decode cX9_step 73 = .ok (.ireturn, 1) := by decide +kernel
theorem dX9_step_74 : decode cX9_step 74 = .ok (.aload_n 0, 1) := by decide +kernel
theorem dX9_step_75 : decode cX9_step 75 = .ok (.iload_n 1, 1) := by decide +kernel
theorem dX9_step_76 : decode cX9_step 76 = .ok (.invokevirtual 70, 3) := by decide +kernel
theorem dX9_step_79 : decode cX9_step 79 = .ok (.ireturn, 1) := by decide +kernel
theorem dX9_step_80 : decode cX9_step 80 = .ok (.aload_n 0, 1) := by decide +kernel
theorem dX9_step_81 : decode cX9_step 81 = .ok (.getfield 31, 3) := by decide +kernel
theorem dX9_step_84 : decode cX9_step 84 = .ok (.iload_n 1, 1) := by decide +kernel
theorem dX9_step_85 : decode cX9_step 85 = .ok (.iaload, 1) := by decide +kernel
theorem dX9_step_86 : decode cX9_step 86 = .ok (.ireturn, 1) := by decide +kernel
theorem dX9_step_87 : decode cX9_step 87 = .ok (.aload_n 0, 1) := by decide +kernel
theorem dX9_step_88 : decode cX9_step 88 = .ok (.aload_n 0, 1) := by decide +kernel
theorem dX9_step_89 : decode cX9_step 89 = .ok (.getfield 31, 3) := by decide +kernel
theorem dX9_step_92 : decode cX9_step 92 = .ok (.iload_n 1, 1) := by decide +kernel
theorem dX9_step_93 : decode cX9_step 93 = .ok (.iaload, 1) := by decide +kernel
theorem dX9_step_94 : decode cX9_step 94 = .ok (.invokevirtual 76, 3) := by decide +kernel
theorem dX9_step_97 : decode cX9_step 97 = .ok (.ireturn, 1) := by decide +kernel
theorem dX9_step_98 : decode cX9_step 98 = .ok (.iload_n 3, 1) := by decide +kernel
theorem dX9_step_99 : decode cX9_step 99 = .ok (.iconst 1, 1) := by decide +kernel
theorem dX9_step_100 : decode cX9_step 100 = .ok (.invokestatic 171, 3) := by decide +kernel
theorem dX9_step_103 : decode cX9_step 103 = .ok (.ireturn, 1) := by decide +kernel
theorem dX9_step_104 : decode cX9_step 104 = .ok (.iload_n 3, 1) := by decide +kernel
theorem dX9_step_105 : decode cX9_step 105 = .ok (.iconst 0, 1) := by decide +kernel
theorem dX9_step_106 : decode cX9_step 106 = .ok (.invokestatic 171, 3) := by decide +kernel
theorem dX9_step_109 : decode cX9_step 109 = .ok (.ireturn, 1) := by decide +kernel
theorem dX9_step_110 : decode cX9_step 110 = .ok (.iload_n 3, 1) := by decide +kernel
theorem dX9_step_111 : decode cX9_step 111 = .ok (.iload_n 3, 1) := by decide +kernel
theorem dX9_step_112 : decode cX9_step 112 = .ok (.iconst 1, 1) := by decide +kernel
theorem dX9_step_113 : decode cX9_step 113 = .ok (.invokestatic 171, 3) := by decide +kernel
theorem dX9_step_116 : decode cX9_step 116 = .ok (.iconst 1, 1) := by decide +kernel
theorem dX9_step_117 : decode cX9_step 117 = .ok (.isub, 1) := by decide +kernel
theorem dX9_step_118 : decode cX9_step 118 = .ok (.invokestatic 175, 3) := by decide +kernel
theorem dX9_step_121 : decode cX9_step 121 = .ok (.ireturn, 1) := by decide +kernel
theorem dX9_step_122 : decode cX9_step 122 = .ok (.aload_n 0, 1) := by decide +kernel
theorem dX9_step_123 : decode cX9_step 123 = .ok (.iload_n 1, 1) := by decide +kernel
theorem dX9_step_124 : decode cX9_step 124 = .ok (.invokevirtual 178, 3) := by decide +kernel
theorem dX9_step_127 : decode cX9_step 127 = .ok (.ireturn, 1) := by decide +kernel
set_option maxRecDepth 20000 in
theorem ggX9_factor_X9_isStep : GoodIn wsX9_factor wsX9_isStep := goodIn_r _ [5, 6, 7, 8, 4, 9, 20, 21, 22, 23, 24, 25, 26, 27, 28, 29, 30, 31, 32, 33, 34, 35, 36, 37] (by decide +kernel) (by decide +kernel)
set_option maxRecDepth 20000 in
theorem gX9_factor_X9_isStep : GoodIn wsX9_factor (wsV RX9 86 RX9 yX9_isStep wsX9_isStep) := goodIn_app (goodIn_of _ (by decide +kernel)) ggX9_factor_X9_isStep
set_option maxRecDepth 20000 in
theorem ggX9_factor_X9_of : GoodIn wsX9_factor wsX9_of := goodIn_r _ [13, 6, 20, 21, 22, 23, 24, 25, 26, 27, 28, 29, 30, 31, 32, 33, 34, 35, 36, 37] (by decide +kernel) (by decide +kernel)
set_option maxRecDepth 20000 in
theorem gX9_factor_X9_of : GoodIn wsX9_factor (wsV RX9 59 RX9 yX9_of wsX9_of) := goodIn_app (goodIn_of _ (by decide +kernel)) ggX9_factor_X9_of
set_option maxRecDepth 20000 in
theorem ggX9_factor_X9_factorOf : GoodIn wsX9_factor wsX9_factorOf := goodIn_r _ [16, 17, 18, 4, 19] (by decide +kernel) (by decide +kernel)
set_option maxRecDepth 20000 in
theorem gX9_factor_X9_factorOf : GoodIn wsX9_factor (va_wsS RX9 175 yX9_factorOf wsX9_factorOf) := goodIn_app (goodIn_of _ (by decide +kernel)) ggX9_factor_X9_factorOf
theorem dX9_factor_0 : decode cX9_factor 0 = .ok (.aload_n 0, 1) := by decide +kernel
theorem dX9_factor_1 : decode cX9_factor 1 = .ok (.iload_n 1, 1) := by decide +kernel
theorem dX9_factor_2 : decode cX9_factor 2 = .ok (.invokevirtual 86, 3) := by decide +kernel
theorem dX9_factor_5 : decode cX9_factor 5 = .ok (.ifCond .eq 19, 3) := by decide +kernel
theorem dX9_factor_8 : decode cX9_factor 8 = .ok (.iload_n 2, 1) := by decide +kernel
theorem dX9_factor_9 : decode cX9_factor 9 = .ok (.ifCond .lt 15, 3) := by decide +kernel
theorem dX9_factor_12 : decode cX9_factor 12 = .ok (.aload_n 0, 1) := by decide +kernel
theorem dX9_factor_13 : decode cX9_factor 13 = .ok (.iload_n 1, 1) := by decide +kernel
theorem dX9_factor_14 : decode cX9_factor 14 = .ok (.invokevirtual 59, 3) := by decide +kernel
theorem dX9_factor_17 : decode cX9_factor 17 = .ok (.iload_n 2, 1) := by decide +kernel
theorem dX9_factor_18 : decode cX9_factor 18 = .ok (.invokestatic 175, 3) := by decide +kernel
theorem dX9_factor_21 : decode cX9_factor 21 = .ok (.goto 4, 3) := by decide +kernel
theorem dX9_factor_24 : decode cX9_factor 24 = .ok (.iconst (-1), 1) := by decide +kernel
theorem dX9_factor_25 : decode cX9_factor 25 = .ok (.ireturn, 1) := by decide +kernel
set_option maxRecDepth 20000 in
theorem ggX9_commonFactors_X9_leastFactor : GoodIn wsX9_commonFactors wsX9_leastFactor := goodIn_r _ [4] (by decide +kernel) (by decide +kernel)
set_option maxRecDepth 20000 in
theorem gX9_commonFactors_X9_leastFactor : GoodIn wsX9_commonFactors (va_wsS RX9 55 yX9_leastFactor wsX9_leastFactor) := goodIn_app (goodIn_of _ (by decide +kernel)) ggX9_commonFactors_X9_leastFactor
theorem dX9_commonFactors_0 : decode cX9_commonFactors 0 = .ok (.iload_n 0, 1) := by decide +kernel
theorem dX9_commonFactors_1 : decode cX9_commonFactors 1 = .ok (.istore_n 2, 1) := by decide +kernel
theorem dX9_commonFactors_2 : decode cX9_commonFactors 2 = .ok (.iload_n 1, 1) := by decide +kernel
theorem dX9_commonFactors_3 : decode cX9_commonFactors 3 = .ok (.istore_n 3, 1) := by decide +kernel
theorem dX9_commonFactors_4 : decode cX9_commonFactors 4 = .ok (.iconst 1, 1) := by decide +kernel
theorem dX9_commonFactors_5 : decode cX9_commonFactors 5 = .ok (.istore 4, 2) := by decide +kernel
theorem dX9_commonFactors_7 : decode cX9_commonFactors 7 = .ok (.iload_n 2, 1) := by decide +kernel
theorem dX9_commonFactors_8 : decode cX9_commonFactors 8 = .ok (.iconst 1, 1) := by decide +kernel
theorem dX9_commonFactors_9 : decode cX9_commonFactors 9 = .ok (.if_icmp .le 51, 3) := by decide +kernel
theorem dX9_commonFactors_12 : decode cX9_commonFactors 12 = .ok (.iload_n 2, 1) := by decide +kernel
theorem dX9_commonFactors_13 : decode cX9_commonFactors 13 = .ok (.invokestatic 55, 3) := by decide +kernel
theorem dX9_commonFactors_16 : decode cX9_commonFactors 16 = .ok (.istore 5, 2) := by decide +kernel
theorem dX9_commonFactors_18 : decode cX9_commonFactors 18 = .ok (.iload 4, 2) := by decide +kernel
theorem dX9_commonFactors_20 : decode cX9_commonFactors 20 = .ok (.iload_n 3, 1) := by decide +kernel
theorem dX9_commonFactors_21 : decode cX9_commonFactors 21 = .ok (.iload 5, 2) := by decide +kernel
theorem dX9_commonFactors_23 : decode cX9_commonFactors 23 = .ok (.irem, 1) := by decide +kernel
theorem dX9_commonFactors_24 : decode cX9_commonFactors 24 = .ok (.ifCond .ne 8, 3) := by decide +kernel
theorem dX9_commonFactors_27 : decode cX9_commonFactors 27 = .ok (.iload 5, 2) := by decide +kernel
theorem dX9_commonFactors_29 : decode cX9_commonFactors 29 = .ok (.goto 4, 3) := by decide +kernel
theorem dX9_commonFactors_32 : decode cX9_commonFactors 32 = .ok (.iconst 1, 1) := by decide +kernel
theorem dX9_commonFactors_33 : decode cX9_commonFactors 33 = .ok (.imul, 1) := by decide +kernel
theorem dX9_commonFactors_34 : decode cX9_commonFactors 34 = .ok (.istore 4, 2) := by decide +kernel
theorem dX9_commonFactors_36 : decode cX9_commonFactors 36 = .ok (.iload_n 3, 1) := by decide +kernel
theorem dX9_commonFactors_37 : decode cX9_commonFactors 37 = .ok (.iload 5, 2) := by decide +kernel
theorem dX9_commonFactors_39 : decode cX9_commonFactors 39 = .ok (.irem, 1) := by decide +kernel
theorem dX9_commonFactors_40 : decode cX9_commonFactors 40 = .ok (.ifCond .ne 10, 3) := by decide +kernel
theorem dX9_commonFactors_43 : decode cX9_commonFactors 43 = .ok (.iload_n 3, 1) := by decide +kernel
theorem dX9_commonFactors_44 : decode cX9_commonFactors 44 = .ok (.iload 5, 2) := by decide +kernel
theorem dX9_commonFactors_46 : decode cX9_commonFactors 46 = .ok (.idiv, 1) := by decide +kernel
theorem dX9_commonFactors_47 : decode cX9_commonFactors 47 = .ok (.goto 4, 3) := by decide +kernel
theorem dX9_commonFactors_50 : decode cX9_commonFactors 50 = .ok (.iload_n 3, 1) := by decide +kernel
theorem dX9_commonFactors_51 : decode cX9_commonFactors 51 = .ok (.istore_n 3, 1) := by decide +kernel
theorem dX9_commonFactors_52 : decode cX9_commonFactors 52 = .ok (.iload_n 2, 1) := by decide +kernel
theorem dX9_commonFactors_53 : decode cX9_commonFactors 53 = .ok (.iload 5, 2) := by decide +kernel
theorem dX9_commonFactors_55 : decode cX9_commonFactors 55 = .ok (.idiv, 1) := by decide +kernel
theorem dX9_commonFactors_56 : decode cX9_commonFactors 56 = .ok (.istore_n 2, 1) := by decide +kernel
theorem dX9_commonFactors_57 : decode cX9_commonFactors 57 = .ok (.goto (-50), 3) := by decide +kernel
theorem dX9_commonFactors_60 : decode cX9_commonFactors 60 = .ok (.iload 4, 2) := by decide +kernel
theorem dX9_commonFactors_62 : decode cX9_commonFactors 62 = .ok (.ireturn, 1) := by decide +kernel
set_option maxRecDepth 20000 in
theorem ggX9_common_X9_isStep : GoodIn wsX9_common wsX9_isStep := goodIn_r _ [5, 6, 7, 8, 4, 9, 23, 24, 25, 26, 27, 28, 29, 30, 31, 32, 33, 34, 35, 36, 37, 38, 39, 40] (by decide +kernel) (by decide +kernel)
set_option maxRecDepth 20000 in
theorem gX9_common_X9_isStep : GoodIn wsX9_common (wsV RX9 86 RX9 yX9_isStep wsX9_isStep) := goodIn_app (goodIn_of _ (by decide +kernel)) ggX9_common_X9_isStep
set_option maxRecDepth 20000 in
theorem ggX9_common_X9_in : GoodIn wsX9_common wsX9_in := goodIn_r _ [9] (by decide +kernel) (by decide +kernel)
set_option maxRecDepth 20000 in
theorem gX9_common_X9_in : GoodIn wsX9_common (va_wsS RX9 51 yX9_in wsX9_in) := goodIn_app (goodIn_of _ (by decide +kernel)) ggX9_common_X9_in
set_option maxRecDepth 20000 in
theorem ggX9_common_X9_of : GoodIn wsX9_common wsX9_of := goodIn_r _ [13, 6, 23, 24, 25, 26, 27, 28, 29, 30, 31, 32, 33, 34, 35, 36, 37, 38, 39, 40] (by decide +kernel) (by decide +kernel)
set_option maxRecDepth 20000 in
theorem gX9_common_X9_of : GoodIn wsX9_common (wsV RX9 59 RX9 yX9_of wsX9_of) := goodIn_app (goodIn_of _ (by decide +kernel)) ggX9_common_X9_of
set_option maxRecDepth 20000 in
theorem ggX9_common_X9_divisor : GoodIn wsX9_common wsX9_divisor := goodIn_r _ [16] (by decide +kernel) (by decide +kernel)
set_option maxRecDepth 20000 in
theorem gX9_common_X9_divisor : GoodIn wsX9_common (va_wsS RX9 62 yX9_divisor wsX9_divisor) := goodIn_app (goodIn_of _ (by decide +kernel)) ggX9_common_X9_divisor
set_option maxRecDepth 20000 in
theorem ggX9_common_X9_commonFactors : GoodIn wsX9_common wsX9_commonFactors := goodIn_r _ [19, 20, 21, 4, 22] (by decide +kernel) (by decide +kernel)
set_option maxRecDepth 20000 in
theorem gX9_common_X9_commonFactors : GoodIn wsX9_common (va_wsS RX9 181 yX9_commonFactors wsX9_commonFactors) := goodIn_app (goodIn_of _ (by decide +kernel)) ggX9_common_X9_commonFactors
theorem dX9_common_0 : decode cX9_common 0 = .ok (.aload_n 0, 1) := by decide +kernel
theorem dX9_common_1 : decode cX9_common 1 = .ok (.iload_n 1, 1) := by decide +kernel
theorem dX9_common_2 : decode cX9_common 2 = .ok (.invokevirtual 86, 3) := by decide +kernel
theorem dX9_common_5 : decode cX9_common 5 = .ok (.ifCond .eq 20, 3) := by decide +kernel
theorem dX9_common_8 : decode cX9_common 8 = .ok (.aload_n 0, 1) := by decide +kernel
theorem dX9_common_9 : decode cX9_common 9 = .ok (.iload_n 2, 1) := by decide +kernel
theorem dX9_common_10 : decode cX9_common 10 = .ok (.invokevirtual 86, 3) := by decide +kernel
theorem dX9_common_13 : decode cX9_common 13 = .ok (.ifCond .eq 12, 3) := by decide +kernel
theorem dX9_common_16 : decode cX9_common 16 = .ok (.iload_n 3, 1) := by decide +kernel
theorem dX9_common_17 : decode cX9_common 17 = .ok (.iconst 0, 1) := by decide +kernel
theorem dX9_common_18 : decode cX9_common 18 = .ok (.iconst 1, 1) := by decide +kernel
theorem dX9_common_19 : decode cX9_common 19 = .ok (.invokestatic 51, 3) := by decide +kernel
theorem dX9_common_22 : decode cX9_common 22 = .ok (.ifCond .ne 5, 3) := by decide +kernel
theorem dX9_common_25 : decode cX9_common 25 = .ok (.iconst (-1), 1) := by decide +kernel
theorem dX9_common_26 : decode cX9_common 26 = .ok (.ireturn, 1) := by decide +kernel
theorem dX9_common_27 : decode cX9_common 27 = .ok (.iload_n 3, 1) := by decide +kernel
theorem dX9_common_28 : decode cX9_common 28 = .ok (.ifCond .ne 19, 3) := by decide +kernel
theorem dX9_common_31 : decode cX9_common 31 = .ok (.aload_n 0, 1) := by decide +kernel
theorem dX9_common_32 : decode cX9_common 32 = .ok (.iload_n 1, 1) := by decide +kernel
theorem dX9_common_33 : decode cX9_common 33 = .ok (.invokevirtual 59, 3) := by decide +kernel
theorem dX9_common_36 : decode cX9_common 36 = .ok (.aload_n 0, 1) := by decide +kernel
theorem dX9_common_37 : decode cX9_common 37 = .ok (.iload_n 2, 1) := by decide +kernel
theorem dX9_common_38 : decode cX9_common 38 = .ok (.invokevirtual 59, 3) := by decide +kernel
theorem dX9_common_41 : decode cX9_common 41 = .ok (.invokestatic 62, 3) := by decide +kernel
theorem dX9_common_44 : decode cX9_common 44 = .ok (.goto 16, 3) := by decide +kernel
theorem dX9_common_47 : decode cX9_common 47 = .ok (.aload_n 0, 1) := by decide +kernel
theorem dX9_common_48 : decode cX9_common 48 = .ok (.iload_n 1, 1) := by decide +kernel
theorem dX9_common_49 : decode cX9_common 49 = .ok (.invokevirtual 59, 3) := by decide +kernel
theorem dX9_common_52 : decode cX9_common 52 = .ok (.aload_n 0, 1) := by decide +kernel
theorem dX9_common_53 : decode cX9_common 53 = .ok (.iload_n 2, 1) := by decide +kernel
theorem dX9_common_54 : decode cX9_common 54 = .ok (.invokevirtual 59, 3) := by decide +kernel
theorem dX9_common_57 : decode cX9_common 57 = .ok (.invokestatic 181, 3) := by decide +kernel
theorem dX9_common_60 : decode cX9_common 60 = .ok (.ireturn, 1) := by decide +kernel
set_option maxRecDepth 20000 in
theorem ggX9_canGo_X9_areKin : GoodIn wsX9_canGo wsX9_areKin := goodIn_r _ [6, 1, 7, 8, 9, 5, 10, 11, 12, 13, 14, 15, 16, 17, 18, 19, 20, 21, 22, 23, 24, 25, 26, 27, 28, 29, 30, 31] (by decide +kernel) (by decide +kernel)
set_option maxRecDepth 20000 in
theorem gX9_canGo_X9_areKin : GoodIn wsX9_canGo (wsV RX9 66 RX9 yX9_areKin wsX9_areKin) := goodIn_app (goodIn_of _ (by decide +kernel)) ggX9_canGo_X9_areKin
theorem dX9_canGo_0 : decode cX9_canGo 0 = .ok (.iload_n 2, 1) := by decide +kernel
theorem dX9_canGo_1 : decode cX9_canGo 1 = .ok (.iload_n 1, 1) := by decide +kernel
theorem dX9_canGo_2 : decode cX9_canGo 2 = .ok (.if_icmp .le 28, 3) := by decide +kernel
theorem dX9_canGo_5 : decode cX9_canGo 5 = .ok (.iload_n 2, 1) := by decide +kernel
theorem dX9_canGo_6 : decode cX9_canGo 6 = .ok (.iload_n 1, 1) := by decide +kernel
theorem dX9_canGo_7 : decode cX9_canGo 7 = .ok (.isub, 1) := by decide +kernel
theorem dX9_canGo_8 : decode cX9_canGo 8 = .ok (.aload_n 0, 1) := by decide +kernel
theorem dX9_canGo_9 : decode cX9_canGo 9 = .ok (.getfield 7, 3) := by decide +kernel
theorem dX9_canGo_12 : decode cX9_canGo 12 = .ok (.iconst 1, 1) := by decide +kernel
theorem dX9_canGo_13 : decode cX9_canGo 13 = .ok (.iaload, 1) := by decide +kernel
theorem dX9_canGo_14 : decode cX9_canGo 14 = .ok (.if_icmp .gt 16, 3) := by decide +kernel
theorem dX9_canGo_17 : decode cX9_canGo 17 = .ok (.aload_n 0, 1) := by decide +kernel
theorem dX9_canGo_18 : decode cX9_canGo 18 = .ok (.iload_n 1, 1) := by decide +kernel
theorem dX9_canGo_19 : decode cX9_canGo 19 = .ok (.iload_n 2, 1) := by decide +kernel
theorem dX9_canGo_20 : decode cX9_canGo 20 = .ok (.invokevirtual 66, 3) := by decide +kernel
theorem dX9_canGo_23 : decode cX9_canGo 23 = .ok (.ifCond .eq 7, 3) := by decide +kernel
theorem dX9_canGo_26 : decode cX9_canGo 26 = .ok (.iconst 1, 1) := by decide +kernel
theorem dX9_canGo_27 : decode cX9_canGo 27 = .ok (.goto 4, 3) := by decide +kernel
theorem dX9_canGo_30 : decode cX9_canGo 30 = .ok (.iconst 0, 1) := by decide +kernel
theorem dX9_canGo_31 : decode cX9_canGo 31 = .ok (.ireturn, 1) := by decide +kernel
set_option maxRecDepth 20000 in
theorem ggX9_whyNot_X9_isStep : GoodIn wsX9_whyNot wsX9_isStep := goodIn_r _ [6, 1, 7, 8, 5, 9, 21, 22, 23, 24, 25, 26, 27, 28, 29, 30, 31, 32, 33, 34, 35, 36, 37, 38] (by decide +kernel) (by decide +kernel)
set_option maxRecDepth 20000 in
theorem gX9_whyNot_X9_isStep : GoodIn wsX9_whyNot (wsV RX9 86 RX9 yX9_isStep wsX9_isStep) := goodIn_app (goodIn_of _ (by decide +kernel)) ggX9_whyNot_X9_isStep
set_option maxRecDepth 20000 in
theorem ggX9_whyNot_X9_areKin : GoodIn wsX9_whyNot wsX9_areKin := goodIn_r _ [13, 1, 14, 15, 16, 5, 17, 18, 19, 20, 21, 22, 23, 24, 25, 26, 27, 28, 29, 30, 31, 32, 33, 34, 35, 36, 37, 38] (by decide +kernel) (by decide +kernel)
set_option maxRecDepth 20000 in
theorem gX9_whyNot_X9_areKin : GoodIn wsX9_whyNot (wsV RX9 66 RX9 yX9_areKin wsX9_areKin) := goodIn_app (goodIn_of _ (by decide +kernel)) ggX9_whyNot_X9_areKin
theorem dX9_whyNot_0 : decode cX9_whyNot 0 = .ok (.aload_n 0, 1) := by decide +kernel
theorem dX9_whyNot_1 : decode cX9_whyNot 1 = .ok (.iload_n 1, 1) := by decide +kernel
theorem dX9_whyNot_2 : decode cX9_whyNot 2 = .ok (.invokevirtual 86, 3) := by decide +kernel
theorem dX9_whyNot_5 : decode cX9_whyNot 5 = .ok (.ifCond .eq 11, 3) := by decide +kernel
theorem dX9_whyNot_8 : decode cX9_whyNot 8 = .ok (.aload_n 0, 1) := by decide +kernel
theorem dX9_whyNot_9 : decode cX9_whyNot 9 = .ok (.iload_n 2, 1) := by decide +kernel
theorem dX9_whyNot_10 : decode cX9_whyNot 10 = .ok (.invokevirtual 86, 3) := by decide +kernel
theorem dX9_whyNot_13 : decode cX9_whyNot 13 = .ok (.ifCond .ne 5, 3) := by decide +kernel
theorem dX9_whyNot_16 : decode cX9_whyNot 16 = .ok (.iconst (-1), 1) := by decide +kernel
theorem dX9_whyNot_17 : decode cX9_whyNot 17 = .ok (.ireturn, 1) := by decide +kernel
theorem dX9_whyNot_18 : decode cX9_whyNot 18 = .ok (.iload_n 2, 1) := by decide +kernel
theorem dX9_whyNot_19 : decode cX9_whyNot 19 = .ok (.iload_n 1, 1) := by decide +kernel
theorem dX9_whyNot_20 : decode cX9_whyNot 20 = .ok (.if_icmp .gt 7, 3) := by decide +kernel
theorem dX9_whyNot_23 : decode cX9_whyNot 23 = .ok (.iconst 1, 1) := by decide +kernel
theorem dX9_whyNot_24 : decode cX9_whyNot 24 = .ok (.goto 33, 3) := by decide +kernel
theorem dX9_whyNot_27 : decode cX9_whyNot 27 = .ok (.iload_n 2, 1) := by decide +kernel
theorem dX9_whyNot_28 : decode cX9_whyNot 28 = .ok (.iload_n 1, 1) := by decide +kernel
theorem dX9_whyNot_29 : decode cX9_whyNot 29 = .ok (.isub, 1) := by decide +kernel
theorem dX9_whyNot_30 : decode cX9_whyNot 30 = .ok (.aload_n 0, 1) := by decide +kernel
theorem dX9_whyNot_31 : decode cX9_whyNot 31 = .ok (.getfield 7, 3) := by decide +kernel
theorem dX9_whyNot_34 : decode cX9_whyNot 34 = .ok (.iconst 1, 1) := by decide +kernel
theorem dX9_whyNot_35 : decode cX9_whyNot 35 = .ok (.iaload, 1) := by decide +kernel
theorem dX9_whyNot_36 : decode cX9_whyNot 36 = .ok (.if_icmp .le 7, 3) := by decide +kernel
theorem dX9_whyNot_39 : decode cX9_whyNot 39 = .ok (.iconst 2, 1) := by decide +kernel
theorem dX9_whyNot_40 : decode cX9_whyNot 40 = .ok (.goto 17, 3) := by decide +kernel
theorem dX9_whyNot_43 : decode cX9_whyNot 43 = .ok (.aload_n 0, 1) := by decide +kernel
theorem dX9_whyNot_44 : decode cX9_whyNot 44 = .ok (.iload_n 1, 1) := by decide +kernel
theorem dX9_whyNot_45 : decode cX9_whyNot 45 = .ok (.iload_n 2, 1) := by decide +kernel
theorem dX9_whyNot_46 : decode cX9_whyNot 46 = .ok (.invokevirtual 66, 3) := by decide +kernel
theorem dX9_whyNot_49 : decode cX9_whyNot 49 = .ok (.ifCond .eq 7, 3) := by decide +kernel
theorem dX9_whyNot_52 : decode cX9_whyNot 52 = .ok (.iconst 0, 1) := by decide +kernel
theorem dX9_whyNot_53 : decode cX9_whyNot 53 = .ok (.goto 4, 3) := by decide +kernel
theorem dX9_whyNot_56 : decode cX9_whyNot 56 = .ok (.iconst 3, 1) := by decide +kernel
theorem dX9_whyNot_57 : decode cX9_whyNot 57 = .ok (.ireturn, 1) := by decide +kernel
set_option maxRecDepth 20000 in
theorem ggX9_areEnds_X9_isStep : GoodIn wsX9_areEnds wsX9_isStep := goodIn_r _ [5, 6, 7, 8, 4, 9, 10, 11, 12, 13, 14, 15, 16, 17, 18, 19, 20, 21, 22, 23, 24, 25, 26, 27] (by decide +kernel) (by decide +kernel)
set_option maxRecDepth 20000 in
theorem gX9_areEnds_X9_isStep : GoodIn wsX9_areEnds (wsV RX9 86 RX9 yX9_isStep wsX9_isStep) := goodIn_app (goodIn_of _ (by decide +kernel)) ggX9_areEnds_X9_isStep
theorem dX9_areEnds_0 : decode cX9_areEnds 0 = .ok (.aload_n 0, 1) := by decide +kernel
theorem dX9_areEnds_1 : decode cX9_areEnds 1 = .ok (.iload_n 1, 1) := by decide +kernel
theorem dX9_areEnds_2 : decode cX9_areEnds 2 = .ok (.invokevirtual 86, 3) := by decide +kernel
theorem dX9_areEnds_5 : decode cX9_areEnds 5 = .ok (.ifCond .eq 20, 3) := by decide +kernel
theorem dX9_areEnds_8 : decode cX9_areEnds 8 = .ok (.aload_n 0, 1) := by decide +kernel
theorem dX9_areEnds_9 : decode cX9_areEnds 9 = .ok (.iload_n 2, 1) := by decide +kernel
theorem dX9_areEnds_10 : decode cX9_areEnds 10 = .ok (.invokevirtual 86, 3) := by decide +kernel
theorem dX9_areEnds_13 : decode cX9_areEnds 13 = .ok (.ifCond .eq 12, 3) := by decide +kernel
theorem dX9_areEnds_16 : decode cX9_areEnds 16 = .ok (.iload_n 1, 1) := by decide +kernel
theorem dX9_areEnds_17 : decode cX9_areEnds 17 = .ok (.iload_n 2, 1) := by decide +kernel
theorem dX9_areEnds_18 : decode cX9_areEnds 18 = .ok (.if_icmp .gt 7, 3) := by decide +kernel
theorem dX9_areEnds_21 : decode cX9_areEnds 21 = .ok (.iconst 1, 1) := by decide +kernel
theorem dX9_areEnds_22 : decode cX9_areEnds 22 = .ok (.goto 4, 3) := by decide +kernel
theorem dX9_areEnds_25 : decode cX9_areEnds 25 = .ok (.iconst 0, 1) := by decide +kernel
theorem dX9_areEnds_26 : decode cX9_areEnds 26 = .ok (.ireturn, 1) := by decide +kernel
set_option maxRecDepth 20000 in
theorem ggX9_added_X9_canGo : GoodIn wsX9_added wsX9_canGo := goodIn_r _ [6, 7, 8, 9, 10, 5, 11, 12, 13, 14, 15, 16, 17, 18, 19, 20, 21, 22, 23, 24, 25, 26, 27, 28, 29, 30, 31, 32, 33, 34, 35, 36] (by decide +kernel) (by decide +kernel)
set_option maxRecDepth 20000 in
theorem gX9_added_X9_canGo : GoodIn wsX9_added (wsV RX9 184 RX9 yX9_canGo wsX9_canGo) := goodIn_app (goodIn_of _ (by decide +kernel)) ggX9_added_X9_canGo
theorem dX9_added_0 : decode cX9_added 0 = .ok (.iload_n 1, 1) := by decide +kernel
theorem dX9_added_1 : decode cX9_added 1 = .ok (.istore_n 3, 1) := by decide +kernel
theorem dX9_added_2 : decode cX9_added 2 = .ok (.iload_n 3, 1) := by decide +kernel
theorem dX9_added_3 : decode cX9_added 3 = .ok (.iload_n 2, 1) := by decide +kernel
theorem dX9_added_4 : decode cX9_added 4 = .ok (.if_icmp .gt 70, 3) := by decide +kernel
theorem dX9_added_7 : decode cX9_added 7 = .ok (.aload_n 0, 1) := by decide +kernel
theorem dX9_added_8 : decode cX9_added 8 = .ok (.getfield 37, 3) := by decide +kernel
theorem dX9_added_11 : decode cX9_added 11 = .ok (.iload_n 3, 1) := by decide +kernel
theorem dX9_added_12 : decode cX9_added 12 = .ok (.iload_n 3, 1) := by decide +kernel
theorem dX9_added_13 : decode cX9_added 13 = .ok (.iload_n 1, 1) := by decide +kernel
theorem dX9_added_14 : decode cX9_added 14 = .ok (.if_icmp .ne 7, 3) := by decide +kernel
theorem dX9_added_17 : decode cX9_added 17 = .ok (.iconst 1, 1) := by decide +kernel
theorem dX9_added_18 : decode cX9_added 18 = .ok (.goto 4, 3) := by decide +kernel
theorem dX9_added_21 : decode cX9_added 21 = .ok (.iconst 0, 1) := by decide +kernel
theorem dX9_added_22 : decode cX9_added 22 = .ok (.iastore, 1) := by decide +kernel
theorem dX9_added_23 : decode cX9_added 23 = .ok (.iload_n 1, 1) := by decide +kernel
theorem dX9_added_24 : decode cX9_added 24 = .ok (.istore 4, 2) := by decide +kernel
theorem dX9_added_26 : decode cX9_added 26 = .ok (.iload 4, 2) := by decide +kernel
theorem dX9_added_28 : decode cX9_added 28 = .ok (.iload_n 3, 1) := by decide +kernel
theorem dX9_added_29 : decode cX9_added 29 = .ok (.if_icmp .ge 39, 3) := by decide +kernel
theorem dX9_added_32 : decode cX9_added 32 = .ok (.aload_n 0, 1) := by decide +kernel
theorem dX9_added_33 : decode cX9_added 33 = .ok (.getfield 37, 3) := by decide +kernel
theorem dX9_added_36 : decode cX9_added 36 = .ok (.iload_n 3, 1) := by decide +kernel
theorem dX9_added_37 : decode cX9_added 37 = .ok (.dup2, 1) := by decide +kernel
theorem dX9_added_38 : decode cX9_added 38 = .ok (.iaload, 1) := by decide +kernel
theorem dX9_added_39 : decode cX9_added 39 = .ok (.aload_n 0, 1) := by decide +kernel
theorem dX9_added_40 : decode cX9_added 40 = .ok (.iload 4, 2) := by decide +kernel
theorem dX9_added_42 : decode cX9_added 42 = .ok (.iload_n 3, 1) := by decide +kernel
theorem dX9_added_43 : decode cX9_added 43 = .ok (.invokevirtual 184, 3) := by decide +kernel
theorem dX9_added_46 : decode cX9_added 46 = .ok (.ifCond .eq 13, 3) := by decide +kernel
theorem dX9_added_49 : decode cX9_added 49 = .ok (.aload_n 0, 1) := by decide +kernel
theorem dX9_added_50 : decode cX9_added 50 = .ok (.getfield 37, 3) := by decide +kernel
theorem dX9_added_53 : decode cX9_added 53 = .ok (.iload 4, 2) := by decide +kernel
theorem dX9_added_55 : decode cX9_added 55 = .ok (.iaload, 1) := by decide +kernel
theorem dX9_added_56 : decode cX9_added 56 = .ok (.goto 4, 3) := by decide +kernel
theorem dX9_added_59 : decode cX9_added 59 = .ok (.iconst 0, 1) := by decide +kernel
theorem dX9_added_60 : decode cX9_added 60 = .ok (.iadd, 1) := by decide +kernel
theorem dX9_added_61 : decode cX9_added 61 = .ok (.iastore, 1) := by decide +kernel
theorem dX9_added_62 : decode cX9_added 62 = .ok (.iinc 4 1, 3) := by decide +kernel
theorem dX9_added_65 : decode cX9_added 65 = .ok (.goto (-39), 3) := by decide +kernel
theorem dX9_added_68 : decode cX9_added 68 = .ok (.iinc 3 1, 3) := by decide +kernel
theorem dX9_added_71 : decode cX9_added 71 = .ok (.goto (-69), 3) := by decide +kernel
theorem dX9_added_74 : decode cX9_added 74 = .ok (.aload_n 0, 1) := by decide +kernel
theorem dX9_added_75 : decode cX9_added 75 = .ok (.getfield 37, 3) := by decide +kernel
theorem dX9_added_78 : decode cX9_added 78 = .ok (.iload_n 2, 1) := by decide +kernel
theorem dX9_added_79 : decode cX9_added 79 = .ok (.iaload, 1) := by decide +kernel
theorem dX9_added_80 : decode cX9_added 80 = .ok (.ireturn, 1) := by decide +kernel
set_option maxRecDepth 20000 in
theorem ggX9_gone_X9_canGo : GoodIn wsX9_gone wsX9_canGo := goodIn_r _ [7, 8, 9, 10, 11, 6, 12, 13, 14, 15, 16, 17, 18, 19, 20, 21, 22, 23, 24, 25, 26, 27, 28, 29, 30, 31, 32, 33, 34, 35, 36, 37] (by decide +kernel) (by decide +kernel)
set_option maxRecDepth 20000 in
theorem gX9_gone_X9_canGo : GoodIn wsX9_gone (wsV RX9 184 RX9 yX9_canGo wsX9_canGo) := goodIn_app (goodIn_of _ (by decide +kernel)) ggX9_gone_X9_canGo
theorem dX9_gone_0 : decode cX9_gone 0 = .ok (.iconst 0, 1) := by decide +kernel
theorem dX9_gone_1 : decode cX9_gone 1 = .ok (.istore_n 3, 1) := by decide +kernel
theorem dX9_gone_2 : decode cX9_gone 2 = .ok (.iconst 1, 1) := by decide +kernel
theorem dX9_gone_3 : decode cX9_gone 3 = .ok (.istore 4, 2) := by decide +kernel
theorem dX9_gone_5 : decode cX9_gone 5 = .ok (.aload_n 0, 1) := by decide +kernel
theorem dX9_gone_6 : decode cX9_gone 6 = .ok (.getfield 37, 3) := by decide +kernel
theorem dX9_gone_9 : decode cX9_gone 9 = .ok (.iconst 0, 1) := by decide +kernel
theorem dX9_gone_10 : decode cX9_gone 10 = .ok (.iload_n 1, 1) := by decide +kernel
theorem dX9_gone_11 : decode cX9_gone 11 = .ok (.iastore, 1) := by decide +kernel
theorem dX9_gone_12 : decode cX9_gone 12 = .ok (.aload_n 0, 1) := by decide +kernel
theorem dX9_gone_13 : decode cX9_gone 13 = .ok (.getfield 40, 3) := by decide +kernel
theorem dX9_gone_16 : decode cX9_gone 16 = .ok (.iconst 0, 1) := by decide +kernel
theorem dX9_gone_17 : decode cX9_gone 17 = .ok (.iload_n 1, 1) := by decide +kernel
theorem dX9_gone_18 : decode cX9_gone 18 = .ok (.iconst 1, 1) := by decide +kernel
theorem dX9_gone_19 : decode cX9_gone 19 = .ok (.iadd, 1) := by decide +kernel
theorem dX9_gone_20 : decode cX9_gone 20 = .ok (.iastore, 1) := by decide +kernel
theorem dX9_gone_21 : decode cX9_gone 21 = .ok (.iload 4, 2) := by decide +kernel
theorem dX9_gone_23 : decode cX9_gone 23 = .ok (.ifCond .le 107, 3) := by decide +kernel
theorem dX9_gone_26 : decode cX9_gone 26 = .ok (.aload_n 0, 1) := by decide +kernel
theorem dX9_gone_27 : decode cX9_gone 27 = .ok (.getfield 37, 3) := by decide +kernel
theorem dX9_gone_30 : decode cX9_gone 30 = .ok (.iload 4, 2) := by decide +kernel
theorem dX9_gone_32 : decode cX9_gone 32 = .ok (.iconst 1, 1) := by decide +kernel
theorem dX9_gone_33 : decode cX9_gone 33 = .ok (.isub, 1) := by decide +kernel
theorem dX9_gone_34 : decode cX9_gone 34 = .ok (.iaload, 1) := by decide +kernel
theorem dX9_gone_35 : decode cX9_gone 35 = .ok (.istore 5, 2) := by decide +kernel
theorem dX9_gone_37 : decode cX9_gone 37 = .ok (.aload_n 0, 1) := by decide +kernel
theorem dX9_gone_38 : decode cX9_gone 38 = .ok (.getfield 40, 3) := by decide +kernel
theorem dX9_gone_41 : decode cX9_gone 41 = .ok (.iload 4, 2) := by decide +kernel
theorem dX9_gone_43 : decode cX9_gone 43 = .ok (.iconst 1, 1) := by decide +kernel
theorem dX9_gone_44 : decode cX9_gone 44 = .ok (.isub, 1) := by decide +kernel
theorem dX9_gone_45 : decode cX9_gone 45 = .ok (.iaload, 1) := by decide +kernel
theorem dX9_gone_46 : decode cX9_gone 46 = .ok (.istore 6, 2) := by decide +kernel
theorem dX9_gone_48 : decode cX9_gone 48 = .ok (.iload 5, 2) := by decide +kernel
theorem dX9_gone_50 : decode cX9_gone 50 = .ok (.iload_n 2, 1) := by decide +kernel
theorem dX9_gone_51 : decode cX9_gone 51 = .ok (.if_icmp .eq 9, 3) := by decide +kernel
theorem dX9_gone_54 : decode cX9_gone 54 = .ok (.iload 6, 2) := by decide +kernel
theorem dX9_gone_56 : decode cX9_gone 56 = .ok (.iload_n 2, 1) := by decide +kernel
theorem dX9_gone_57 : decode cX9_gone 57 = .ok (.if_icmp .le 23, 3) := by decide +kernel
theorem dX9_gone_60 : decode cX9_gone 60 = .ok (.iload_n 3, 1) := by decide +kernel
theorem dX9_gone_61 : decode cX9_gone 61 = .ok (.iload 5, 2) := by decide +kernel
theorem dX9_gone_63 : decode cX9_gone 63 = .ok (.iload_n 2, 1) := by decide +kernel
theorem dX9_gone_64 : decode cX9_gone 64 = .ok (.if_icmp .ne 7, 3) := by decide +kernel
theorem dX9_gone_67 : decode cX9_gone 67 = .ok (.iconst 1, 1) := by decide +kernel
theorem dX9_gone_68 : decode cX9_gone 68 = .ok (.goto 4, 3) := by decide +kernel
theorem dX9_gone_71 : decode cX9_gone 71 = .ok (.iconst 0, 1) := by decide +kernel
theorem dX9_gone_72 : decode cX9_gone 72 = .ok (.iadd, 1) := by decide +kernel
theorem dX9_gone_73 : decode cX9_gone 73 = .ok (.istore_n 3, 1) := by decide +kernel
theorem dX9_gone_74 : decode cX9_gone 74 = .ok (.iinc 4 (-1), 3) := by decide +kernel
theorem dX9_gone_77 : decode cX9_gone 77 = .ok (.goto 50, 3) := by decide +kernel
theorem dX9_gone_80 : decode cX9_gone 80 = .ok (.aload_n 0, 1) := by decide +kernel
theorem dX9_gone_81 : decode cX9_gone 81 = .ok (.getfield 40, 3) := by decide +kernel
theorem dX9_gone_84 : decode cX9_gone 84 = .ok (.iload 4, 2) := by decide +kernel
theorem dX9_gone_86 : decode cX9_gone 86 = .ok (.iconst 1, 1) := by decide +kernel
theorem dX9_gone_87 : decode cX9_gone 87 = .ok (.isub, 1) := by decide +kernel
theorem dX9_gone_88 : decode cX9_gone 88 = .ok (.dup2, 1) := by decide +kernel
theorem dX9_gone_89 : decode cX9_gone 89 = .ok (.iaload, 1) := by decide +kernel
theorem dX9_gone_90 : decode cX9_gone 90 = .ok (.iconst 1, 1) := by decide +kernel
theorem dX9_gone_91 : decode cX9_gone 91 = .ok (.iadd, 1) := by decide +kernel
theorem dX9_gone_92 : decode cX9_gone 92 = .ok (.iastore, 1) := by decide +kernel
theorem dX9_gone_93 : decode cX9_gone 93 = .ok (.aload_n 0, 1) := by decide +kernel
theorem dX9_gone_94 : decode cX9_gone 94 = .ok (.iload 5, 2) := by decide +kernel
theorem dX9_gone_96 : decode cX9_gone 96 = .ok (.iload 6, 2) := by decide +kernel
theorem dX9_gone_98 : decode cX9_gone 98 = .ok (.invokevirtual 184, 3) := by decide +kernel
theorem dX9_gone_101 : decode cX9_gone 101 = .ok (.ifCond .eq 26, 3) := by decide +kernel
theorem dX9_gone_104 : decode cX9_gone 104 = .ok (.aload_n 0, 1) := by decide +kernel
theorem dX9_gone_105 : decode cX9_gone 105 = .ok (.getfield 37, 3) := by decide +kernel
theorem dX9_gone_108 : decode cX9_gone 108 = .ok (.iload 4, 2) := by decide +kernel
theorem dX9_gone_110 : decode cX9_gone 110 = .ok (.iload 6, 2) := by decide +kernel
theorem dX9_gone_112 : decode cX9_gone 112 = .ok (.iastore, 1) := by decide +kernel
theorem dX9_gone_113 : decode cX9_gone 113 = .ok (.aload_n 0, 1) := by decide +kernel
theorem dX9_gone_114 : decode cX9_gone 114 = .ok (.getfield 40, 3) := by decide +kernel
theorem dX9_gone_117 : decode cX9_gone 117 = .ok (.iload 4, 2) := by decide +kernel
theorem dX9_gone_119 : decode cX9_gone 119 = .ok (.iload 6, 2) := by decide +kernel
theorem dX9_gone_121 : decode cX9_gone 121 = .ok (.iconst 1, 1) := by decide +kernel
theorem dX9_gone_122 : decode cX9_gone 122 = .ok (.iadd, 1) := by decide +kernel
theorem dX9_gone_123 : decode cX9_gone 123 = .ok (.iastore, 1) := by decide +kernel
theorem dX9_gone_124 : decode cX9_gone 124 = .ok (.iinc 4 1, 3) := by decide +kernel
theorem dX9_gone_127 : decode cX9_gone 127 = .ok (.goto (-106), 3) := by decide +kernel
theorem dX9_gone_130 : decode cX9_gone 130 = .ok (.iload_n 3, 1) := by decide +kernel
theorem dX9_gone_131 : decode cX9_gone 131 = .ok (.ireturn, 1) := by decide +kernel
set_option maxRecDepth 20000 in
theorem ggX9_climbs_X9_areEnds : GoodIn wsX9_climbs wsX9_areEnds := goodIn_r _ [5, 6, 7, 8, 4, 9, 10, 11, 12, 13, 39, 40, 41, 42, 43, 44, 45, 46, 47, 48, 49, 50, 51, 52, 53, 54, 55, 56] (by decide +kernel) (by decide +kernel)
set_option maxRecDepth 20000 in
theorem gX9_climbs_X9_areEnds : GoodIn wsX9_climbs (wsV RX9 187 RX9 yX9_areEnds wsX9_areEnds) := goodIn_app (goodIn_of _ (by decide +kernel)) ggX9_climbs_X9_areEnds
set_option maxRecDepth 20000 in
theorem ggX9_climbs_X9_in : GoodIn wsX9_climbs wsX9_in := goodIn_r _ [13] (by decide +kernel) (by decide +kernel)
set_option maxRecDepth 20000 in
theorem gX9_climbs_X9_in : GoodIn wsX9_climbs (va_wsS RX9 51 yX9_in wsX9_in) := goodIn_app (goodIn_of _ (by decide +kernel)) ggX9_climbs_X9_in
set_option maxRecDepth 20000 in
theorem ggX9_climbs_X9_added : GoodIn wsX9_climbs wsX9_added := goodIn_r _ [17, 18, 19, 20, 21, 4, 22, 10, 23, 24, 25, 26, 27, 28, 29, 30, 31, 32, 33, 39, 40, 41, 42, 43, 44, 45, 46, 47, 48, 49, 50, 51, 52, 53, 54, 55, 56] (by decide +kernel) (by decide +kernel)
set_option maxRecDepth 20000 in
theorem gX9_climbs_X9_added : GoodIn wsX9_climbs (wsV RX9 190 RX9 yX9_added wsX9_added) := goodIn_app (goodIn_of _ (by decide +kernel)) ggX9_climbs_X9_added
set_option maxRecDepth 20000 in
theorem ggX9_climbs_X9_gone : GoodIn wsX9_climbs wsX9_gone := goodIn_r _ [37, 18, 38, 19, 20, 21, 4, 22, 10, 23, 24, 25, 26, 27, 28, 29, 30, 31, 32, 33, 39, 40, 41, 42, 43, 44, 45, 46, 47, 48, 49, 50, 51, 52, 53, 54, 55, 56] (by decide +kernel) (by decide +kernel)
set_option maxRecDepth 20000 in
theorem gX9_climbs_X9_gone : GoodIn wsX9_climbs (wsV RX9 193 RX9 yX9_gone wsX9_gone) := goodIn_app (goodIn_of _ (by decide +kernel)) ggX9_climbs_X9_gone
theorem dX9_climbs_0 : decode cX9_climbs 0 = .ok (.aload_n 0, 1) := by decide +kernel
theorem dX9_climbs_1 : decode cX9_climbs 1 = .ok (.iload_n 1, 1) := by decide +kernel
theorem dX9_climbs_2 : decode cX9_climbs 2 = .ok (.iload_n 2, 1) := by decide +kernel
theorem dX9_climbs_3 : decode cX9_climbs 3 = .ok (.invokevirtual 187, 3) := by decide +kernel
theorem dX9_climbs_6 : decode cX9_climbs 6 = .ok (.ifCond .eq 12, 3) := by decide +kernel
theorem dX9_climbs_9 : decode cX9_climbs 9 = .ok (.iload_n 3, 1) := by decide +kernel
theorem dX9_climbs_10 : decode cX9_climbs 10 = .ok (.iconst 0, 1) := by decide +kernel
theorem dX9_climbs_11 : decode cX9_climbs 11 = .ok (.iconst 1, 1) := by decide +kernel
theorem dX9_climbs_12 : decode cX9_climbs 12 = .ok (.invokestatic 51, 3) := by decide +kernel
theorem dX9_climbs_15 : decode cX9_climbs 15 = .ok (.ifCond .ne 5, 3) := by decide +kernel
theorem dX9_climbs_18 : decode cX9_climbs 18 = .ok (.iconst (-1), 1) := by decide +kernel
theorem dX9_climbs_19 : decode cX9_climbs 19 = .ok (.ireturn, 1) := by decide +kernel
theorem dX9_climbs_20 : decode cX9_climbs 20 = .ok (.iload_n 3, 1) := by decide +kernel
theorem dX9_climbs_21 : decode cX9_climbs 21 = .ok (.ifCond .ne 12, 3) := by decide +kernel
theorem dX9_climbs_24 : decode cX9_climbs 24 = .ok (.aload_n 0, 1) := by decide +kernel
theorem dX9_climbs_25 : decode cX9_climbs 25 = .ok (.iload_n 1, 1) := by decide +kernel
theorem dX9_climbs_26 : decode cX9_climbs 26 = .ok (.iload_n 2, 1) := by decide +kernel
theorem dX9_climbs_27 : decode cX9_climbs 27 = .ok (.invokevirtual 190, 3) := by decide +kernel
theorem dX9_climbs_30 : decode cX9_climbs 30 = .ok (.goto 9, 3) := by decide +kernel
theorem dX9_climbs_33 : decode cX9_climbs 33 = .ok (.aload_n 0, 1) := by decide +kernel
theorem dX9_climbs_34 : decode cX9_climbs 34 = .ok (.iload_n 1, 1) := by decide +kernel
theorem dX9_climbs_35 : decode cX9_climbs 35 = .ok (.iload_n 2, 1) := by decide +kernel
theorem dX9_climbs_36 : decode cX9_climbs 36 = .ok (.invokevirtual 193, 3) := by decide +kernel
theorem dX9_climbs_39 : decode cX9_climbs 39 = .ok (.ireturn, 1) := by decide +kernel
set_option maxRecDepth 20000 in
theorem ggX9_finds_X9_of : GoodIn wsX9_finds wsX9_of := goodIn_r _ [7, 8, 20, 21, 22, 23, 24, 25, 26, 27, 28, 29, 30, 31, 32, 33, 34, 35, 36, 37] (by decide +kernel) (by decide +kernel)
set_option maxRecDepth 20000 in
theorem gX9_finds_X9_of : GoodIn wsX9_finds (wsV RX9 59 RX9 yX9_of wsX9_of) := goodIn_app (goodIn_of _ (by decide +kernel)) ggX9_finds_X9_of
set_option maxRecDepth 20000 in
theorem ggX9_finds_X9_canGo : GoodIn wsX9_finds wsX9_canGo := goodIn_r _ [12, 8, 13, 14, 15, 6, 16, 3, 4, 5, 7, 17, 18, 19, 20, 21, 22, 23, 24, 25, 26, 27, 28, 29, 30, 31, 32, 33, 34, 35, 36, 37] (by decide +kernel) (by decide +kernel)
set_option maxRecDepth 20000 in
theorem gX9_finds_X9_canGo : GoodIn wsX9_finds (wsV RX9 184 RX9 yX9_canGo wsX9_canGo) := goodIn_app (goodIn_of _ (by decide +kernel)) ggX9_finds_X9_canGo
theorem dX9_finds_0 : decode cX9_finds 0 = .ok (.iload_n 2, 1) := by decide +kernel
theorem dX9_finds_1 : decode cX9_finds 1 = .ok (.istore 4, 2) := by decide +kernel
theorem dX9_finds_3 : decode cX9_finds 3 = .ok (.iload 4, 2) := by decide +kernel
theorem dX9_finds_5 : decode cX9_finds 5 = .ok (.iload_n 1, 1) := by decide +kernel
theorem dX9_finds_6 : decode cX9_finds 6 = .ok (.if_icmp .lt 158, 3) := by decide +kernel
theorem dX9_finds_9 : decode cX9_finds 9 = .ok (.iload_n 3, 1) := by decide +kernel
theorem dX9_finds_10 : decode cX9_finds 10 = .ok (.iconst 2, 1) := by decide +kernel
theorem dX9_finds_11 : decode cX9_finds 11 = .ok (.if_icmp .ne 12, 3) := by decide +kernel
theorem dX9_finds_14 : decode cX9_finds 14 = .ok (.aload_n 0, 1) := by decide +kernel
theorem dX9_finds_15 : decode cX9_finds 15 = .ok (.iload 4, 2) := by decide +kernel
theorem dX9_finds_17 : decode cX9_finds 17 = .ok (.invokevirtual 59, 3) := by decide +kernel
theorem dX9_finds_20 : decode cX9_finds 20 = .ok (.goto 13, 3) := by decide +kernel
theorem dX9_finds_23 : decode cX9_finds 23 = .ok (.iload_n 3, 1) := by decide +kernel
theorem dX9_finds_24 : decode cX9_finds 24 = .ok (.iconst 1, 1) := by decide +kernel
theorem dX9_finds_25 : decode cX9_finds 25 = .ok (.if_icmp .ne 7, 3) := by decide +kernel
theorem dX9_finds_28 : decode cX9_finds 28 = .ok (.iconst (-1), 1) := by decide +kernel
theorem dX9_finds_29 : decode cX9_finds 29 = .ok (.goto 4, 3) := by decide +kernel
theorem dX9_finds_32 : decode cX9_finds 32 = .ok (.iconst 1, 1) := by decide +kernel
theorem dX9_finds_33 : decode cX9_finds 33 = .ok (.istore 5, 2) := by decide +kernel
theorem dX9_finds_35 : decode cX9_finds 35 = .ok (.aload_n 0, 1) := by decide +kernel
theorem dX9_finds_36 : decode cX9_finds 36 = .ok (.getfield 40, 3) := by decide +kernel
theorem dX9_finds_39 : decode cX9_finds 39 = .ok (.iload 4, 2) := by decide +kernel
theorem dX9_finds_41 : decode cX9_finds 41 = .ok (.iload 4, 2) := by decide +kernel
theorem dX9_finds_43 : decode cX9_finds 43 = .ok (.iload_n 2, 1) := by decide +kernel
theorem dX9_finds_44 : decode cX9_finds 44 = .ok (.if_icmp .ne 7, 3) := by decide +kernel
theorem dX9_finds_47 : decode cX9_finds 47 = .ok (.iload_n 2, 1) := by decide +kernel
theorem dX9_finds_48 : decode cX9_finds 48 = .ok (.goto 5, 3) := by decide +kernel
theorem dX9_finds_51 : decode cX9_finds 51 = .ok (.bipush (-4), 2) := by decide +kernel
theorem dX9_finds_53 : decode cX9_finds 53 = .ok (.iastore, 1) := by decide +kernel
theorem dX9_finds_54 : decode cX9_finds 54 = .ok (.aload_n 0, 1) := by decide +kernel
theorem dX9_finds_55 : decode cX9_finds 55 = .ok (.getfield 37, 3) := by decide +kernel
theorem dX9_finds_58 : decode cX9_finds 58 = .ok (.iload 4, 2) := by decide +kernel
theorem dX9_finds_60 : decode cX9_finds 60 = .ok (.iload 5, 2) := by decide +kernel
theorem dX9_finds_62 : decode cX9_finds 62 = .ok (.iastore, 1) := by decide +kernel
theorem dX9_finds_63 : decode cX9_finds 63 = .ok (.iload 4, 2) := by decide +kernel
theorem dX9_finds_65 : decode cX9_finds 65 = .ok (.iconst 1, 1) := by decide +kernel
theorem dX9_finds_66 : decode cX9_finds 66 = .ok (.iadd, 1) := by decide +kernel
theorem dX9_finds_67 : decode cX9_finds 67 = .ok (.istore 6, 2) := by decide +kernel
theorem dX9_finds_69 : decode cX9_finds 69 = .ok (.iload 6, 2) := by decide +kernel
theorem dX9_finds_71 : decode cX9_finds 71 = .ok (.iload_n 2, 1) := by decide +kernel
theorem dX9_finds_72 : decode cX9_finds 72 = .ok (.if_icmp .gt 86, 3) := by decide +kernel
theorem dX9_finds_75 : decode cX9_finds 75 = .ok (.aload_n 0, 1) := by decide +kernel
theorem dX9_finds_76 : decode cX9_finds 76 = .ok (.getfield 40, 3) := by decide +kernel
theorem dX9_finds_79 : decode cX9_finds 79 = .ok (.iload 6, 2) := by decide +kernel
theorem dX9_finds_81 : decode cX9_finds 81 = .ok (.iaload, 1) := by decide +kernel
theorem dX9_finds_82 : decode cX9_finds 82 = .ok (.ifCond .lt 70, 3) := by decide +kernel
theorem dX9_finds_85 : decode cX9_finds 85 = .ok (.aload_n 0, 1) := by decide +kernel
theorem dX9_finds_86 : decode cX9_finds 86 = .ok (.iload 4, 2) := by decide +kernel
theorem dX9_finds_88 : decode cX9_finds 88 = .ok (.iload 6, 2) := by decide +kernel
theorem dX9_finds_90 : decode cX9_finds 90 = .ok (.invokevirtual 184, 3) := by decide +kernel
theorem dX9_finds_93 : decode cX9_finds 93 = .ok (.ifCond .eq 59, 3) := by decide +kernel
theorem dX9_finds_96 : decode cX9_finds 96 = .ok (.aload_n 0, 1) := by decide +kernel
theorem dX9_finds_97 : decode cX9_finds 97 = .ok (.getfield 40, 3) := by decide +kernel
theorem dX9_finds_100 : decode cX9_finds 100 = .ok (.iload 4, 2) := by decide +kernel
theorem dX9_finds_102 : decode cX9_finds 102 = .ok (.iaload, 1) := by decide +kernel
theorem dX9_finds_103 : decode cX9_finds 103 = .ok (.ifCond .lt 23, 3) := by decide +kernel
theorem dX9_finds_106 : decode cX9_finds 106 = .ok (.iload 5, 2) := by decide +kernel
theorem dX9_finds_108 : decode cX9_finds 108 = .ok (.aload_n 0, 1) := by decide +kernel
theorem dX9_finds_109 : decode cX9_finds 109 = .ok (.getfield 37, 3) := by decide +kernel
theorem dX9_finds_112 : decode cX9_finds 112 = .ok (.iload 6, 2) := by decide +kernel
theorem dX9_finds_114 : decode cX9_finds 114 = .ok (.iaload, 1) := by decide +kernel
theorem dX9_finds_115 : decode cX9_finds 115 = .ok (.iadd, 1) := by decide +kernel
theorem dX9_finds_116 : decode cX9_finds 116 = .ok (.aload_n 0, 1) := by decide +kernel
theorem dX9_finds_117 : decode cX9_finds 117 = .ok (.getfield 37, 3) := by decide +kernel
theorem dX9_finds_120 : decode cX9_finds 120 = .ok (.iload 4, 2) := by decide +kernel
theorem dX9_finds_122 : decode cX9_finds 122 = .ok (.iaload, 1) := by decide +kernel
theorem dX9_finds_123 : decode cX9_finds 123 = .ok (.if_icmp .le 29, 3) := by decide +kernel
theorem dX9_finds_126 : decode cX9_finds 126 = .ok (.aload_n 0, 1) := by decide +kernel
theorem dX9_finds_127 : decode cX9_finds 127 = .ok (.getfield 40, 3) := by decide +kernel
theorem dX9_finds_130 : decode cX9_finds 130 = .ok (.iload 4, 2) := by decide +kernel
theorem dX9_finds_132 : decode cX9_finds 132 = .ok (.iload 6, 2) := by decide +kernel
theorem dX9_finds_134 : decode cX9_finds 134 = .ok (.iastore, 1) := by decide +kernel
theorem dX9_finds_135 : decode cX9_finds 135 = .ok (.aload_n 0, 1) := by decide +kernel
theorem dX9_finds_136 : decode cX9_finds 136 = .ok (.getfield 37, 3) := by decide +kernel
theorem dX9_finds_139 : decode cX9_finds 139 = .ok (.iload 4, 2) := by decide +kernel
theorem dX9_finds_141 : decode cX9_finds 141 = .ok (.iload 5, 2) := by decide +kernel
theorem dX9_finds_143 : decode cX9_finds 143 = .ok (.aload_n 0, 1) := by decide +kernel
theorem dX9_finds_144 : decode cX9_finds 144 = .ok (.getfield 37, 3) := by decide +kernel
theorem dX9_finds_147 : decode cX9_finds 147 = .ok (.iload 6, 2) := by decide +kernel
theorem dX9_finds_149 : decode cX9_finds 149 = .ok (.iaload, 1) := by decide +kernel
theorem dX9_finds_150 : decode cX9_finds 150 = .ok (.iadd, 1) := by decide +kernel
theorem dX9_finds_151 : decode cX9_finds 151 = .ok (.iastore, 1) := by decide +kernel
theorem dX9_finds_152 : decode cX9_finds 152 = .ok (.iinc 6 1, 3) := by decide +kernel
theorem dX9_finds_155 : decode cX9_finds 155 = .ok (.goto (-86), 3) := by decide +kernel
theorem dX9_finds_158 : decode cX9_finds 158 = .ok (.iinc 4 (-1), 3) := by decide +kernel
theorem dX9_finds_161 : decode cX9_finds 161 = .ok (.goto (-158), 3) := by decide +kernel
theorem dX9_finds_164 : decode cX9_finds 164 = .ok (.aload_n 0, 1) := by decide +kernel
theorem dX9_finds_165 : decode cX9_finds 165 = .ok (.getfield 40, 3) := by decide +kernel
theorem dX9_finds_168 : decode cX9_finds 168 = .ok (.iload_n 1, 1) := by decide +kernel
theorem dX9_finds_169 : decode cX9_finds 169 = .ok (.iaload, 1) := by decide +kernel
theorem dX9_finds_170 : decode cX9_finds 170 = .ok (.ifCond .lt 7, 3) := by decide +kernel
theorem dX9_finds_173 : decode cX9_finds 173 = .ok (.iconst 1, 1) := by decide +kernel
theorem dX9_finds_174 : decode cX9_finds 174 = .ok (.goto 4, 3) := by decide +kernel
theorem dX9_finds_177 : decode cX9_finds 177 = .ok (.iconst 0, 1) := by decide +kernel
theorem dX9_finds_178 : decode cX9_finds 178 = .ok (.ireturn, 1) := by decide +kernel
set_option maxRecDepth 20000 in
theorem ggX9_measure_X9_of : GoodIn wsX9_measure wsX9_of := goodIn_r _ [6, 7, 11, 12, 13, 14, 15, 16, 17, 18, 19, 20, 21, 22, 23, 24, 25, 26, 27, 28] (by decide +kernel) (by decide +kernel)
set_option maxRecDepth 20000 in
theorem gX9_measure_X9_of : GoodIn wsX9_measure (wsV RX9 59 RX9 yX9_of wsX9_of) := goodIn_app (goodIn_of _ (by decide +kernel)) ggX9_measure_X9_of
set_option maxRecDepth 20000 in
theorem ggX9_measure_X9_divisor : GoodIn wsX9_measure wsX9_divisor := goodIn_r _ [10] (by decide +kernel) (by decide +kernel)
set_option maxRecDepth 20000 in
theorem gX9_measure_X9_divisor : GoodIn wsX9_measure (va_wsS RX9 62 yX9_divisor wsX9_divisor) := goodIn_app (goodIn_of _ (by decide +kernel)) ggX9_measure_X9_divisor
theorem dX9_measure_0 : decode cX9_measure 0 = .ok (.iconst 1, 1) := by decide +kernel
theorem dX9_measure_1 : decode cX9_measure 1 = .ok (.istore 4, 2) := by decide +kernel
theorem dX9_measure_3 : decode cX9_measure 3 = .ok (.aload_n 0, 1) := by decide +kernel
theorem dX9_measure_4 : decode cX9_measure 4 = .ok (.iload_n 1, 1) := by decide +kernel
theorem dX9_measure_5 : decode cX9_measure 5 = .ok (.invokevirtual 59, 3) := by decide +kernel
theorem dX9_measure_8 : decode cX9_measure 8 = .ok (.istore 5, 2) := by decide +kernel
theorem dX9_measure_10 : decode cX9_measure 10 = .ok (.aload_n 0, 1) := by decide +kernel
theorem dX9_measure_11 : decode cX9_measure 11 = .ok (.iload_n 1, 1) := by decide +kernel
theorem dX9_measure_12 : decode cX9_measure 12 = .ok (.invokevirtual 59, 3) := by decide +kernel
theorem dX9_measure_15 : decode cX9_measure 15 = .ok (.istore 6, 2) := by decide +kernel
theorem dX9_measure_17 : decode cX9_measure 17 = .ok (.iload_n 1, 1) := by decide +kernel
theorem dX9_measure_18 : decode cX9_measure 18 = .ok (.istore 7, 2) := by decide +kernel
theorem dX9_measure_20 : decode cX9_measure 20 = .ok (.iload 7, 2) := by decide +kernel
theorem dX9_measure_22 : decode cX9_measure 22 = .ok (.iload_n 2, 1) := by decide +kernel
theorem dX9_measure_23 : decode cX9_measure 23 = .ok (.if_icmp .eq 42, 3) := by decide +kernel
theorem dX9_measure_26 : decode cX9_measure 26 = .ok (.aload_n 0, 1) := by decide +kernel
theorem dX9_measure_27 : decode cX9_measure 27 = .ok (.getfield 40, 3) := by decide +kernel
theorem dX9_measure_30 : decode cX9_measure 30 = .ok (.iload 7, 2) := by decide +kernel
theorem dX9_measure_32 : decode cX9_measure 32 = .ok (.iaload, 1) := by decide +kernel
theorem dX9_measure_33 : decode cX9_measure 33 = .ok (.istore 7, 2) := by decide +kernel
theorem dX9_measure_35 : decode cX9_measure 35 = .ok (.iinc 4 1, 3) := by decide +kernel
theorem dX9_measure_38 : decode cX9_measure 38 = .ok (.iload 5, 2) := by decide +kernel
theorem dX9_measure_40 : decode cX9_measure 40 = .ok (.aload_n 0, 1) := by decide +kernel
theorem dX9_measure_41 : decode cX9_measure 41 = .ok (.iload 7, 2) := by decide +kernel
theorem dX9_measure_43 : decode cX9_measure 43 = .ok (.invokevirtual 59, 3) := by decide +kernel
theorem dX9_measure_46 : decode cX9_measure 46 = .ok (.iadd, 1) := by decide +kernel
theorem dX9_measure_47 : decode cX9_measure 47 = .ok (.istore 5, 2) := by decide +kernel
theorem dX9_measure_49 : decode cX9_measure 49 = .ok (.iload 6, 2) := by decide +kernel
theorem dX9_measure_51 : decode cX9_measure 51 = .ok (.aload_n 0, 1) := by decide +kernel
theorem dX9_measure_52 : decode cX9_measure 52 = .ok (.iload 7, 2) := by decide +kernel
theorem dX9_measure_54 : decode cX9_measure 54 = .ok (.invokevirtual 59, 3) := by decide +kernel
theorem dX9_measure_57 : decode cX9_measure 57 = .ok (.invokestatic 62, 3) := by decide +kernel
theorem dX9_measure_60 : decode cX9_measure 60 = .ok (.istore 6, 2) := by decide +kernel
theorem dX9_measure_62 : decode cX9_measure 62 = .ok (.goto (-42), 3) := by decide +kernel
theorem dX9_measure_65 : decode cX9_measure 65 = .ok (.iload_n 3, 1) := by decide +kernel
theorem dX9_measure_66 : decode cX9_measure 66 = .ok (.ifCond .ne 8, 3) := by decide +kernel
theorem dX9_measure_69 : decode cX9_measure 69 = .ok (.iload 4, 2) := by decide +kernel
theorem dX9_measure_71 : decode cX9_measure 71 = .ok (.goto 15, 3) := by decide +kernel
theorem dX9_measure_74 : decode cX9_measure 74 = .ok (.iload_n 3, 1) := by decide +kernel
theorem dX9_measure_75 : decode cX9_measure 75 = .ok (.iconst 1, 1) := by decide +kernel
theorem dX9_measure_76 : decode cX9_measure 76 = .ok (.if_icmp .ne 8, 3) := by decide +kernel
theorem dX9_measure_79 : decode cX9_measure 79 = .ok (.iload 5, 2) := by decide +kernel
theorem dX9_measure_81 : decode cX9_measure 81 = .ok (.goto 5, 3) := by decide +kernel
theorem dX9_measure_84 : decode cX9_measure 84 = .ok (.iload 6, 2) := by decide +kernel
theorem dX9_measure_86 : decode cX9_measure 86 = .ok (.ireturn, 1) := by decide +kernel
set_option maxRecDepth 20000 in
theorem ggX9_climb_X9_areEnds : GoodIn wsX9_climb wsX9_areEnds := goodIn_r _ [5, 6, 7, 8, 4, 9, 10, 11, 12, 13, 39, 40, 41, 42, 43, 44, 45, 46, 47, 48, 49, 50, 51, 52, 53, 54, 55, 56] (by decide +kernel) (by decide +kernel)
set_option maxRecDepth 20000 in
theorem gX9_climb_X9_areEnds : GoodIn wsX9_climb (wsV RX9 187 RX9 yX9_areEnds wsX9_areEnds) := goodIn_app (goodIn_of _ (by decide +kernel)) ggX9_climb_X9_areEnds
set_option maxRecDepth 20000 in
theorem ggX9_climb_X9_in : GoodIn wsX9_climb wsX9_in := goodIn_r _ [13] (by decide +kernel) (by decide +kernel)
set_option maxRecDepth 20000 in
theorem gX9_climb_X9_in : GoodIn wsX9_climb (va_wsS RX9 51 yX9_in wsX9_in) := goodIn_app (goodIn_of _ (by decide +kernel)) ggX9_climb_X9_in
set_option maxRecDepth 20000 in
theorem ggX9_climb_X9_finds : GoodIn wsX9_climb wsX9_finds := goodIn_r _ [17, 18, 19, 20, 21, 22, 4, 23, 10, 24, 25, 26, 27, 28, 29, 30, 31, 32, 33, 34, 39, 40, 41, 42, 43, 44, 45, 46, 47, 48, 49, 50, 51, 52, 53, 54, 55, 56] (by decide +kernel) (by decide +kernel)
set_option maxRecDepth 20000 in
theorem gX9_climb_X9_finds : GoodIn wsX9_climb (wsV RX9 196 RX9 yX9_finds wsX9_finds) := goodIn_app (goodIn_of _ (by decide +kernel)) ggX9_climb_X9_finds
set_option maxRecDepth 20000 in
theorem ggX9_climb_X9_measure : GoodIn wsX9_climb wsX9_measure := goodIn_r _ [38, 18, 20, 21, 22, 4, 23, 10, 32, 33, 34, 39, 40, 41, 42, 43, 44, 45, 46, 47, 48, 49, 50, 51, 52, 53, 54, 55, 56] (by decide +kernel) (by decide +kernel)
set_option maxRecDepth 20000 in
theorem gX9_climb_X9_measure : GoodIn wsX9_climb (wsV RX9 199 RX9 yX9_measure wsX9_measure) := goodIn_app (goodIn_of _ (by decide +kernel)) ggX9_climb_X9_measure
theorem dX9_climb_0 : decode cX9_climb 0 = .ok (.aload_n 0, 1) := by decide +kernel
theorem dX9_climb_1 : decode cX9_climb 1 = .ok (.iload_n 1, 1) := by decide +kernel
theorem dX9_climb_2 : decode cX9_climb 2 = .ok (.iload_n 2, 1) := by decide +kernel
theorem dX9_climb_3 : decode cX9_climb 3 = .ok (.invokevirtual 187, 3) := by decide +kernel
theorem dX9_climb_6 : decode cX9_climb 6 = .ok (.ifCond .eq 22, 3) := by decide +kernel
theorem dX9_climb_9 : decode cX9_climb 9 = .ok (.iload_n 3, 1) := by decide +kernel
theorem dX9_climb_10 : decode cX9_climb 10 = .ok (.iconst 0, 1) := by decide +kernel
theorem dX9_climb_11 : decode cX9_climb 11 = .ok (.iconst 2, 1) := by decide +kernel
theorem dX9_climb_12 : decode cX9_climb 12 = .ok (.invokestatic 51, 3) := by decide +kernel
theorem dX9_climb_15 : decode cX9_climb 15 = .ok (.ifCond .eq 13, 3) := by decide +kernel
theorem dX9_climb_18 : decode cX9_climb 18 = .ok (.iload 4, 2) := by decide +kernel
theorem dX9_climb_20 : decode cX9_climb 20 = .ok (.iconst 0, 1) := by decide +kernel
theorem dX9_climb_21 : decode cX9_climb 21 = .ok (.iconst 2, 1) := by decide +kernel
theorem dX9_climb_22 : decode cX9_climb 22 = .ok (.invokestatic 51, 3) := by decide +kernel
theorem dX9_climb_25 : decode cX9_climb 25 = .ok (.ifCond .ne 5, 3) := by decide +kernel
theorem dX9_climb_28 : decode cX9_climb 28 = .ok (.iconst (-1), 1) := by decide +kernel
theorem dX9_climb_29 : decode cX9_climb 29 = .ok (.ireturn, 1) := by decide +kernel
theorem dX9_climb_30 : decode cX9_climb 30 = .ok (.aload_n 0, 1) := by decide +kernel
theorem dX9_climb_31 : decode cX9_climb 31 = .ok (.iload_n 1, 1) := by decide +kernel
theorem dX9_climb_32 : decode cX9_climb 32 = .ok (.iload_n 2, 1) := by decide +kernel
theorem dX9_climb_33 : decode cX9_climb 33 = .ok (.iload_n 3, 1) := by decide +kernel
theorem dX9_climb_34 : decode cX9_climb 34 = .ok (.invokevirtual 196, 3) := by decide +kernel
theorem dX9_climb_37 : decode cX9_climb 37 = .ok (.ifCond .eq 14, 3) := by decide +kernel
theorem dX9_climb_40 : decode cX9_climb 40 = .ok (.aload_n 0, 1) := by decide +kernel
theorem dX9_climb_41 : decode cX9_climb 41 = .ok (.iload_n 1, 1) := by decide +kernel
theorem dX9_climb_42 : decode cX9_climb 42 = .ok (.iload_n 2, 1) := by decide +kernel
theorem dX9_climb_43 : decode cX9_climb 43 = .ok (.iload 4, 2) := by decide +kernel
theorem dX9_climb_45 : decode cX9_climb 45 = .ok (.invokevirtual 199, 3) := by decide +kernel
theorem dX9_climb_48 : decode cX9_climb 48 = .ok (.goto 5, 3) := by decide +kernel
theorem dX9_climb_51 : decode cX9_climb 51 = .ok (.bipush (-4), 2) := by decide +kernel
theorem dX9_climb_53 : decode cX9_climb 53 = .ok (.ireturn, 1) := by decide +kernel
set_option maxRecDepth 20000 in
theorem ggX9_climbAt_X9_areEnds : GoodIn wsX9_climbAt wsX9_areEnds := goodIn_r _ [6, 7, 8, 9, 5, 10, 11, 12, 13, 14, 39, 40, 41, 42, 43, 44, 45, 46, 47, 48, 49, 50, 51, 52, 53, 54, 55, 56] (by decide +kernel) (by decide +kernel)
set_option maxRecDepth 20000 in
theorem gX9_climbAt_X9_areEnds : GoodIn wsX9_climbAt (wsV RX9 187 RX9 yX9_areEnds wsX9_areEnds) := goodIn_app (goodIn_of _ (by decide +kernel)) ggX9_climbAt_X9_areEnds
set_option maxRecDepth 20000 in
theorem ggX9_climbAt_X9_in : GoodIn wsX9_climbAt wsX9_in := goodIn_r _ [14] (by decide +kernel) (by decide +kernel)
set_option maxRecDepth 20000 in
theorem gX9_climbAt_X9_in : GoodIn wsX9_climbAt (va_wsS RX9 51 yX9_in wsX9_in) := goodIn_app (goodIn_of _ (by decide +kernel)) ggX9_climbAt_X9_in
set_option maxRecDepth 20000 in
theorem ggX9_climbAt_X9_finds : GoodIn wsX9_climbAt wsX9_finds := goodIn_r _ [18, 1, 19, 20, 21, 22, 5, 23, 11, 24, 25, 26, 27, 28, 29, 30, 31, 32, 33, 34, 39, 40, 41, 42, 43, 44, 45, 46, 47, 48, 49, 50, 51, 52, 53, 54, 55, 56] (by decide +kernel) (by decide +kernel)
set_option maxRecDepth 20000 in
theorem gX9_climbAt_X9_finds : GoodIn wsX9_climbAt (wsV RX9 196 RX9 yX9_finds wsX9_finds) := goodIn_app (goodIn_of _ (by decide +kernel)) ggX9_climbAt_X9_finds
set_option maxRecDepth 20000 in
theorem ggX9_climbAt_X9_measure : GoodIn wsX9_climbAt wsX9_measure := goodIn_r _ [38, 1, 20, 21, 22, 5, 23, 11, 32, 33, 34, 39, 40, 41, 42, 43, 44, 45, 46, 47, 48, 49, 50, 51, 52, 53, 54, 55, 56] (by decide +kernel) (by decide +kernel)
set_option maxRecDepth 20000 in
theorem gX9_climbAt_X9_measure : GoodIn wsX9_climbAt (wsV RX9 199 RX9 yX9_measure wsX9_measure) := goodIn_app (goodIn_of _ (by decide +kernel)) ggX9_climbAt_X9_measure
theorem dX9_climbAt_0 : decode cX9_climbAt 0 = .ok (.aload_n 0, 1) := by decide +kernel
theorem dX9_climbAt_1 : decode cX9_climbAt 1 = .ok (.iload_n 1, 1) := by decide +kernel
theorem dX9_climbAt_2 : decode cX9_climbAt 2 = .ok (.iload_n 2, 1) := by decide +kernel
theorem dX9_climbAt_3 : decode cX9_climbAt 3 = .ok (.invokevirtual 187, 3) := by decide +kernel
theorem dX9_climbAt_6 : decode cX9_climbAt 6 = .ok (.ifCond .eq 17, 3) := by decide +kernel
theorem dX9_climbAt_9 : decode cX9_climbAt 9 = .ok (.iload_n 3, 1) := by decide +kernel
theorem dX9_climbAt_10 : decode cX9_climbAt 10 = .ok (.iconst 0, 1) := by decide +kernel
theorem dX9_climbAt_11 : decode cX9_climbAt 11 = .ok (.iconst 2, 1) := by decide +kernel
theorem dX9_climbAt_12 : decode cX9_climbAt 12 = .ok (.invokestatic 51, 3) := by decide +kernel
theorem dX9_climbAt_15 : decode cX9_climbAt 15 = .ok (.ifCond .eq 8, 3) := by decide +kernel
theorem dX9_climbAt_18 : decode cX9_climbAt 18 = .ok (.iload 4, 2) := by decide +kernel
theorem dX9_climbAt_20 : decode cX9_climbAt 20 = .ok (.ifCond .ge 5, 3) := by decide +kernel
theorem dX9_climbAt_23 : decode cX9_climbAt 23 = .ok (.iconst (-1), 1) := by decide +kernel
