theorem dX9_bestStrike_21 : decode cX9_bestStrike 21 = .ok (.istore 5, 2) := by decide +kernel
theorem dX9_bestStrike_23 : decode cX9_bestStrike 23 = .ok (.iload 5, 2) := by decide +kernel
theorem dX9_bestStrike_25 : decode cX9_bestStrike 25 = .ok (.aload_n 0, 1) := by decide +kernel
theorem dX9_bestStrike_26 : decode cX9_bestStrike 26 = .ok (.iload_n 3, 1) := by decide +kernel
theorem dX9_bestStrike_27 : decode cX9_bestStrike 27 = .ok (.invokevirtual 59, 3) := by decide +kernel
theorem dX9_bestStrike_30 : decode cX9_bestStrike 30 = .ok (.iconst 1, 1) := by decide +kernel
theorem dX9_bestStrike_31 : decode cX9_bestStrike 31 = .ok (.invokestatic 171, 3) := by decide +kernel
theorem dX9_bestStrike_34 : decode cX9_bestStrike 34 = .ok (.if_icmp .ge 81, 3) := by decide +kernel
theorem dX9_bestStrike_37 : decode cX9_bestStrike 37 = .ok (.aload_n 0, 1) := by decide +kernel
theorem dX9_bestStrike_38 : decode cX9_bestStrike 38 = .ok (.iload_n 3, 1) := by decide +kernel
theorem dX9_bestStrike_39 : decode cX9_bestStrike 39 = .ok (.invokevirtual 59, 3) := by decide +kernel
theorem dX9_bestStrike_42 : decode cX9_bestStrike 42 = .ok (.iload 5, 2) := by decide +kernel
theorem dX9_bestStrike_44 : decode cX9_bestStrike 44 = .ok (.invokestatic 175, 3) := by decide +kernel
theorem dX9_bestStrike_47 : decode cX9_bestStrike 47 = .ok (.iload 4, 2) := by decide +kernel
theorem dX9_bestStrike_49 : decode cX9_bestStrike 49 = .ok (.if_icmp .eq 60, 3) := by decide +kernel
theorem dX9_bestStrike_52 : decode cX9_bestStrike 52 = .ok (.aload_n 0, 1) := by decide +kernel
theorem dX9_bestStrike_53 : decode cX9_bestStrike 53 = .ok (.iload_n 3, 1) := by decide +kernel
theorem dX9_bestStrike_54 : decode cX9_bestStrike 54 = .ok (.invokevirtual 59, 3) := by decide +kernel
theorem dX9_bestStrike_57 : decode cX9_bestStrike 57 = .ok (.iload 5, 2) := by decide +kernel
theorem dX9_bestStrike_59 : decode cX9_bestStrike 59 = .ok (.invokestatic 175, 3) := by decide +kernel
theorem dX9_bestStrike_62 : decode cX9_bestStrike 62 = .ok (.istore 4, 2) := by decide +kernel
theorem dX9_bestStrike_64 : decode cX9_bestStrike 64 = .ok (.aload_n 0, 1) := by decide +kernel
theorem dX9_bestStrike_65 : decode cX9_bestStrike 65 = .ok (.iload_n 3, 1) := by decide +kernel
theorem dX9_bestStrike_66 : decode cX9_bestStrike 66 = .ok (.iload 4, 2) := by decide +kernel
theorem dX9_bestStrike_68 : decode cX9_bestStrike 68 = .ok (.invokevirtual 240, 3) := by decide +kernel
theorem dX9_bestStrike_71 : decode cX9_bestStrike 71 = .ok (.istore 6, 2) := by decide +kernel
theorem dX9_bestStrike_73 : decode cX9_bestStrike 73 = .ok (.iload_n 1, 1) := by decide +kernel
theorem dX9_bestStrike_74 : decode cX9_bestStrike 74 = .ok (.ifCond .lt 9, 3) := by decide +kernel
theorem dX9_bestStrike_77 : decode cX9_bestStrike 77 = .ok (.iload 6, 2) := by decide +kernel
theorem dX9_bestStrike_79 : decode cX9_bestStrike 79 = .ok (.iload_n 2, 1) := by decide +kernel
theorem dX9_bestStrike_80 : decode cX9_bestStrike 80 = .ok (.if_icmp .le 14, 3) := by decide +kernel
theorem dX9_bestStrike_83 : decode cX9_bestStrike 83 = .ok (.sipush 10000, 3) := by decide +kernel
theorem dX9_bestStrike_86 : decode cX9_bestStrike 86 = .ok (.iload_n 3, 1) := by decide +kernel
theorem dX9_bestStrike_87 : decode cX9_bestStrike 87 = .ok (.imul, 1) := by decide +kernel
theorem dX9_bestStrike_88 : decode cX9_bestStrike 88 = .ok (.iload 4, 2) := by decide +kernel
theorem dX9_bestStrike_90 : decode cX9_bestStrike 90 = .ok (.iadd, 1) := by decide +kernel
theorem dX9_bestStrike_91 : decode cX9_bestStrike 91 = .ok (.goto 4, 3) := by decide +kernel
theorem dX9_bestStrike_94 : decode cX9_bestStrike 94 = .ok (.iload_n 1, 1) := by decide +kernel
theorem dX9_bestStrike_95 : decode cX9_bestStrike 95 = .ok (.istore_n 1, 1) := by decide +kernel
theorem dX9_bestStrike_96 : decode cX9_bestStrike 96 = .ok (.iload 6, 2) := by decide +kernel
theorem dX9_bestStrike_98 : decode cX9_bestStrike 98 = .ok (.iload_n 2, 1) := by decide +kernel
theorem dX9_bestStrike_99 : decode cX9_bestStrike 99 = .ok (.if_icmp .le 8, 3) := by decide +kernel
theorem dX9_bestStrike_102 : decode cX9_bestStrike 102 = .ok (.iload 6, 2) := by decide +kernel
theorem dX9_bestStrike_104 : decode cX9_bestStrike 104 = .ok (.goto 4, 3) := by decide +kernel
theorem dX9_bestStrike_107 : decode cX9_bestStrike 107 = .ok (.iload_n 2, 1) := by decide +kernel
theorem dX9_bestStrike_108 : decode cX9_bestStrike 108 = .ok (.istore_n 2, 1) := by decide +kernel
theorem dX9_bestStrike_109 : decode cX9_bestStrike 109 = .ok (.iinc 5 1, 3) := by decide +kernel
theorem dX9_bestStrike_112 : decode cX9_bestStrike 112 = .ok (.goto (-89), 3) := by decide +kernel
theorem dX9_bestStrike_115 : decode cX9_bestStrike 115 = .ok (.iinc 3 1, 3) := by decide +kernel
theorem dX9_bestStrike_118 : decode cX9_bestStrike 118 = .ok (.goto (-111), 3) := by decide +kernel
theorem dX9_bestStrike_121 : decode cX9_bestStrike 121 = .ok (.iload_n 1, 1) := by decide +kernel
theorem dX9_bestStrike_122 : decode cX9_bestStrike 122 = .ok (.ireturn, 1) := by decide +kernel
theorem dX9_undo_0 : decode cX9_undo 0 = .ok (.aload_n 0, 1) := by decide +kernel
theorem dX9_undo_1 : decode cX9_undo 1 = .ok (.getfield 47, 3) := by decide +kernel
theorem dX9_undo_4 : decode cX9_undo 4 = .ok (.ifCond .ne 6, 3) := by decide +kernel
theorem dX9_undo_7 : decode cX9_undo 7 = .ok (.bipush (-2), 2) := by decide +kernel
theorem dX9_undo_9 : decode cX9_undo 9 = .ok (.ireturn, 1) := by decide +kernel
theorem dX9_undo_10 : decode cX9_undo 10 = .ok (.aload_n 0, 1) := by decide +kernel
theorem dX9_undo_11 : decode cX9_undo 11 = .ok (.dup, 1) := by decide +kernel
theorem dX9_undo_12 : decode cX9_undo 12 = .ok (.getfield 47, 3) := by decide +kernel
theorem dX9_undo_15 : decode cX9_undo 15 = .ok (.iconst 1, 1) := by decide +kernel
theorem dX9_undo_16 : decode cX9_undo 16 = .ok (.isub, 1) := by decide +kernel
theorem dX9_undo_17 : decode cX9_undo 17 = .ok (.putfield 47, 3) := by decide +kernel
theorem dX9_undo_20 : decode cX9_undo 20 = .ok (.iconst 0, 1) := by decide +kernel
theorem dX9_undo_21 : decode cX9_undo 21 = .ok (.istore_n 1, 1) := by decide +kernel
theorem dX9_undo_22 : decode cX9_undo 22 = .ok (.iload_n 1, 1) := by decide +kernel
theorem dX9_undo_23 : decode cX9_undo 23 = .ok (.sipush 1245, 3) := by decide +kernel
theorem dX9_undo_26 : decode cX9_undo 26 = .ok (.if_icmp .ge 30, 3) := by decide +kernel
theorem dX9_undo_29 : decode cX9_undo 29 = .ok (.aload_n 0, 1) := by decide +kernel
theorem dX9_undo_30 : decode cX9_undo 30 = .ok (.getfield 7, 3) := by decide +kernel
theorem dX9_undo_33 : decode cX9_undo 33 = .ok (.iload_n 1, 1) := by decide +kernel
theorem dX9_undo_34 : decode cX9_undo 34 = .ok (.aload_n 0, 1) := by decide +kernel
theorem dX9_undo_35 : decode cX9_undo 35 = .ok (.getfield 13, 3) := by decide +kernel
theorem dX9_undo_38 : decode cX9_undo 38 = .ok (.sipush 1245, 3) := by decide +kernel
theorem dX9_undo_41 : decode cX9_undo 41 = .ok (.aload_n 0, 1) := by decide +kernel
theorem dX9_undo_42 : decode cX9_undo 42 = .ok (.getfield 47, 3) := by decide +kernel
theorem dX9_undo_45 : decode cX9_undo 45 = .ok (.imul, 1) := by decide +kernel
theorem dX9_undo_46 : decode cX9_undo 46 = .ok (.iload_n 1, 1) := by decide +kernel
theorem dX9_undo_47 : decode cX9_undo 47 = .ok (.iadd, 1) := by decide +kernel
theorem dX9_undo_48 : decode cX9_undo 48 = .ok (.iaload, 1) := by decide +kernel
theorem dX9_undo_49 : decode cX9_undo 49 = .ok (.iastore, 1) := by decide +kernel
theorem dX9_undo_50 : decode cX9_undo 50 = .ok (.iinc 1 1, 3) := by decide +kernel
theorem dX9_undo_53 : decode cX9_undo 53 = .ok (.goto (-31), 3) := by decide +kernel
theorem dX9_undo_56 : decode cX9_undo 56 = .ok (.aload_n 0, 1) := by decide +kernel
theorem dX9_undo_57 : decode cX9_undo 57 = .ok (.getfield 47, 3) := by decide +kernel
theorem dX9_undo_60 : decode cX9_undo 60 = .ok (.ireturn, 1) := by decide +kernel
theorem dX9_save_0 : decode cX9_save 0 = .ok (.aload_n 0, 1) := by decide +kernel
theorem dX9_save_1 : decode cX9_save 1 = .ok (.iconst 1, 1) := by decide +kernel
theorem dX9_save_2 : decode cX9_save 2 = .ok (.putfield 243, 3) := by decide +kernel
theorem dX9_save_5 : decode cX9_save 5 = .ok (.iconst 0, 1) := by decide +kernel
theorem dX9_save_6 : decode cX9_save 6 = .ok (.istore_n 1, 1) := by decide +kernel
theorem dX9_save_7 : decode cX9_save 7 = .ok (.iload_n 1, 1) := by decide +kernel
theorem dX9_save_8 : decode cX9_save 8 = .ok (.sipush 1245, 3) := by decide +kernel
theorem dX9_save_11 : decode cX9_save 11 = .ok (.if_icmp .ge 21, 3) := by decide +kernel
theorem dX9_save_14 : decode cX9_save 14 = .ok (.aload_n 0, 1) := by decide +kernel
theorem dX9_save_15 : decode cX9_save 15 = .ok (.getfield 16, 3) := by decide +kernel
theorem dX9_save_18 : decode cX9_save 18 = .ok (.iload_n 1, 1) := by decide +kernel
theorem dX9_save_19 : decode cX9_save 19 = .ok (.aload_n 0, 1) := by decide +kernel
theorem dX9_save_20 : decode cX9_save 20 = .ok (.getfield 7, 3) := by decide +kernel
theorem dX9_save_23 : decode cX9_save 23 = .ok (.iload_n 1, 1) := by decide +kernel
theorem dX9_save_24 : decode cX9_save 24 = .ok (.iaload, 1) := by decide +kernel
theorem dX9_save_25 : decode cX9_save 25 = .ok (.iastore, 1) := by decide +kernel
theorem dX9_save_26 : decode cX9_save 26 = .ok (.iinc 1 1, 3) := by decide +kernel
theorem dX9_save_29 : decode cX9_save 29 = .ok (.goto (-22), 3) := by decide +kernel
theorem dX9_save_32 : decode cX9_save 32 = .ok (.aload_n 0, 1) := by decide +kernel
theorem dX9_save_33 : decode cX9_save 33 = .ok (.getfield 7, 3) := by decide +kernel
theorem dX9_save_36 : decode cX9_save 36 = .ok (.iconst 2, 1) := by decide +kernel
theorem dX9_save_37 : decode cX9_save 37 = .ok (.iaload, 1) := by decide +kernel
theorem dX9_save_38 : decode cX9_save 38 = .ok (.ireturn, 1) := by decide +kernel
set_option maxRecDepth 20000 in
theorem ggX9_restore_X9_changes : GoodIn wsX9_restore wsX9_changes := goodIn_r _ [8, 9, 10, 11, 2, 12, 13, 14, 15, 16, 17, 18, 19, 20, 21, 22, 23, 24, 25, 26, 27, 28, 29] (by decide +kernel) (by decide +kernel)
set_option maxRecDepth 20000 in
theorem gX9_restore_X9_changes : GoodIn wsX9_restore (wsV RX9 79 RX9 yX9_changes wsX9_changes) := goodIn_app (goodIn_of _ (by decide +kernel)) ggX9_restore_X9_changes
theorem dX9_restore_0 : decode cX9_restore 0 = .ok (.aload_n 0, 1) := by decide +kernel
theorem dX9_restore_1 : decode cX9_restore 1 = .ok (.getfield 243, 3) := by decide +kernel
theorem dX9_restore_4 : decode cX9_restore 4 = .ok (.ifCond .ne 6, 3) := by decide +kernel
theorem dX9_restore_7 : decode cX9_restore 7 = .ok (.bipush (-2), 2) := by decide +kernel
theorem dX9_restore_9 : decode cX9_restore 9 = .ok (.ireturn, 1) := by decide +kernel
theorem dX9_restore_10 : decode cX9_restore 10 = .ok (.aload_n 0, 1) := by decide +kernel
theorem dX9_restore_11 : decode cX9_restore 11 = .ok (.invokevirtual 79, 3) := by decide +kernel
theorem dX9_restore_14 : decode cX9_restore 14 = .ok (.iconst 0, 1) := by decide +kernel
theorem dX9_restore_15 : decode cX9_restore 15 = .ok (.istore_n 1, 1) := by decide +kernel
theorem dX9_restore_16 : decode cX9_restore 16 = .ok (.iload_n 1, 1) := by decide +kernel
theorem dX9_restore_17 : decode cX9_restore 17 = .ok (.sipush 1245, 3) := by decide +kernel
theorem dX9_restore_20 : decode cX9_restore 20 = .ok (.if_icmp .ge 21, 3) := by decide +kernel
theorem dX9_restore_23 : decode cX9_restore 23 = .ok (.aload_n 0, 1) := by decide +kernel
theorem dX9_restore_24 : decode cX9_restore 24 = .ok (.getfield 7, 3) := by decide +kernel
theorem dX9_restore_27 : decode cX9_restore 27 = .ok (.iload_n 1, 1) := by decide +kernel
theorem dX9_restore_28 : decode cX9_restore 28 = .ok (.aload_n 0, 1) := by decide +kernel
theorem dX9_restore_29 : decode cX9_restore 29 = .ok (.getfield 16, 3) := by decide +kernel
theorem dX9_restore_32 : decode cX9_restore 32 = .ok (.iload_n 1, 1) := by decide +kernel
theorem dX9_restore_33 : decode cX9_restore 33 = .ok (.iaload, 1) := by decide +kernel
theorem dX9_restore_34 : decode cX9_restore 34 = .ok (.iastore, 1) := by decide +kernel
theorem dX9_restore_35 : decode cX9_restore 35 = .ok (.iinc 1 1, 3) := by decide +kernel
theorem dX9_restore_38 : decode cX9_restore 38 = .ok (.goto (-22), 3) := by decide +kernel
theorem dX9_restore_41 : decode cX9_restore 41 = .ok (.aload_n 0, 1) := by decide +kernel
theorem dX9_restore_42 : decode cX9_restore 42 = .ok (.getfield 7, 3) := by decide +kernel
theorem dX9_restore_45 : decode cX9_restore 45 = .ok (.iconst 2, 1) := by decide +kernel
theorem dX9_restore_46 : decode cX9_restore 46 = .ok (.iaload, 1) := by decide +kernel
theorem dX9_restore_47 : decode cX9_restore 47 = .ok (.ireturn, 1) := by decide +kernel
theorem dJ9_max_7cf53_0 : decode cJ9_max_7cf53 0 = .ok (.iload_n 0, 1) := by decide +kernel
theorem dJ9_max_7cf53_1 : decode cJ9_max_7cf53 1 = .ok (.iload_n 1, 1) := by decide +kernel
theorem dJ9_max_7cf53_2 : decode cJ9_max_7cf53 2 = .ok (.if_icmp .lt 7, 3) := by decide +kernel
theorem dJ9_max_7cf53_5 : decode cJ9_max_7cf53 5 = .ok (.iload_n 0, 1) := by decide +kernel
theorem dJ9_max_7cf53_6 : decode cJ9_max_7cf53 6 = .ok (.goto 4, 3) := by decide +kernel
theorem dJ9_max_7cf53_9 : decode cJ9_max_7cf53 9 = .ok (.iload_n 1, 1) := by decide +kernel
theorem dJ9_max_7cf53_10 : decode cJ9_max_7cf53 10 = .ok (.ireturn, 1) := by decide +kernel
theorem dJ9_min_7cf53_0 : decode cJ9_min_7cf53 0 = .ok (.iload_n 0, 1) := by decide +kernel
theorem dJ9_min_7cf53_1 : decode cJ9_min_7cf53 1 = .ok (.iload_n 1, 1) := by decide +kernel
theorem dJ9_min_7cf53_2 : decode cJ9_min_7cf53 2 = .ok (.if_icmp .gt 7, 3) := by decide +kernel
theorem dJ9_min_7cf53_5 : decode cJ9_min_7cf53 5 = .ok (.iload_n 0, 1) := by decide +kernel
theorem dJ9_min_7cf53_6 : decode cJ9_min_7cf53 6 = .ok (.goto 4, 3) := by decide +kernel
theorem dJ9_min_7cf53_9 : decode cJ9_min_7cf53 9 = .ok (.iload_n 1, 1) := by decide +kernel
theorem dJ9_min_7cf53_10 : decode cJ9_min_7cf53 10 = .ok (.ireturn, 1) := by decide +kernel
abbrev vwCl : List vw_C := [(RX0, TX0, 4), (RX1, TX1, 8), (RX2, TX2, 2), (RX3, TX3, 3), (RX4, TX4, 9), (RX6, TX6, 6), (RX8, TX8, 11), (RX9, TX9, 18)]
