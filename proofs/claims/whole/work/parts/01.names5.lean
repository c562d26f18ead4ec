theorem dX5_trade_11 : decode cX5_trade 11 = .ok (.aload_n 0, 1) := by decide +kernel
theorem dX5_trade_12 : decode cX5_trade 12 = .ok (.aload_n 0, 1) := by decide +kernel
theorem dX5_trade_13 : decode cX5_trade 13 = .ok (.getfield 16, 3) := by decide +kernel
theorem dX5_trade_16 : decode cX5_trade 16 = .ok (.iload_n 1, 1) := by decide +kernel
theorem dX5_trade_17 : decode cX5_trade 17 = .ok (.iaload, 1) := by decide +kernel
theorem dX5_trade_18 : decode cX5_trade 18 = .ok (.iconst (-1), 1) := by decide +kernel
theorem dX5_trade_19 : decode cX5_trade 19 = .ok (.if_icmp .ne 7, 3) := by decide +kernel
theorem dX5_trade_22 : decode cX5_trade 22 = .ok (.iconst 1, 1) := by decide +kernel
theorem dX5_trade_23 : decode cX5_trade 23 = .ok (.goto 4, 3) := by decide +kernel
theorem dX5_trade_26 : decode cX5_trade 26 = .ok (.iconst 0, 1) := by decide +kernel
theorem dX5_trade_27 : decode cX5_trade 27 = .ok (.invokevirtual 64, 3) := by decide +kernel
theorem dX5_trade_30 : decode cX5_trade 30 = .ok (.ifCond .eq 5, 3) := by decide +kernel
theorem dX5_trade_33 : decode cX5_trade 33 = .ok (.iconst 0, 1) := by decide +kernel
theorem dX5_trade_34 : decode cX5_trade 34 = .ok (.ireturn, 1) := by decide +kernel
theorem dX5_trade_35 : decode cX5_trade 35 = .ok (.aload_n 0, 1) := by decide +kernel
theorem dX5_trade_36 : decode cX5_trade 36 = .ok (.getfield 16, 3) := by decide +kernel
theorem dX5_trade_39 : decode cX5_trade 39 = .ok (.iload_n 1, 1) := by decide +kernel
theorem dX5_trade_40 : decode cX5_trade 40 = .ok (.iaload, 1) := by decide +kernel
theorem dX5_trade_41 : decode cX5_trade 41 = .ok (.istore_n 2, 1) := by decide +kernel
theorem dX5_trade_42 : decode cX5_trade 42 = .ok (.aload_n 0, 1) := by decide +kernel
theorem dX5_trade_43 : decode cX5_trade 43 = .ok (.getfield 13, 3) := by decide +kernel
theorem dX5_trade_46 : decode cX5_trade 46 = .ok (.iload_n 1, 1) := by decide +kernel
theorem dX5_trade_47 : decode cX5_trade 47 = .ok (.iaload, 1) := by decide +kernel
theorem dX5_trade_48 : decode cX5_trade 48 = .ok (.istore_n 3, 1) := by decide +kernel
theorem dX5_trade_49 : decode cX5_trade 49 = .ok (.aload_n 0, 1) := by decide +kernel
theorem dX5_trade_50 : decode cX5_trade 50 = .ok (.getfield 13, 3) := by decide +kernel
theorem dX5_trade_53 : decode cX5_trade 53 = .ok (.iload_n 1, 1) := by decide +kernel
theorem dX5_trade_54 : decode cX5_trade 54 = .ok (.aload_n 0, 1) := by decide +kernel
theorem dX5_trade_55 : decode cX5_trade 55 = .ok (.getfield 13, 3) := by decide +kernel
theorem dX5_trade_58 : decode cX5_trade 58 = .ok (.iload_n 2, 1) := by decide +kernel
theorem dX5_trade_59 : decode cX5_trade 59 = .ok (.iaload, 1) := by decide +kernel
theorem dX5_trade_60 : decode cX5_trade 60 = .ok (.iastore, 1) := by decide +kernel
theorem dX5_trade_61 : decode cX5_trade 61 = .ok (.aload_n 0, 1) := by decide +kernel
theorem dX5_trade_62 : decode cX5_trade 62 = .ok (.getfield 13, 3) := by decide +kernel
theorem dX5_trade_65 : decode cX5_trade 65 = .ok (.iload_n 2, 1) := by decide +kernel
theorem dX5_trade_66 : decode cX5_trade 66 = .ok (.iload_n 3, 1) := by decide +kernel
theorem dX5_trade_67 : decode cX5_trade 67 = .ok (.iastore, 1) := by decide +kernel
theorem dX5_trade_68 : decode cX5_trade 68 = .ok (.aload_n 0, 1) := by decide +kernel
theorem dX5_trade_69 : decode cX5_trade 69 = .ok (.getfield 13, 3) := by decide +kernel
theorem dX5_trade_72 : decode cX5_trade 72 = .ok (.iload_n 1, 1) := by decide +kernel
theorem dX5_trade_73 : decode cX5_trade 73 = .ok (.iaload, 1) := by decide +kernel
theorem dX5_trade_74 : decode cX5_trade 74 = .ok (.ireturn, 1) := by decide +kernel
set_option maxRecDepth 20000 in
theorem ggX5_hold_X5_isThing : GoodIn wsX5_hold wsX5_isThing := goodIn_r _ [13, 14, 15, 16, 12, 17, 24, 25, 26, 27, 28, 29, 30, 31, 32, 33, 34, 35, 36, 37, 38, 39, 40] (by decide +kernel) (by decide +kernel)
set_option maxRecDepth 20000 in
theorem gX5_hold_X5_isThing : GoodIn wsX5_hold (wsV RX5 60 RX5 yX5_isThing wsX5_isThing) := goodIn_app (goodIn_of _ (by decide +kernel)) ggX5_hold_X5_isThing
set_option maxRecDepth 20000 in
theorem ggX5_hold_X5_in : GoodIn wsX5_hold wsX5_in := goodIn_r _ [17] (by decide +kernel) (by decide +kernel)
set_option maxRecDepth 20000 in
theorem gX5_hold_X5_in : GoodIn wsX5_hold (va_wsS RX5 39 yX5_in wsX5_in) := goodIn_app (goodIn_of _ (by decide +kernel)) ggX5_hold_X5_in
set_option maxRecDepth 20000 in
theorem ggX5_hold_X5_tell : GoodIn wsX5_hold wsX5_tell := goodIn_r _ [21, 22, 23, 24, 25, 26, 27, 28, 29, 30, 31, 32, 33, 34, 35, 36, 37, 38, 39, 40] (by decide +kernel) (by decide +kernel)
set_option maxRecDepth 20000 in
theorem gX5_hold_X5_tell : GoodIn wsX5_hold (wsV RX5 64 RX5 yX5_tell wsX5_tell) := goodIn_app (goodIn_of _ (by decide +kernel)) ggX5_hold_X5_tell
theorem dX5_hold_0 : decode cX5_hold 0 = .ok (.aload_n 0, 1) := by decide +kernel
theorem dX5_hold_1 : decode cX5_hold 1 = .ok (.iload_n 1, 1) := by decide +kernel
theorem dX5_hold_2 : decode cX5_hold 2 = .ok (.invokevirtual 60, 3) := by decide +kernel
theorem dX5_hold_5 : decode cX5_hold 5 = .ok (.ifCond .eq 26, 3) := by decide +kernel
theorem dX5_hold_8 : decode cX5_hold 8 = .ok (.iload_n 2, 1) := by decide +kernel
theorem dX5_hold_9 : decode cX5_hold 9 = .ok (.iconst (-1), 1) := by decide +kernel
theorem dX5_hold_10 : decode cX5_hold 10 = .ok (.if_icmp .eq 15, 3) := by decide +kernel
theorem dX5_hold_13 : decode cX5_hold 13 = .ok (.iload_n 2, 1) := by decide +kernel
theorem dX5_hold_14 : decode cX5_hold 14 = .ok (.i2l, 1) := by decide +kernel
theorem dX5_hold_15 : decode cX5_hold 15 = .ok (.lconst 0, 1) := by decide +kernel
theorem dX5_hold_16 : decode cX5_hold 16 = .ok (.ldc2_w 68, 3) := by decide +kernel
theorem dX5_hold_19 : decode cX5_hold 19 = .ok (.invokestatic 39, 3) := by decide +kernel
theorem dX5_hold_22 : decode cX5_hold 22 = .ok (.ifCond .eq 9, 3) := by decide +kernel
theorem dX5_hold_25 : decode cX5_hold 25 = .ok (.iload_n 3, 1) := by decide +kernel
theorem dX5_hold_26 : decode cX5_hold 26 = .ok (.bipush 12, 2) := by decide +kernel
theorem dX5_hold_28 : decode cX5_hold 28 = .ok (.if_icmp .le 6, 3) := by decide +kernel
theorem dX5_hold_31 : decode cX5_hold 31 = .ok (.ldc 48, 2) := by decide +kernel
theorem dX5_hold_33 : decode cX5_hold 33 = .ok (.ireturn, 1) := by decide +kernel
theorem dX5_hold_34 : decode cX5_hold 34 = .ok (.aload_n 0, 1) := by decide +kernel
theorem dX5_hold_35 : decode cX5_hold 35 = .ok (.iload_n 2, 1) := by decide +kernel
theorem dX5_hold_36 : decode cX5_hold 36 = .ok (.iconst (-1), 1) := by decide +kernel
theorem dX5_hold_37 : decode cX5_hold 37 = .ok (.if_icmp .eq 11, 3) := by decide +kernel
theorem dX5_hold_40 : decode cX5_hold 40 = .ok (.iload_n 3, 1) := by decide +kernel
theorem dX5_hold_41 : decode cX5_hold 41 = .ok (.ifCond .ge 7, 3) := by decide +kernel
theorem dX5_hold_44 : decode cX5_hold 44 = .ok (.iconst 4, 1) := by decide +kernel
theorem dX5_hold_45 : decode cX5_hold 45 = .ok (.goto 4, 3) := by decide +kernel
theorem dX5_hold_48 : decode cX5_hold 48 = .ok (.iconst 0, 1) := by decide +kernel
theorem dX5_hold_49 : decode cX5_hold 49 = .ok (.invokevirtual 64, 3) := by decide +kernel
theorem dX5_hold_52 : decode cX5_hold 52 = .ok (.ifCond .eq 5, 3) := by decide +kernel
theorem dX5_hold_55 : decode cX5_hold 55 = .ok (.iconst 0, 1) := by decide +kernel
theorem dX5_hold_56 : decode cX5_hold 56 = .ok (.ireturn, 1) := by decide +kernel
theorem dX5_hold_57 : decode cX5_hold 57 = .ok (.iload_n 2, 1) := by decide +kernel
theorem dX5_hold_58 : decode cX5_hold 58 = .ok (.iconst (-1), 1) := by decide +kernel
theorem dX5_hold_59 : decode cX5_hold 59 = .ok (.if_icmp .ne 12, 3) := by decide +kernel
theorem dX5_hold_62 : decode cX5_hold 62 = .ok (.aload_n 0, 1) := by decide +kernel
theorem dX5_hold_63 : decode cX5_hold 63 = .ok (.getfield 19, 3) := by decide +kernel
theorem dX5_hold_66 : decode cX5_hold 66 = .ok (.iload_n 1, 1) := by decide +kernel
theorem dX5_hold_67 : decode cX5_hold 67 = .ok (.iconst (-1), 1) := by decide +kernel
theorem dX5_hold_68 : decode cX5_hold 68 = .ok (.iastore, 1) := by decide +kernel
theorem dX5_hold_69 : decode cX5_hold 69 = .ok (.iconst 0, 1) := by decide +kernel
theorem dX5_hold_70 : decode cX5_hold 70 = .ok (.ireturn, 1) := by decide +kernel
theorem dX5_hold_71 : decode cX5_hold 71 = .ok (.aload_n 0, 1) := by decide +kernel
theorem dX5_hold_72 : decode cX5_hold 72 = .ok (.getfield 22, 3) := by decide +kernel
theorem dX5_hold_75 : decode cX5_hold 75 = .ok (.aload_n 0, 1) := by decide +kernel
theorem dX5_hold_76 : decode cX5_hold 76 = .ok (.getfield 70, 3) := by decide +kernel
theorem dX5_hold_79 : decode cX5_hold 79 = .ok (.iload_n 2, 1) := by decide +kernel
theorem dX5_hold_80 : decode cX5_hold 80 = .ok (.iastore, 1) := by decide +kernel
theorem dX5_hold_81 : decode cX5_hold 81 = .ok (.aload_n 0, 1) := by decide +kernel
theorem dX5_hold_82 : decode cX5_hold 82 = .ok (.getfield 25, 3) := by decide +kernel
theorem dX5_hold_85 : decode cX5_hold 85 = .ok (.aload_n 0, 1) := by decide +kernel
theorem dX5_hold_86 : decode cX5_hold 86 = .ok (.getfield 70, 3) := by decide +kernel
theorem dX5_hold_89 : decode cX5_hold 89 = .ok (.iload_n 3, 1) := by decide +kernel
theorem dX5_hold_90 : decode cX5_hold 90 = .ok (.iastore, 1) := by decide +kernel
theorem dX5_hold_91 : decode cX5_hold 91 = .ok (.iconst 0, 1) := by decide +kernel
theorem dX5_hold_92 : decode cX5_hold 92 = .ok (.istore 4, 2) := by decide +kernel
theorem dX5_hold_94 : decode cX5_hold 94 = .ok (.iload 4, 2) := by decide +kernel
theorem dX5_hold_96 : decode cX5_hold 96 = .ok (.bipush 12, 2) := by decide +kernel
theorem dX5_hold_98 : decode cX5_hold 98 = .ok (.if_icmp .ge 36, 3) := by decide +kernel
theorem dX5_hold_101 : decode cX5_hold 101 = .ok (.aload_n 0, 1) := by decide +kernel
theorem dX5_hold_102 : decode cX5_hold 102 = .ok (.getfield 28, 3) := by decide +kernel
theorem dX5_hold_105 : decode cX5_hold 105 = .ok (.bipush 12, 2) := by decide +kernel
theorem dX5_hold_107 : decode cX5_hold 107 = .ok (.aload_n 0, 1) := by decide +kernel
theorem dX5_hold_108 : decode cX5_hold 108 = .ok (.getfield 70, 3) := by decide +kernel
theorem dX5_hold_111 : decode cX5_hold 111 = .ok (.imul, 1) := by decide +kernel
theorem dX5_hold_112 : decode cX5_hold 112 = .ok (.iload 4, 2) := by decide +kernel
theorem dX5_hold_114 : decode cX5_hold 114 = .ok (.iadd, 1) := by decide +kernel
theorem dX5_hold_115 : decode cX5_hold 115 = .ok (.iload_n 2, 1) := by decide +kernel
theorem dX5_hold_116 : decode cX5_hold 116 = .ok (.iconst 2, 1) := by decide +kernel
theorem dX5_hold_117 : decode cX5_hold 117 = .ok (.if_icmp .ge 7, 3) := by decide +kernel
theorem dX5_hold_120 : decode cX5_hold 120 = .ok (.lconst 0, 1) := by decide +kernel
theorem dX5_hold_121 : decode cX5_hold 121 = .ok (.goto 6, 3) := by decide +kernel
theorem dX5_hold_124 : decode cX5_hold 124 = .ok (.ldc2_w 73, 3) := by decide +kernel
theorem dX5_hold_127 : decode cX5_hold 127 = .ok (.lastore, 1) := by decide +kernel
theorem dX5_hold_128 : decode cX5_hold 128 = .ok (.iinc 4 1, 3) := by decide +kernel
theorem dX5_hold_131 : decode cX5_hold 131 = .ok (.goto (-37), 3) := by decide +kernel
theorem dX5_hold_134 : decode cX5_hold 134 = .ok (.aload_n 0, 1) := by decide +kernel
theorem dX5_hold_135 : decode cX5_hold 135 = .ok (.getfield 19, 3) := by decide +kernel
theorem dX5_hold_138 : decode cX5_hold 138 = .ok (.iload_n 1, 1) := by decide +kernel
theorem dX5_hold_139 : decode cX5_hold 139 = .ok (.aload_n 0, 1) := by decide +kernel
theorem dX5_hold_140 : decode cX5_hold 140 = .ok (.getfield 70, 3) := by decide +kernel
theorem dX5_hold_143 : decode cX5_hold 143 = .ok (.iastore, 1) := by decide +kernel
theorem dX5_hold_144 : decode cX5_hold 144 = .ok (.aload_n 0, 1) := by decide +kernel
theorem dX5_hold_145 : decode cX5_hold 145 = .ok (.dup, 1) := by decide +kernel
theorem dX5_hold_146 : decode cX5_hold 146 = .ok (.getfield 70, 3) := by decide +kernel
theorem dX5_hold_149 : decode cX5_hold 149 = .ok (.iconst 1, 1) := by decide +kernel
theorem dX5_hold_150 : decode cX5_hold 150 = .ok (.iadd, 1) := by decide +kernel
theorem dX5_hold_151 : decode cX5_hold 151 = .ok (.putfield 70, 3) := by decide +kernel
theorem dX5_hold_154 : decode cX5_hold 154 = .ok (.iload_n 3, 1) := by decide +kernel
theorem dX5_hold_155 : decode cX5_hold 155 = .ok (.ireturn, 1) := by decide +kernel
set_option maxRecDepth 20000 in
theorem ggX5_share_X5_isThing : GoodIn wsX5_share wsX5_isThing := goodIn_r _ [7, 8, 9, 10, 6, 11, 17, 18, 19, 20, 21, 22, 23, 24, 25, 26, 27, 28, 29, 30, 31, 32, 33] (by decide +kernel) (by decide +kernel)
set_option maxRecDepth 20000 in
theorem gX5_share_X5_isThing : GoodIn wsX5_share (wsV RX5 60 RX5 yX5_isThing wsX5_isThing) := goodIn_app (goodIn_of _ (by decide +kernel)) ggX5_share_X5_isThing
set_option maxRecDepth 20000 in
theorem ggX5_share_X5_holds : GoodIn wsX5_share wsX5_holds := goodIn_r _ [15, 1, 2, 16, 3, 4, 5, 6, 7, 8, 9, 10, 11, 17, 18, 19, 20, 21, 22, 23, 24, 25, 26, 27, 28, 29, 30, 31, 32, 33] (by decide +kernel) (by decide +kernel)
set_option maxRecDepth 20000 in
theorem gX5_share_X5_holds : GoodIn wsX5_share (wsV RX5 75 RX5 yX5_holds wsX5_holds) := goodIn_app (goodIn_of _ (by decide +kernel)) ggX5_share_X5_holds
theorem dX5_share_0 : decode cX5_share 0 = .ok (.aload_n 0, 1) := by decide +kernel
theorem dX5_share_1 : decode cX5_share 1 = .ok (.iload_n 1, 1) := by decide +kernel
theorem dX5_share_2 : decode cX5_share 2 = .ok (.invokevirtual 60, 3) := by decide +kernel
theorem dX5_share_5 : decode cX5_share 5 = .ok (.ifCond .eq 11, 3) := by decide +kernel
theorem dX5_share_8 : decode cX5_share 8 = .ok (.aload_n 0, 1) := by decide +kernel
theorem dX5_share_9 : decode cX5_share 9 = .ok (.iload_n 2, 1) := by decide +kernel
theorem dX5_share_10 : decode cX5_share 10 = .ok (.invokevirtual 60, 3) := by decide +kernel
theorem dX5_share_13 : decode cX5_share 13 = .ok (.ifCond .ne 6, 3) := by decide +kernel
theorem dX5_share_16 : decode cX5_share 16 = .ok (.ldc 48, 2) := by decide +kernel
theorem dX5_share_18 : decode cX5_share 18 = .ok (.ireturn, 1) := by decide +kernel
theorem dX5_share_19 : decode cX5_share 19 = .ok (.aload_n 0, 1) := by decide +kernel
theorem dX5_share_20 : decode cX5_share 20 = .ok (.getfield 19, 3) := by decide +kernel
theorem dX5_share_23 : decode cX5_share 23 = .ok (.iload_n 1, 1) := by decide +kernel
theorem dX5_share_24 : decode cX5_share 24 = .ok (.aload_n 0, 1) := by decide +kernel
theorem dX5_share_25 : decode cX5_share 25 = .ok (.getfield 19, 3) := by decide +kernel
theorem dX5_share_28 : decode cX5_share 28 = .ok (.iload_n 2, 1) := by decide +kernel
theorem dX5_share_29 : decode cX5_share 29 = .ok (.iaload, 1) := by decide +kernel
theorem dX5_share_30 : decode cX5_share 30 = .ok (.iastore, 1) := by decide +kernel
theorem dX5_share_31 : decode cX5_share 31 = .ok (.aload_n 0, 1) := by decide +kernel
theorem dX5_share_32 : decode cX5_share 32 = .ok (.iload_n 1, 1) := by decide +kernel
theorem dX5_share_33 : decode cX5_share 33 = .ok (.invokevirtual 75, 3) := by decide +kernel
theorem dX5_share_36 : decode cX5_share 36 = .ok (.ireturn, 1) := by decide +kernel
set_option maxRecDepth 20000 in
theorem ggX5_holds_X5_isThing : GoodIn wsX5_holds wsX5_isThing := goodIn_r _ [8, 9, 10, 11, 7, 12, 13, 14, 15, 16, 17, 18, 19, 20, 21, 22, 23, 24, 25, 26, 27, 28, 29] (by decide +kernel) (by decide +kernel)
set_option maxRecDepth 20000 in
theorem gX5_holds_X5_isThing : GoodIn wsX5_holds (wsV RX5 60 RX5 yX5_isThing wsX5_isThing) := goodIn_app (goodIn_of _ (by decide +kernel)) ggX5_holds_X5_isThing
theorem dX5_holds_0 : decode cX5_holds 0 = .ok (.aload_n 0, 1) := by decide +kernel
theorem dX5_holds_1 : decode cX5_holds 1 = .ok (.iload_n 1, 1) := by decide +kernel
theorem dX5_holds_2 : decode cX5_holds 2 = .ok (.invokevirtual 60, 3) := by decide +kernel
theorem dX5_holds_5 : decode cX5_holds 5 = .ok (.ifCond .ne 8, 3) := by decide +kernel
theorem dX5_holds_8 : decode cX5_holds 8 = .ok (.ldc 48, 2) := by decide +kernel
theorem dX5_holds_10 : decode cX5_holds 10 = .ok (.goto 28, 3) := by decide +kernel
theorem dX5_holds_13 : decode cX5_holds 13 = .ok (.aload_n 0, 1) := by decide +kernel
theorem dX5_holds_14 : decode cX5_holds 14 = .ok (.getfield 19, 3) := by decide +kernel
theorem dX5_holds_17 : decode cX5_holds 17 = .ok (.iload_n 1, 1) := by decide +kernel
theorem dX5_holds_18 : decode cX5_holds 18 = .ok (.iaload, 1) := by decide +kernel
theorem dX5_holds_19 : decode cX5_holds 19 = .ok (.iconst (-1), 1) := by decide +kernel
theorem dX5_holds_20 : decode cX5_holds 20 = .ok (.if_icmp .ne 7, 3) := by decide +kernel
theorem dX5_holds_23 : decode cX5_holds 23 = .ok (.iconst (-1), 1) := by decide +kernel
theorem dX5_holds_24 : decode cX5_holds 24 = .ok (.goto 14, 3) := by decide +kernel
theorem dX5_holds_27 : decode cX5_holds 27 = .ok (.aload_n 0, 1) := by decide +kernel
theorem dX5_holds_28 : decode cX5_holds 28 = .ok (.getfield 22, 3) := by decide +kernel
theorem dX5_holds_31 : decode cX5_holds 31 = .ok (.aload_n 0, 1) := by decide +kernel
theorem dX5_holds_32 : decode cX5_holds 32 = .ok (.getfield 19, 3) := by decide +kernel
theorem dX5_holds_35 : decode cX5_holds 35 = .ok (.iload_n 1, 1) := by decide +kernel
theorem dX5_holds_36 : decode cX5_holds 36 = .ok (.iaload, 1) := by decide +kernel
theorem dX5_holds_37 : decode cX5_holds 37 = .ok (.iaload, 1) := by decide +kernel
theorem dX5_holds_38 : decode cX5_holds 38 = .ok (.ireturn, 1) := by decide +kernel
set_option maxRecDepth 20000 in
theorem ggX5_size_X5_isThing : GoodIn wsX5_size wsX5_isThing := goodIn_r _ [8, 9, 10, 11, 7, 12, 19, 20, 21, 22, 23, 24, 25, 26, 27, 28, 29, 30, 31, 32, 33, 34, 35] (by decide +kernel) (by decide +kernel)
set_option maxRecDepth 20000 in
theorem gX5_size_X5_isThing : GoodIn wsX5_size (wsV RX5 60 RX5 yX5_isThing wsX5_isThing) := goodIn_app (goodIn_of _ (by decide +kernel)) ggX5_size_X5_isThing
set_option maxRecDepth 20000 in
theorem ggX5_size_X5_tell : GoodIn wsX5_size wsX5_tell := goodIn_r _ [16, 17, 18, 19, 20, 21, 22, 23, 24, 25, 26, 27, 28, 29, 30, 31, 32, 33, 34, 35] (by decide +kernel) (by decide +kernel)
set_option maxRecDepth 20000 in
theorem gX5_size_X5_tell : GoodIn wsX5_size (wsV RX5 64 RX5 yX5_tell wsX5_tell) := goodIn_app (goodIn_of _ (by decide +kernel)) ggX5_size_X5_tell
theorem dX5_size_0 : decode cX5_size 0 = .ok (.aload_n 0, 1) := by decide +kernel
theorem dX5_size_1 : decode cX5_size 1 = .ok (.iload_n 1, 1) := by decide +kernel
theorem dX5_size_2 : decode cX5_size 2 = .ok (.invokevirtual 60, 3) := by decide +kernel
theorem dX5_size_5 : decode cX5_size 5 = .ok (.ifCond .ne 6, 3) := by decide +kernel
theorem dX5_size_8 : decode cX5_size 8 = .ok (.ldc 48, 2) := by decide +kernel
theorem dX5_size_10 : decode cX5_size 10 = .ok (.ireturn, 1) := by decide +kernel
theorem dX5_size_11 : decode cX5_size 11 = .ok (.aload_n 0, 1) := by decide +kernel
theorem dX5_size_12 : decode cX5_size 12 = .ok (.aload_n 0, 1) := by decide +kernel
theorem dX5_size_13 : decode cX5_size 13 = .ok (.getfield 19, 3) := by decide +kernel
theorem dX5_size_16 : decode cX5_size 16 = .ok (.iload_n 1, 1) := by decide +kernel
theorem dX5_size_17 : decode cX5_size 17 = .ok (.iaload, 1) := by decide +kernel
theorem dX5_size_18 : decode cX5_size 18 = .ok (.iconst (-1), 1) := by decide +kernel
theorem dX5_size_19 : decode cX5_size 19 = .ok (.if_icmp .ne 7, 3) := by decide +kernel
theorem dX5_size_22 : decode cX5_size 22 = .ok (.iconst 1, 1) := by decide +kernel
theorem dX5_size_23 : decode cX5_size 23 = .ok (.goto 4, 3) := by decide +kernel
theorem dX5_size_26 : decode cX5_size 26 = .ok (.iconst 0, 1) := by decide +kernel
theorem dX5_size_27 : decode cX5_size 27 = .ok (.invokevirtual 64, 3) := by decide +kernel
theorem dX5_size_30 : decode cX5_size 30 = .ok (.ifCond .ne 17, 3) := by decide +kernel
theorem dX5_size_33 : decode cX5_size 33 = .ok (.aload_n 0, 1) := by decide +kernel
theorem dX5_size_34 : decode cX5_size 34 = .ok (.getfield 25, 3) := by decide +kernel
theorem dX5_size_37 : decode cX5_size 37 = .ok (.aload_n 0, 1) := by decide +kernel
theorem dX5_size_38 : decode cX5_size 38 = .ok (.getfield 19, 3) := by decide +kernel
theorem dX5_size_41 : decode cX5_size 41 = .ok (.iload_n 1, 1) := by decide +kernel
theorem dX5_size_42 : decode cX5_size 42 = .ok (.iaload, 1) := by decide +kernel
theorem dX5_size_43 : decode cX5_size 43 = .ok (.iaload, 1) := by decide +kernel
theorem dX5_size_44 : decode cX5_size 44 = .ok (.goto 4, 3) := by decide +kernel
theorem dX5_size_47 : decode cX5_size 47 = .ok (.iconst 0, 1) := by decide +kernel
theorem dX5_size_48 : decode cX5_size 48 = .ok (.ireturn, 1) := by decide +kernel
set_option maxRecDepth 20000 in
theorem ggX5_isItem_X5_in : GoodIn wsX5_isItem wsX5_in := goodIn_r _ [6] (by decide +kernel) (by decide +kernel)
set_option maxRecDepth 20000 in
theorem gX5_isItem_X5_in : GoodIn wsX5_isItem (va_wsS RX5 39 yX5_in wsX5_in) := goodIn_app (goodIn_of _ (by decide +kernel)) ggX5_isItem_X5_in
theorem dX5_isItem_0 : decode cX5_isItem 0 = .ok (.iload_n 2, 1) := by decide +kernel
theorem dX5_isItem_1 : decode cX5_isItem 1 = .ok (.i2l, 1) := by decide +kernel
theorem dX5_isItem_2 : decode cX5_isItem 2 = .ok (.lconst 0, 1) := by decide +kernel
theorem dX5_isItem_3 : decode cX5_isItem 3 = .ok (.aload_n 0, 1) := by decide +kernel
theorem dX5_isItem_4 : decode cX5_isItem 4 = .ok (.getfield 25, 3) := by decide +kernel
theorem dX5_isItem_7 : decode cX5_isItem 7 = .ok (.aload_n 0, 1) := by decide +kernel
theorem dX5_isItem_8 : decode cX5_isItem 8 = .ok (.getfield 19, 3) := by decide +kernel
theorem dX5_isItem_11 : decode cX5_isItem 11 = .ok (.iload_n 1, 1) := by decide +kernel
theorem dX5_isItem_12 : decode cX5_isItem 12 = .ok (.iaload, 1) := by decide +kernel
theorem dX5_isItem_13 : decode cX5_isItem 13 = .ok (.iaload, 1) := by decide +kernel
theorem dX5_isItem_14 : decode cX5_isItem 14 = .ok (.iconst 1, 1) := by decide +kernel
theorem dX5_isItem_15 : decode cX5_isItem 15 = .ok (.isub, 1) := by decide +kernel
theorem dX5_isItem_16 : decode cX5_isItem 16 = .ok (.i2l, 1) := by decide +kernel
theorem dX5_isItem_17 : decode cX5_isItem 17 = .ok (.invokestatic 39, 3) := by decide +kernel
theorem dX5_isItem_20 : decode cX5_isItem 20 = .ok (.ireturn, 1) := by decide +kernel
set_option maxRecDepth 20000 in
theorem ggX5_at_X5_isThing : GoodIn wsX5_at wsX5_isThing := goodIn_r _ [8, 9, 10, 11, 7, 12, 24, 25, 26, 27, 28, 29, 30, 31, 32, 33, 34, 35, 36, 37, 38, 39, 40] (by decide +kernel) (by decide +kernel)
set_option maxRecDepth 20000 in
theorem gX5_at_X5_isThing : GoodIn wsX5_at (wsV RX5 60 RX5 yX5_isThing wsX5_isThing) := goodIn_app (goodIn_of _ (by decide +kernel)) ggX5_at_X5_isThing
set_option maxRecDepth 20000 in
theorem ggX5_at_X5_isItem : GoodIn wsX5_at wsX5_isItem := goodIn_r _ [16, 17, 2, 10, 11, 7, 12, 24, 25, 26, 27, 28, 29, 30, 31, 32, 33, 34, 35, 36, 37, 38, 39, 40] (by decide +kernel) (by decide +kernel)
set_option maxRecDepth 20000 in
theorem gX5_at_X5_isItem : GoodIn wsX5_at (wsV RX5 80 RX5 yX5_isItem wsX5_isItem) := goodIn_app (goodIn_of _ (by decide +kernel)) ggX5_at_X5_isItem
set_option maxRecDepth 20000 in
theorem ggX5_at_X5_tell : GoodIn wsX5_at wsX5_tell := goodIn_r _ [21, 22, 23, 24, 25, 26, 27, 28, 29, 30, 31, 32, 33, 34, 35, 36, 37, 38, 39, 40] (by decide +kernel) (by decide +kernel)
set_option maxRecDepth 20000 in
theorem gX5_at_X5_tell : GoodIn wsX5_at (wsV RX5 64 RX5 yX5_tell wsX5_tell) := goodIn_app (goodIn_of _ (by decide +kernel)) ggX5_at_X5_tell
theorem dX5_at_0 : decode cX5_at 0 = .ok (.aload_n 0, 1) := by decide +kernel
theorem dX5_at_1 : decode cX5_at 1 = .ok (.iload_n 1, 1) := by decide +kernel
theorem dX5_at_2 : decode cX5_at 2 = .ok (.invokevirtual 60, 3) := by decide +kernel
theorem dX5_at_5 : decode cX5_at 5 = .ok (.ifCond .ne 7, 3) := by decide +kernel
theorem dX5_at_8 : decode cX5_at 8 = .ok (.ldc2_w 78, 3) := by decide +kernel
theorem dX5_at_11 : decode cX5_at 11 = .ok (.lreturn, 1) := by decide +kernel
theorem dX5_at_12 : decode cX5_at 12 = .ok (.aload_n 0, 1) := by decide +kernel
theorem dX5_at_13 : decode cX5_at 13 = .ok (.getfield 19, 3) := by decide +kernel
theorem dX5_at_16 : decode cX5_at 16 = .ok (.iload_n 1, 1) := by decide +kernel
theorem dX5_at_17 : decode cX5_at 17 = .ok (.iaload, 1) := by decide +kernel
theorem dX5_at_18 : decode cX5_at 18 = .ok (.iconst (-1), 1) := by decide +kernel
theorem dX5_at_19 : decode cX5_at 19 = .ok (.if_icmp .ne 7, 3) := by decide +kernel
theorem dX5_at_22 : decode cX5_at 22 = .ok (.iconst 1, 1) := by decide +kernel
theorem dX5_at_23 : decode cX5_at 23 = .ok (.goto 17, 3) := by decide +kernel
theorem dX5_at_26 : decode cX5_at 26 = .ok (.aload_n 0, 1) := by decide +kernel
theorem dX5_at_27 : decode cX5_at 27 = .ok (.iload_n 1, 1) := by decide +kernel
theorem dX5_at_28 : decode cX5_at 28 = .ok (.iload_n 2, 1) := by decide +kernel
theorem dX5_at_29 : decode cX5_at 29 = .ok (.invokevirtual 80, 3) := by decide +kernel
theorem dX5_at_32 : decode cX5_at 32 = .ok (.ifCond .eq 7, 3) := by decide +kernel
theorem dX5_at_35 : decode cX5_at 35 = .ok (.iconst 0, 1) := by decide +kernel
theorem dX5_at_36 : decode cX5_at 36 = .ok (.goto 4, 3) := by decide +kernel
theorem dX5_at_39 : decode cX5_at 39 = .ok (.iconst 3, 1) := by decide +kernel
theorem dX5_at_40 : decode cX5_at 40 = .ok (.istore_n 3, 1) := by decide +kernel
theorem dX5_at_41 : decode cX5_at 41 = .ok (.aload_n 0, 1) := by decide +kernel
theorem dX5_at_42 : decode cX5_at 42 = .ok (.iload_n 3, 1) := by decide +kernel
theorem dX5_at_43 : decode cX5_at 43 = .ok (.invokevirtual 64, 3) := by decide +kernel
theorem dX5_at_46 : decode cX5_at 46 = .ok (.ifCond .ne 22, 3) := by decide +kernel
theorem dX5_at_49 : decode cX5_at 49 = .ok (.aload_n 0, 1) := by decide +kernel
theorem dX5_at_50 : decode cX5_at 50 = .ok (.getfield 28, 3) := by decide +kernel
theorem dX5_at_53 : decode cX5_at 53 = .ok (.bipush 12, 2) := by decide +kernel
theorem dX5_at_55 : decode cX5_at 55 = .ok (.aload_n 0, 1) := by decide +kernel
theorem dX5_at_56 : decode cX5_at 56 = .ok (.getfield 19, 3) := by decide +kernel
theorem dX5_at_59 : decode cX5_at 59 = .ok (.iload_n 1, 1) := by decide +kernel
theorem dX5_at_60 : decode cX5_at 60 = .ok (.iaload, 1) := by decide +kernel
theorem dX5_at_61 : decode cX5_at 61 = .ok (.imul, 1) := by decide +kernel
theorem dX5_at_62 : decode cX5_at 62 = .ok (.iload_n 2, 1) := by decide +kernel
theorem dX5_at_63 : decode cX5_at 63 = .ok (.iadd, 1) := by decide +kernel
theorem dX5_at_64 : decode cX5_at 64 = .ok (.laload, 1) := by decide +kernel
theorem dX5_at_65 : decode cX5_at 65 = .ok (.goto 4, 3) := by decide +kernel
theorem dX5_at_68 : decode cX5_at 68 = .ok (.lconst 0, 1) := by decide +kernel
theorem dX5_at_69 : decode cX5_at 69 = .ok (.lreturn, 1) := by decide +kernel
set_option maxRecDepth 20000 in
theorem ggX5_lay_X5_isThing : GoodIn wsX5_lay wsX5_isThing := goodIn_r _ [9, 10, 11, 12, 8, 13, 25, 26, 27, 28, 29, 30, 31, 32, 33, 34, 35, 36, 37, 38, 39, 40, 41] (by decide +kernel) (by decide +kernel)
set_option maxRecDepth 20000 in
theorem gX5_lay_X5_isThing : GoodIn wsX5_lay (wsV RX5 60 RX5 yX5_isThing wsX5_isThing) := goodIn_app (goodIn_of _ (by decide +kernel)) ggX5_lay_X5_isThing
set_option maxRecDepth 20000 in
theorem ggX5_lay_X5_isItem : GoodIn wsX5_lay wsX5_isItem := goodIn_r _ [17, 18, 2, 11, 12, 8, 13, 25, 26, 27, 28, 29, 30, 31, 32, 33, 34, 35, 36, 37, 38, 39, 40, 41] (by decide +kernel) (by decide +kernel)
set_option maxRecDepth 20000 in
theorem gX5_lay_X5_isItem : GoodIn wsX5_lay (wsV RX5 80 RX5 yX5_isItem wsX5_isItem) := goodIn_app (goodIn_of _ (by decide +kernel)) ggX5_lay_X5_isItem
set_option maxRecDepth 20000 in
theorem ggX5_lay_X5_tell : GoodIn wsX5_lay wsX5_tell := goodIn_r _ [22, 23, 24, 25, 26, 27, 28, 29, 30, 31, 32, 33, 34, 35, 36, 37, 38, 39, 40, 41] (by decide +kernel) (by decide +kernel)
set_option maxRecDepth 20000 in
theorem gX5_lay_X5_tell : GoodIn wsX5_lay (wsV RX5 64 RX5 yX5_tell wsX5_tell) := goodIn_app (goodIn_of _ (by decide +kernel)) ggX5_lay_X5_tell
theorem dX5_lay_0 : decode cX5_lay 0 = .ok (.aload_n 0, 1) := by decide +kernel
theorem dX5_lay_1 : decode cX5_lay 1 = .ok (.iload_n 1, 1) := by decide +kernel
theorem dX5_lay_2 : decode cX5_lay 2 = .ok (.invokevirtual 60, 3) := by decide +kernel
theorem dX5_lay_5 : decode cX5_lay 5 = .ok (.ifCond .ne 7, 3) := by decide +kernel
theorem dX5_lay_8 : decode cX5_lay 8 = .ok (.ldc2_w 78, 3) := by decide +kernel
theorem dX5_lay_11 : decode cX5_lay 11 = .ok (.lreturn, 1) := by decide +kernel
theorem dX5_lay_12 : decode cX5_lay 12 = .ok (.aload_n 0, 1) := by decide +kernel
theorem dX5_lay_13 : decode cX5_lay 13 = .ok (.getfield 19, 3) := by decide +kernel
theorem dX5_lay_16 : decode cX5_lay 16 = .ok (.iload_n 1, 1) := by decide +kernel
theorem dX5_lay_17 : decode cX5_lay 17 = .ok (.iaload, 1) := by decide +kernel
theorem dX5_lay_18 : decode cX5_lay 18 = .ok (.iconst (-1), 1) := by decide +kernel
theorem dX5_lay_19 : decode cX5_lay 19 = .ok (.if_icmp .ne 7, 3) := by decide +kernel
theorem dX5_lay_22 : decode cX5_lay 22 = .ok (.iconst 1, 1) := by decide +kernel
theorem dX5_lay_23 : decode cX5_lay 23 = .ok (.goto 36, 3) := by decide +kernel
theorem dX5_lay_26 : decode cX5_lay 26 = .ok (.aload_n 0, 1) := by decide +kernel
theorem dX5_lay_27 : decode cX5_lay 27 = .ok (.getfield 22, 3) := by decide +kernel
theorem dX5_lay_30 : decode cX5_lay 30 = .ok (.aload_n 0, 1) := by decide +kernel
theorem dX5_lay_31 : decode cX5_lay 31 = .ok (.getfield 19, 3) := by decide +kernel
theorem dX5_lay_34 : decode cX5_lay 34 = .ok (.iload_n 1, 1) := by decide +kernel
theorem dX5_lay_35 : decode cX5_lay 35 = .ok (.iaload, 1) := by decide +kernel
theorem dX5_lay_36 : decode cX5_lay 36 = .ok (.iaload, 1) := by decide +kernel
theorem dX5_lay_37 : decode cX5_lay 37 = .ok (.iconst 1, 1) := by decide +kernel
theorem dX5_lay_38 : decode cX5_lay 38 = .ok (.if_icmp .le 7, 3) := by decide +kernel
theorem dX5_lay_41 : decode cX5_lay 41 = .ok (.iconst 2, 1) := by decide +kernel
theorem dX5_lay_42 : decode cX5_lay 42 = .ok (.goto 17, 3) := by decide +kernel
theorem dX5_lay_45 : decode cX5_lay 45 = .ok (.aload_n 0, 1) := by decide +kernel
theorem dX5_lay_46 : decode cX5_lay 46 = .ok (.iload_n 1, 1) := by decide +kernel
theorem dX5_lay_47 : decode cX5_lay 47 = .ok (.iload_n 2, 1) := by decide +kernel
theorem dX5_lay_48 : decode cX5_lay 48 = .ok (.invokevirtual 80, 3) := by decide +kernel
theorem dX5_lay_51 : decode cX5_lay 51 = .ok (.ifCond .eq 7, 3) := by decide +kernel
theorem dX5_lay_54 : decode cX5_lay 54 = .ok (.iconst 0, 1) := by decide +kernel
theorem dX5_lay_55 : decode cX5_lay 55 = .ok (.goto 4, 3) := by decide +kernel
theorem dX5_lay_58 : decode cX5_lay 58 = .ok (.iconst 3, 1) := by decide +kernel
theorem dX5_lay_59 : decode cX5_lay 59 = .ok (.istore 5, 2) := by decide +kernel
theorem dX5_lay_61 : decode cX5_lay 61 = .ok (.aload_n 0, 1) := by decide +kernel
theorem dX5_lay_62 : decode cX5_lay 62 = .ok (.iload 5, 2) := by decide +kernel
theorem dX5_lay_64 : decode cX5_lay 64 = .ok (.invokevirtual 64, 3) := by decide +kernel
theorem dX5_lay_67 : decode cX5_lay 67 = .ok (.ifCond .eq 5, 3) := by decide +kernel
theorem dX5_lay_70 : decode cX5_lay 70 = .ok (.lconst 0, 1) := by decide +kernel
theorem dX5_lay_71 : decode cX5_lay 71 = .ok (.lreturn, 1) := by decide +kernel
theorem dX5_lay_72 : decode cX5_lay 72 = .ok (.bipush 12, 2) := by decide +kernel
theorem dX5_lay_74 : decode cX5_lay 74 = .ok (.aload_n 0, 1) := by decide +kernel
theorem dX5_lay_75 : decode cX5_lay 75 = .ok (.getfield 19, 3) := by decide +kernel
theorem dX5_lay_78 : decode cX5_lay 78 = .ok (.iload_n 1, 1) := by decide +kernel
theorem dX5_lay_79 : decode cX5_lay 79 = .ok (.iaload, 1) := by decide +kernel
theorem dX5_lay_80 : decode cX5_lay 80 = .ok (.imul, 1) := by decide +kernel
theorem dX5_lay_81 : decode cX5_lay 81 = .ok (.iload_n 2, 1) := by decide +kernel
theorem dX5_lay_82 : decode cX5_lay 82 = .ok (.iadd, 1) := by decide +kernel
theorem dX5_lay_83 : decode cX5_lay 83 = .ok (.istore 6, 2) := by decide +kernel
theorem dX5_lay_85 : decode cX5_lay 85 = .ok (.aload_n 0, 1) := by decide +kernel
theorem dX5_lay_86 : decode cX5_lay 86 = .ok (.getfield 28, 3) := by decide +kernel
theorem dX5_lay_89 : decode cX5_lay 89 = .ok (.iload 6, 2) := by decide +kernel
theorem dX5_lay_91 : decode cX5_lay 91 = .ok (.laload, 1) := by decide +kernel
theorem dX5_lay_92 : decode cX5_lay 92 = .ok (.lstore 7, 2) := by decide +kernel
theorem dX5_lay_94 : decode cX5_lay 94 = .ok (.aload_n 0, 1) := by decide +kernel
theorem dX5_lay_95 : decode cX5_lay 95 = .ok (.getfield 28, 3) := by decide +kernel
theorem dX5_lay_98 : decode cX5_lay 98 = .ok (.iload 6, 2) := by decide +kernel
theorem dX5_lay_100 : decode cX5_lay 100 = .ok (.aload_n 0, 1) := by decide +kernel
theorem dX5_lay_101 : decode cX5_lay 101 = .ok (.getfield 22, 3) := by decide +kernel
theorem dX5_lay_104 : decode cX5_lay 104 = .ok (.aload_n 0, 1) := by decide +kernel
theorem dX5_lay_105 : decode cX5_lay 105 = .ok (.getfield 19, 3) := by decide +kernel
theorem dX5_lay_108 : decode cX5_lay 108 = .ok (.iload_n 1, 1) := by decide +kernel
theorem dX5_lay_109 : decode cX5_lay 109 = .ok (.iaload, 1) := by decide +kernel
theorem dX5_lay_110 : decode cX5_lay 110 = .ok (.iaload, 1) := by decide +kernel
theorem dX5_lay_111 : decode cX5_lay 111 = .ok (.ifCond .ne 9, 3) := by decide +kernel
theorem dX5_lay_114 : decode cX5_lay 114 = .ok (.lload_n 3, 1) := by decide +kernel
theorem dX5_lay_115 : decode cX5_lay 115 = .ok (.l2i, 1) := by decide +kernel
theorem dX5_lay_116 : decode cX5_lay 116 = .ok (.i2l, 1) := by decide +kernel
theorem dX5_lay_117 : decode cX5_lay 117 = .ok (.goto 4, 3) := by decide +kernel
theorem dX5_lay_120 : decode cX5_lay 120 = .ok (.lload_n 3, 1) := by decide +kernel
theorem dX5_lay_121 : decode cX5_lay 121 = .ok (.lastore, 1) := by decide +kernel
theorem dX5_lay_122 : decode cX5_lay 122 = .ok (.lload 7, 2) := by decide +kernel
theorem dX5_lay_124 : decode cX5_lay 124 = .ok (.lreturn, 1) := by decide +kernel
set_option maxRecDepth 20000 in
theorem ggX5_set_X5_isThing : GoodIn wsX5_set wsX5_isThing := goodIn_r _ [9, 10, 11, 12, 8, 13, 30, 31, 32, 33, 34, 35, 36, 37, 38, 39, 40, 41, 42, 43, 44, 45, 46] (by decide +kernel) (by decide +kernel)
set_option maxRecDepth 20000 in
theorem gX5_set_X5_isThing : GoodIn wsX5_set (wsV RX5 60 RX5 yX5_isThing wsX5_isThing) := goodIn_app (goodIn_of _ (by decide +kernel)) ggX5_set_X5_isThing
set_option maxRecDepth 20000 in
theorem ggX5_set_X5_isItem : GoodIn wsX5_set wsX5_isItem := goodIn_r _ [17, 18, 2, 11, 12, 8, 13, 30, 31, 32, 33, 34, 35, 36, 37, 38, 39, 40, 41, 42, 43, 44, 45, 46] (by decide +kernel) (by decide +kernel)
set_option maxRecDepth 20000 in
theorem gX5_set_X5_isItem : GoodIn wsX5_set (wsV RX5 80 RX5 yX5_isItem wsX5_isItem) := goodIn_app (goodIn_of _ (by decide +kernel)) ggX5_set_X5_isItem
set_option maxRecDepth 20000 in
theorem ggX5_set_X5_isLeaf : GoodIn wsX5_set wsX5_isLeaf := goodIn_r _ [22, 23, 30, 31, 32, 33, 34, 35, 36, 37, 38, 39, 40, 41, 42, 43, 44, 45, 46] (by decide +kernel) (by decide +kernel)
set_option maxRecDepth 20000 in
theorem gX5_set_X5_isLeaf : GoodIn wsX5_set (wsV RX5 84 RX5 yX5_isLeaf wsX5_isLeaf) := goodIn_app (goodIn_of _ (by decide +kernel)) ggX5_set_X5_isLeaf
set_option maxRecDepth 20000 in
theorem ggX5_set_X5_tell : GoodIn wsX5_set wsX5_tell := goodIn_r _ [27, 28, 29, 30, 31, 32, 33, 34, 35, 36, 37, 38, 39, 40, 41, 42, 43, 44, 45, 46] (by decide +kernel) (by decide +kernel)
set_option maxRecDepth 20000 in
theorem gX5_set_X5_tell : GoodIn wsX5_set (wsV RX5 64 RX5 yX5_tell wsX5_tell) := goodIn_app (goodIn_of _ (by decide +kernel)) ggX5_set_X5_tell
theorem dX5_set_0 : decode cX5_set 0 = .ok (.aload_n 0, 1) := by decide +kernel
theorem dX5_set_1 : decode cX5_set 1 = .ok (.iload_n 1, 1) := by decide +kernel
theorem dX5_set_2 : decode cX5_set 2 = .ok (.invokevirtual 60, 3) := by decide +kernel
theorem dX5_set_5 : decode cX5_set 5 = .ok (.ifCond .eq 16, 3) := by decide +kernel
theorem dX5_set_8 : decode cX5_set 8 = .ok (.iload_n 3, 1) := by decide +kernel
theorem dX5_set_9 : decode cX5_set 9 = .ok (.iconst (-1), 1) := by decide +kernel
theorem dX5_set_10 : decode cX5_set 10 = .ok (.if_icmp .eq 14, 3) := by decide +kernel
theorem dX5_set_13 : decode cX5_set 13 = .ok (.aload_n 0, 1) := by decide +kernel
theorem dX5_set_14 : decode cX5_set 14 = .ok (.iload_n 3, 1) := by decide +kernel
theorem dX5_set_15 : decode cX5_set 15 = .ok (.invokevirtual 60, 3) := by decide +kernel
theorem dX5_set_18 : decode cX5_set 18 = .ok (.ifCond .ne 6, 3) := by decide +kernel
theorem dX5_set_21 : decode cX5_set 21 = .ok (.ldc 48, 2) := by decide +kernel
theorem dX5_set_23 : decode cX5_set 23 = .ok (.ireturn, 1) := by decide +kernel
theorem dX5_set_24 : decode cX5_set 24 = .ok (.aload_n 0, 1) := by decide +kernel
theorem dX5_set_25 : decode cX5_set 25 = .ok (.getfield 19, 3) := by decide +kernel
theorem dX5_set_28 : decode cX5_set 28 = .ok (.iload_n 1, 1) := by decide +kernel
theorem dX5_set_29 : decode cX5_set 29 = .ok (.iaload, 1) := by decide +kernel
theorem dX5_set_30 : decode cX5_set 30 = .ok (.iconst (-1), 1) := by decide +kernel
theorem dX5_set_31 : decode cX5_set 31 = .ok (.if_icmp .ne 7, 3) := by decide +kernel
theorem dX5_set_34 : decode cX5_set 34 = .ok (.iconst 1, 1) := by decide +kernel
theorem dX5_set_35 : decode cX5_set 35 = .ok (.goto 68, 3) := by decide +kernel
theorem dX5_set_38 : decode cX5_set 38 = .ok (.aload_n 0, 1) := by decide +kernel
theorem dX5_set_39 : decode cX5_set 39 = .ok (.getfield 22, 3) := by decide +kernel
theorem dX5_set_42 : decode cX5_set 42 = .ok (.aload_n 0, 1) := by decide +kernel
theorem dX5_set_43 : decode cX5_set 43 = .ok (.getfield 19, 3) := by decide +kernel
theorem dX5_set_46 : decode cX5_set 46 = .ok (.iload_n 1, 1) := by decide +kernel
theorem dX5_set_47 : decode cX5_set 47 = .ok (.iaload, 1) := by decide +kernel
theorem dX5_set_48 : decode cX5_set 48 = .ok (.iaload, 1) := by decide +kernel
theorem dX5_set_49 : decode cX5_set 49 = .ok (.iconst 2, 1) := by decide +kernel
theorem dX5_set_50 : decode cX5_set 50 = .ok (.if_icmp .ge 7, 3) := by decide +kernel
theorem dX5_set_53 : decode cX5_set 53 = .ok (.iconst 2, 1) := by decide +kernel
theorem dX5_set_54 : decode cX5_set 54 = .ok (.goto 49, 3) := by decide +kernel
theorem dX5_set_57 : decode cX5_set 57 = .ok (.aload_n 0, 1) := by decide +kernel
theorem dX5_set_58 : decode cX5_set 58 = .ok (.iload_n 1, 1) := by decide +kernel
theorem dX5_set_59 : decode cX5_set 59 = .ok (.iload_n 2, 1) := by decide +kernel
theorem dX5_set_60 : decode cX5_set 60 = .ok (.invokevirtual 80, 3) := by decide +kernel
theorem dX5_set_63 : decode cX5_set 63 = .ok (.ifCond .ne 7, 3) := by decide +kernel
theorem dX5_set_66 : decode cX5_set 66 = .ok (.iconst 3, 1) := by decide +kernel
theorem dX5_set_67 : decode cX5_set 67 = .ok (.goto 36, 3) := by decide +kernel
theorem dX5_set_70 : decode cX5_set 70 = .ok (.aload_n 0, 1) := by decide +kernel
theorem dX5_set_71 : decode cX5_set 71 = .ok (.getfield 22, 3) := by decide +kernel
theorem dX5_set_74 : decode cX5_set 74 = .ok (.aload_n 0, 1) := by decide +kernel
theorem dX5_set_75 : decode cX5_set 75 = .ok (.getfield 19, 3) := by decide +kernel
theorem dX5_set_78 : decode cX5_set 78 = .ok (.iload_n 1, 1) := by decide +kernel
theorem dX5_set_79 : decode cX5_set 79 = .ok (.iaload, 1) := by decide +kernel
theorem dX5_set_80 : decode cX5_set 80 = .ok (.iaload, 1) := by decide +kernel
theorem dX5_set_81 : decode cX5_set 81 = .ok (.iconst 3, 1) := by decide +kernel
theorem dX5_set_82 : decode cX5_set 82 = .ok (.if_icmp .ne 20, 3) := by decide +kernel
theorem dX5_set_85 : decode cX5_set 85 = .ok (.iload_n 3, 1) := by decide +kernel
theorem dX5_set_86 : decode cX5_set 86 = .ok (.iconst (-1), 1) := by decide +kernel
theorem dX5_set_87 : decode cX5_set 87 = .ok (.if_icmp .eq 15, 3) := by decide +kernel
theorem dX5_set_90 : decode cX5_set 90 = .ok (.aload_n 0, 1) := by decide +kernel
theorem dX5_set_91 : decode cX5_set 91 = .ok (.iload_n 3, 1) := by decide +kernel
theorem dX5_set_92 : decode cX5_set 92 = .ok (.invokevirtual 84, 3) := by decide +kernel
theorem dX5_set_95 : decode cX5_set 95 = .ok (.ifCond .ne 7, 3) := by decide +kernel
theorem dX5_set_98 : decode cX5_set 98 = .ok (.iconst 5, 1) := by decide +kernel
theorem dX5_set_99 : decode cX5_set 99 = .ok (.goto 4, 3) := by decide +kernel
theorem dX5_set_102 : decode cX5_set 102 = .ok (.iconst 0, 1) := by decide +kernel
theorem dX5_set_103 : decode cX5_set 103 = .ok (.istore 4, 2) := by decide +kernel
theorem dX5_set_105 : decode cX5_set 105 = .ok (.aload_n 0, 1) := by decide +kernel
theorem dX5_set_106 : decode cX5_set 106 = .ok (.iload 4, 2) := by decide +kernel
theorem dX5_set_108 : decode cX5_set 108 = .ok (.invokevirtual 64, 3) := by decide +kernel
theorem dX5_set_111 : decode cX5_set 111 = .ok (.ifCond .eq 5, 3) := by decide +kernel
theorem dX5_set_114 : decode cX5_set 114 = .ok (.iconst 0, 1) := by decide +kernel
theorem dX5_set_115 : decode cX5_set 115 = .ok (.ireturn, 1) := by decide +kernel
theorem dX5_set_116 : decode cX5_set 116 = .ok (.bipush 12, 2) := by decide +kernel
theorem dX5_set_118 : decode cX5_set 118 = .ok (.aload_n 0, 1) := by decide +kernel
theorem dX5_set_119 : decode cX5_set 119 = .ok (.getfield 19, 3) := by decide +kernel
theorem dX5_set_122 : decode cX5_set 122 = .ok (.iload_n 1, 1) := by decide +kernel
theorem dX5_set_123 : decode cX5_set 123 = .ok (.iaload, 1) := by decide +kernel
theorem dX5_set_124 : decode cX5_set 124 = .ok (.imul, 1) := by decide +kernel
theorem dX5_set_125 : decode cX5_set 125 = .ok (.iload_n 2, 1) := by decide +kernel
theorem dX5_set_126 : decode cX5_set 126 = .ok (.iadd, 1) := by decide +kernel
theorem dX5_set_127 : decode cX5_set 127 = .ok (.istore 5, 2) := by decide +kernel
theorem dX5_set_129 : decode cX5_set 129 = .ok (.aload_n 0, 1) := by decide +kernel
theorem dX5_set_130 : decode cX5_set 130 = .ok (.getfield 28, 3) := by decide +kernel
theorem dX5_set_133 : decode cX5_set 133 = .ok (.iload 5, 2) := by decide +kernel
theorem dX5_set_135 : decode cX5_set 135 = .ok (.laload, 1) := by decide +kernel
theorem dX5_set_136 : decode cX5_set 136 = .ok (.l2i, 1) := by decide +kernel
theorem dX5_set_137 : decode cX5_set 137 = .ok (.istore 6, 2) := by decide +kernel
theorem dX5_set_139 : decode cX5_set 139 = .ok (.aload_n 0, 1) := by decide +kernel
theorem dX5_set_140 : decode cX5_set 140 = .ok (.getfield 28, 3) := by decide +kernel
theorem dX5_set_143 : decode cX5_set 143 = .ok (.iload 5, 2) := by decide +kernel
theorem dX5_set_145 : decode cX5_set 145 = .ok (.iload_n 3, 1) := by decide +kernel
theorem dX5_set_146 : decode cX5_set 146 = .ok (.i2l, 1) := by decide +kernel
theorem dX5_set_147 : decode cX5_set 147 = .ok (.lastore, 1) := by decide +kernel
theorem dX5_set_148 : decode cX5_set 148 = .ok (.iload 6, 2) := by decide +kernel
theorem dX5_set_150 : decode cX5_set 150 = .ok (.ireturn, 1) := by decide +kernel
set_option maxRecDepth 20000 in
theorem ggX5_going_X5_isLeaf : GoodIn wsX5_going wsX5_isLeaf := goodIn_r _ [8, 9, 10, 11, 12, 13, 14, 15, 16, 17, 18, 19, 20, 21, 22, 23, 24, 25, 26] (by decide +kernel) (by decide +kernel)
set_option maxRecDepth 20000 in
theorem gX5_going_X5_isLeaf : GoodIn wsX5_going (wsV RX5 84 RX5 yX5_isLeaf wsX5_isLeaf) := goodIn_app (goodIn_of _ (by decide +kernel)) ggX5_going_X5_isLeaf
theorem dX5_going_0 : decode cX5_going 0 = .ok (.iconst 0, 1) := by decide +kernel
theorem dX5_going_1 : decode cX5_going 1 = .ok (.istore 5, 2) := by decide +kernel
theorem dX5_going_3 : decode cX5_going 3 = .ok (.iload 5, 2) := by decide +kernel
theorem dX5_going_5 : decode cX5_going 5 = .ok (.iload 4, 2) := by decide +kernel
theorem dX5_going_7 : decode cX5_going 7 = .ok (.if_icmp .ge 62, 3) := by decide +kernel
theorem dX5_going_10 : decode cX5_going 10 = .ok (.aload_n 0, 1) := by decide +kernel
theorem dX5_going_11 : decode cX5_going 11 = .ok (.getfield 22, 3) := by decide +kernel
theorem dX5_going_14 : decode cX5_going 14 = .ok (.iload_n 3, 1) := by decide +kernel
theorem dX5_going_15 : decode cX5_going 15 = .ok (.iaload, 1) := by decide +kernel
theorem dX5_going_16 : decode cX5_going 16 = .ok (.iconst 3, 1) := by decide +kernel
theorem dX5_going_17 : decode cX5_going 17 = .ok (.if_icmp .ne 46, 3) := by decide +kernel
theorem dX5_going_20 : decode cX5_going 20 = .ok (.aload_n 0, 1) := by decide +kernel
theorem dX5_going_21 : decode cX5_going 21 = .ok (.getfield 28, 3) := by decide +kernel
theorem dX5_going_24 : decode cX5_going 24 = .ok (.bipush 12, 2) := by decide +kernel
theorem dX5_going_26 : decode cX5_going 26 = .ok (.iload_n 1, 1) := by decide +kernel
theorem dX5_going_27 : decode cX5_going 27 = .ok (.imul, 1) := by decide +kernel
theorem dX5_going_28 : decode cX5_going 28 = .ok (.iload_n 2, 1) := by decide +kernel
theorem dX5_going_29 : decode cX5_going 29 = .ok (.iadd, 1) := by decide +kernel
theorem dX5_going_30 : decode cX5_going 30 = .ok (.iload 5, 2) := by decide +kernel
theorem dX5_going_32 : decode cX5_going 32 = .ok (.iadd, 1) := by decide +kernel
theorem dX5_going_33 : decode cX5_going 33 = .ok (.laload, 1) := by decide +kernel
theorem dX5_going_34 : decode cX5_going 34 = .ok (.ldc2_w 73, 3) := by decide +kernel
theorem dX5_going_37 : decode cX5_going 37 = .ok (.lcmp, 1) := by decide +kernel
theorem dX5_going_38 : decode cX5_going 38 = .ok (.ifCond .eq 25, 3) := by decide +kernel
theorem dX5_going_41 : decode cX5_going 41 = .ok (.aload_n 0, 1) := by decide +kernel
theorem dX5_going_42 : decode cX5_going 42 = .ok (.aload_n 0, 1) := by decide +kernel
theorem dX5_going_43 : decode cX5_going 43 = .ok (.getfield 28, 3) := by decide +kernel
theorem dX5_going_46 : decode cX5_going 46 = .ok (.bipush 12, 2) := by decide +kernel
theorem dX5_going_48 : decode cX5_going 48 = .ok (.iload_n 1, 1) := by decide +kernel
theorem dX5_going_49 : decode cX5_going 49 = .ok (.imul, 1) := by decide +kernel
theorem dX5_going_50 : decode cX5_going 50 = .ok (.iload_n 2, 1) := by decide +kernel
theorem dX5_going_51 : decode cX5_going 51 = .ok (.iadd, 1) := by decide +kernel
theorem dX5_going_52 : decode cX5_going 52 = .ok (.iload 5, 2) := by decide +kernel
theorem dX5_going_54 : decode cX5_going 54 = .ok (.iadd, 1) := by decide +kernel
theorem dX5_going_55 : decode cX5_going 55 = .ok (.laload, 1) := by decide +kernel
theorem dX5_going_56 : decode cX5_going 56 = .ok (.l2i, 1) := by decide +kernel
theorem dX5_going_57 : decode cX5_going 57 = .ok (.invokevirtual 84, 3) := by decide +kernel
theorem dX5_going_60 : decode cX5_going 60 = .ok (.ifCond .eq 9, 3) := by decide +kernel
theorem dX5_going_63 : decode cX5_going 63 = .ok (.iinc 5 1, 3) := by decide +kernel
theorem dX5_going_66 : decode cX5_going 66 = .ok (.goto (-63), 3) := by decide +kernel
theorem dX5_going_69 : decode cX5_going 69 = .ok (.iload 5, 2) := by decide +kernel
theorem dX5_going_71 : decode cX5_going 71 = .ok (.ireturn, 1) := by decide +kernel
set_option maxRecDepth 20000 in
theorem ggX5_move_X5_isThing : GoodIn wsX5_move wsX5_isThing := goodIn_r _ [10, 11, 12, 13, 9, 14, 31, 32, 33, 34, 35, 36, 37, 38, 39, 40, 41, 42, 43, 44, 45, 46, 47] (by decide +kernel) (by decide +kernel)
set_option maxRecDepth 20000 in
theorem gX5_move_X5_isThing : GoodIn wsX5_move (wsV RX5 60 RX5 yX5_isThing wsX5_isThing) := goodIn_app (goodIn_of _ (by decide +kernel)) ggX5_move_X5_isThing
set_option maxRecDepth 20000 in
theorem ggX5_move_X5_tell : GoodIn wsX5_move wsX5_tell := goodIn_r _ [18, 19, 20, 31, 32, 33, 34, 35, 36, 37, 38, 39, 40, 41, 42, 43, 44, 45, 46, 47] (by decide +kernel) (by decide +kernel)
set_option maxRecDepth 20000 in
theorem gX5_move_X5_tell : GoodIn wsX5_move (wsV RX5 64 RX5 yX5_tell wsX5_tell) := goodIn_app (goodIn_of _ (by decide +kernel)) ggX5_move_X5_tell
set_option maxRecDepth 20000 in
theorem ggX5_move_X5_going : GoodIn wsX5_move wsX5_going := goodIn_r _ [24, 3, 5, 25, 26, 27, 28, 9, 29, 30, 31, 32, 33, 34, 35, 36, 37, 38, 39, 40, 41, 42, 43, 44, 45, 46, 47] (by decide +kernel) (by decide +kernel)
set_option maxRecDepth 20000 in
theorem gX5_move_X5_going : GoodIn wsX5_move (wsV RX5 87 RX5 yX5_going wsX5_going) := goodIn_app (goodIn_of _ (by decide +kernel)) ggX5_move_X5_going
theorem dX5_move_0 : decode cX5_move 0 = .ok (.aload_n 0, 1) := by decide +kernel
theorem dX5_move_1 : decode cX5_move 1 = .ok (.iload_n 1, 1) := by decide +kernel
theorem dX5_move_2 : decode cX5_move 2 = .ok (.invokevirtual 60, 3) := by decide +kernel
theorem dX5_move_5 : decode cX5_move 5 = .ok (.ifCond .eq 11, 3) := by decide +kernel
theorem dX5_move_8 : decode cX5_move 8 = .ok (.aload_n 0, 1) := by decide +kernel
theorem dX5_move_9 : decode cX5_move 9 = .ok (.iload_n 3, 1) := by decide +kernel
theorem dX5_move_10 : decode cX5_move 10 = .ok (.invokevirtual 60, 3) := by decide +kernel
theorem dX5_move_13 : decode cX5_move 13 = .ok (.ifCond .ne 6, 3) := by decide +kernel
theorem dX5_move_16 : decode cX5_move 16 = .ok (.ldc 48, 2) := by decide +kernel
theorem dX5_move_18 : decode cX5_move 18 = .ok (.ireturn, 1) := by decide +kernel
theorem dX5_move_19 : decode cX5_move 19 = .ok (.aload_n 0, 1) := by decide +kernel
theorem dX5_move_20 : decode cX5_move 20 = .ok (.getfield 19, 3) := by decide +kernel
theorem dX5_move_23 : decode cX5_move 23 = .ok (.iload_n 1, 1) := by decide +kernel
theorem dX5_move_24 : decode cX5_move 24 = .ok (.iaload, 1) := by decide +kernel
theorem dX5_move_25 : decode cX5_move 25 = .ok (.istore 6, 2) := by decide +kernel
theorem dX5_move_27 : decode cX5_move 27 = .ok (.aload_n 0, 1) := by decide +kernel
theorem dX5_move_28 : decode cX5_move 28 = .ok (.getfield 19, 3) := by decide +kernel
theorem dX5_move_31 : decode cX5_move 31 = .ok (.iload_n 3, 1) := by decide +kernel
theorem dX5_move_32 : decode cX5_move 32 = .ok (.iaload, 1) := by decide +kernel
theorem dX5_move_33 : decode cX5_move 33 = .ok (.istore 7, 2) := by decide +kernel
theorem dX5_move_35 : decode cX5_move 35 = .ok (.iload 6, 2) := by decide +kernel
theorem dX5_move_37 : decode cX5_move 37 = .ok (.iconst (-1), 1) := by decide +kernel
theorem dX5_move_38 : decode cX5_move 38 = .ok (.if_icmp .eq 9, 3) := by decide +kernel
theorem dX5_move_41 : decode cX5_move 41 = .ok (.iload 7, 2) := by decide +kernel
theorem dX5_move_43 : decode cX5_move 43 = .ok (.iconst (-1), 1) := by decide +kernel
theorem dX5_move_44 : decode cX5_move 44 = .ok (.if_icmp .ne 11, 3) := by decide +kernel
theorem dX5_move_47 : decode cX5_move 47 = .ok (.iconst 0, 1) := by decide +kernel
theorem dX5_move_48 : decode cX5_move 48 = .ok (.aload_n 0, 1) := by decide +kernel
theorem dX5_move_49 : decode cX5_move 49 = .ok (.iconst 1, 1) := by decide +kernel
theorem dX5_move_50 : decode cX5_move 50 = .ok (.invokevirtual 64, 3) := by decide +kernel
theorem dX5_move_53 : decode cX5_move 53 = .ok (.imul, 1) := by decide +kernel
theorem dX5_move_54 : decode cX5_move 54 = .ok (.ireturn, 1) := by decide +kernel
theorem dX5_move_55 : decode cX5_move 55 = .ok (.aload_n 0, 1) := by decide +kernel
theorem dX5_move_56 : decode cX5_move 56 = .ok (.getfield 22, 3) := by decide +kernel
theorem dX5_move_59 : decode cX5_move 59 = .ok (.iload 6, 2) := by decide +kernel
theorem dX5_move_61 : decode cX5_move 61 = .ok (.iaload, 1) := by decide +kernel
theorem dX5_move_62 : decode cX5_move 62 = .ok (.aload_n 0, 1) := by decide +kernel
theorem dX5_move_63 : decode cX5_move 63 = .ok (.getfield 22, 3) := by decide +kernel
theorem dX5_move_66 : decode cX5_move 66 = .ok (.iload 7, 2) := by decide +kernel
theorem dX5_move_68 : decode cX5_move 68 = .ok (.iaload, 1) := by decide +kernel
theorem dX5_move_69 : decode cX5_move 69 = .ok (.if_icmp .eq 25, 3) := by decide +kernel
theorem dX5_move_72 : decode cX5_move 72 = .ok (.aload_n 0, 1) := by decide +kernel
theorem dX5_move_73 : decode cX5_move 73 = .ok (.getfield 22, 3) := by decide +kernel
theorem dX5_move_76 : decode cX5_move 76 = .ok (.iload 6, 2) := by decide +kernel
theorem dX5_move_78 : decode cX5_move 78 = .ok (.iaload, 1) := by decide +kernel
theorem dX5_move_79 : decode cX5_move 79 = .ok (.iconst 1, 1) := by decide +kernel
theorem dX5_move_80 : decode cX5_move 80 = .ok (.if_icmp .le 18, 3) := by decide +kernel
theorem dX5_move_83 : decode cX5_move 83 = .ok (.aload_n 0, 1) := by decide +kernel
theorem dX5_move_84 : decode cX5_move 84 = .ok (.getfield 22, 3) := by decide +kernel
theorem dX5_move_87 : decode cX5_move 87 = .ok (.iload 7, 2) := by decide +kernel
theorem dX5_move_89 : decode cX5_move 89 = .ok (.iaload, 1) := by decide +kernel
theorem dX5_move_90 : decode cX5_move 90 = .ok (.iconst 1, 1) := by decide +kernel
theorem dX5_move_91 : decode cX5_move 91 = .ok (.if_icmp .le 7, 3) := by decide +kernel
theorem dX5_move_94 : decode cX5_move 94 = .ok (.iconst 1, 1) := by decide +kernel
theorem dX5_move_95 : decode cX5_move 95 = .ok (.goto 4, 3) := by decide +kernel
theorem dX5_move_98 : decode cX5_move 98 = .ok (.iconst 0, 1) := by decide +kernel
theorem dX5_move_99 : decode cX5_move 99 = .ok (.istore 8, 2) := by decide +kernel
theorem dX5_move_101 : decode cX5_move 101 = .ok (.iload_n 2, 1) := by decide +kernel
theorem dX5_move_102 : decode cX5_move 102 = .ok (.ifCond .lt 54, 3) := by decide +kernel
theorem dX5_move_105 : decode cX5_move 105 = .ok (.iload 4, 2) := by decide +kernel
theorem dX5_move_107 : decode cX5_move 107 = .ok (.ifCond .lt 49, 3) := by decide +kernel
theorem dX5_move_110 : decode cX5_move 110 = .ok (.iload 5, 2) := by decide +kernel
theorem dX5_move_112 : decode cX5_move 112 = .ok (.ifCond .lt 44, 3) := by decide +kernel
theorem dX5_move_115 : decode cX5_move 115 = .ok (.iload_n 2, 1) := by decide +kernel
theorem dX5_move_116 : decode cX5_move 116 = .ok (.i2l, 1) := by decide +kernel
theorem dX5_move_117 : decode cX5_move 117 = .ok (.iload 5, 2) := by decide +kernel
theorem dX5_move_119 : decode cX5_move 119 = .ok (.i2l, 1) := by decide +kernel
theorem dX5_move_120 : decode cX5_move 120 = .ok (.ladd, 1) := by decide +kernel
theorem dX5_move_121 : decode cX5_move 121 = .ok (.aload_n 0, 1) := by decide +kernel
theorem dX5_move_122 : decode cX5_move 122 = .ok (.getfield 25, 3) := by decide +kernel
theorem dX5_move_125 : decode cX5_move 125 = .ok (.iload 6, 2) := by decide +kernel
theorem dX5_move_127 : decode cX5_move 127 = .ok (.iaload, 1) := by decide +kernel
theorem dX5_move_128 : decode cX5_move 128 = .ok (.i2l, 1) := by decide +kernel
theorem dX5_move_129 : decode cX5_move 129 = .ok (.lcmp, 1) := by decide +kernel
theorem dX5_move_130 : decode cX5_move 130 = .ok (.ifCond .gt 26, 3) := by decide +kernel
theorem dX5_move_133 : decode cX5_move 133 = .ok (.iload 4, 2) := by decide +kernel
