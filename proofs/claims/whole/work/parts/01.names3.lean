set_option maxRecDepth 20000 in
theorem gX4_trade_X4_refuse : GoodIn wsX4_trade (wsV RX4 72 RX4 yX4_refuse wsX4_refuse) := goodIn_app (goodIn_of _ (by decide +kernel)) ggX4_trade_X4_refuse
set_option maxRecDepth 20000 in
theorem ggX4_trade_X4_tell : GoodIn wsX4_trade wsX4_tell := goodIn_r _ [20, 21, 22, 23, 24, 25, 26, 27, 28, 29, 30, 37, 38, 39, 40, 41, 42] (by decide +kernel) (by decide +kernel)
set_option maxRecDepth 20000 in
theorem gX4_trade_X4_tell : GoodIn wsX4_trade (wsV RX4 76 RX4 yX4_tell wsX4_tell) := goodIn_app (goodIn_of _ (by decide +kernel)) ggX4_trade_X4_tell
theorem dX4_trade_0 : decode cX4_trade 0 = .ok (.aload_n 0, 1) := by decide +kernel
theorem dX4_trade_1 : decode cX4_trade 1 = .ok (.getfield 10, 3) := by decide +kernel
theorem dX4_trade_4 : decode cX4_trade 4 = .ok (.iload_n 1, 1) := by decide +kernel
theorem dX4_trade_5 : decode cX4_trade 5 = .ok (.invokevirtual 51, 3) := by decide +kernel
theorem dX4_trade_8 : decode cX4_trade 8 = .ok (.astore_n 2, 1) := by decide +kernel
theorem dX4_trade_9 : decode cX4_trade 9 = .ok (.aload_n 2, 1) := by decide +kernel
theorem dX4_trade_10 : decode cX4_trade 10 = .ok (.ifnonnull 6, 3) := by decide +kernel
theorem dX4_trade_13 : decode cX4_trade 13 = .ok (.ldc 33, 2) := by decide +kernel
theorem dX4_trade_15 : decode cX4_trade 15 = .ok (.ireturn, 1) := by decide +kernel
theorem dX4_trade_16 : decode cX4_trade 16 = .ok (.aload_n 0, 1) := by decide +kernel
theorem dX4_trade_17 : decode cX4_trade 17 = .ok (.getfield 10, 3) := by decide +kernel
theorem dX4_trade_20 : decode cX4_trade 20 = .ok (.aload_n 2, 1) := by decide +kernel
theorem dX4_trade_21 : decode cX4_trade 21 = .ok (.getfield 69, 3) := by decide +kernel
theorem dX4_trade_24 : decode cX4_trade 24 = .ok (.invokevirtual 51, 3) := by decide +kernel
theorem dX4_trade_27 : decode cX4_trade 27 = .ok (.astore_n 3, 1) := by decide +kernel
theorem dX4_trade_28 : decode cX4_trade 28 = .ok (.aload_n 3, 1) := by decide +kernel
theorem dX4_trade_29 : decode cX4_trade 29 = .ok (.ifnonnull 9, 3) := by decide +kernel
theorem dX4_trade_32 : decode cX4_trade 32 = .ok (.aload_n 0, 1) := by decide +kernel
theorem dX4_trade_33 : decode cX4_trade 33 = .ok (.iconst 1, 1) := by decide +kernel
theorem dX4_trade_34 : decode cX4_trade 34 = .ok (.invokevirtual 72, 3) := by decide +kernel
theorem dX4_trade_37 : decode cX4_trade 37 = .ok (.ireturn, 1) := by decide +kernel
theorem dX4_trade_38 : decode cX4_trade 38 = .ok (.aload_n 0, 1) := by decide +kernel
theorem dX4_trade_39 : decode cX4_trade 39 = .ok (.iconst 0, 1) := by decide +kernel
theorem dX4_trade_40 : decode cX4_trade 40 = .ok (.invokevirtual 76, 3) := by decide +kernel
theorem dX4_trade_43 : decode cX4_trade 43 = .ok (.pop, 1) := by decide +kernel
theorem dX4_trade_44 : decode cX4_trade 44 = .ok (.aload_n 2, 1) := by decide +kernel
theorem dX4_trade_45 : decode cX4_trade 45 = .ok (.getfield 63, 3) := by decide +kernel
theorem dX4_trade_48 : decode cX4_trade 48 = .ok (.istore 4, 2) := by decide +kernel
theorem dX4_trade_50 : decode cX4_trade 50 = .ok (.aload_n 2, 1) := by decide +kernel
theorem dX4_trade_51 : decode cX4_trade 51 = .ok (.aload_n 3, 1) := by decide +kernel
theorem dX4_trade_52 : decode cX4_trade 52 = .ok (.getfield 63, 3) := by decide +kernel
theorem dX4_trade_55 : decode cX4_trade 55 = .ok (.putfield 63, 3) := by decide +kernel
theorem dX4_trade_58 : decode cX4_trade 58 = .ok (.aload_n 3, 1) := by decide +kernel
theorem dX4_trade_59 : decode cX4_trade 59 = .ok (.iload 4, 2) := by decide +kernel
theorem dX4_trade_61 : decode cX4_trade 61 = .ok (.putfield 63, 3) := by decide +kernel
theorem dX4_trade_64 : decode cX4_trade 64 = .ok (.aload_n 2, 1) := by decide +kernel
theorem dX4_trade_65 : decode cX4_trade 65 = .ok (.getfield 63, 3) := by decide +kernel
theorem dX4_trade_68 : decode cX4_trade 68 = .ok (.ireturn, 1) := by decide +kernel
set_option maxRecDepth 20000 in
theorem ggX4_hold_X1_find : GoodIn wsX4_hold wsX1_find := goodIn_r _ [11, 12, 13, 53, 54] (by decide +kernel) (by decide +kernel)
set_option maxRecDepth 20000 in
theorem gX4_hold_X1_find : GoodIn wsX4_hold (wsV RX4 51 RX1 yX1_find wsX1_find) := goodIn_app (goodIn_of _ (by decide +kernel)) ggX4_hold_X1_find
set_option maxRecDepth 20000 in
theorem ggX4_hold_X4_tell : GoodIn wsX4_hold wsX4_tell := goodIn_r _ [18, 19, 20, 21, 22, 23, 42, 43, 44, 45, 46, 55, 56, 57, 58, 59, 60] (by decide +kernel) (by decide +kernel)
set_option maxRecDepth 20000 in
theorem gX4_hold_X4_tell : GoodIn wsX4_hold (wsV RX4 76 RX4 yX4_tell wsX4_tell) := goodIn_app (goodIn_of _ (by decide +kernel)) ggX4_hold_X4_tell
set_option maxRecDepth 20000 in
theorem ggX4_hold_X4_refuse : GoodIn wsX4_hold wsX4_refuse := goodIn_r _ [27, 14, 15, 16, 17, 18, 19, 20, 21, 22, 23, 42, 43, 44, 45, 46, 55, 56, 57, 58, 59, 60] (by decide +kernel) (by decide +kernel)
set_option maxRecDepth 20000 in
theorem gX4_hold_X4_refuse : GoodIn wsX4_hold (wsV RX4 72 RX4 yX4_refuse wsX4_refuse) := goodIn_app (goodIn_of _ (by decide +kernel)) ggX4_hold_X4_refuse
set_option maxRecDepth 20000 in
theorem ggX4_hold_X0_init : GoodIn wsX4_hold wsX0_init := goodIn_r _ [30, 31, 32, 33, 34, 35, 36, 37, 38, 39, 40, 41, 51, 52] (by decide +kernel) (by decide +kernel)
set_option maxRecDepth 20000 in
theorem gX4_hold_X0_init : GoodIn wsX4_hold (wsX0_init) := ggX4_hold_X0_init
theorem dX4_hold_0 : decode cX4_hold 0 = .ok (.aload_n 0, 1) := by decide +kernel
theorem dX4_hold_1 : decode cX4_hold 1 = .ok (.getfield 10, 3) := by decide +kernel
theorem dX4_hold_4 : decode cX4_hold 4 = .ok (.iload_n 1, 1) := by decide +kernel
theorem dX4_hold_5 : decode cX4_hold 5 = .ok (.invokevirtual 51, 3) := by decide +kernel
theorem dX4_hold_8 : decode cX4_hold 8 = .ok (.astore 4, 2) := by decide +kernel
theorem dX4_hold_10 : decode cX4_hold 10 = .ok (.aload 4, 2) := by decide +kernel
theorem dX4_hold_12 : decode cX4_hold 12 = .ok (.ifnull 19, 3) := by decide +kernel
theorem dX4_hold_15 : decode cX4_hold 15 = .ok (.iload_n 2, 1) := by decide +kernel
theorem dX4_hold_16 : decode cX4_hold 16 = .ok (.iconst (-1), 1) := by decide +kernel
theorem dX4_hold_17 : decode cX4_hold 17 = .ok (.if_icmp .lt 14, 3) := by decide +kernel
theorem dX4_hold_20 : decode cX4_hold 20 = .ok (.iload_n 2, 1) := by decide +kernel
theorem dX4_hold_21 : decode cX4_hold 21 = .ok (.iconst 3, 1) := by decide +kernel
theorem dX4_hold_22 : decode cX4_hold 22 = .ok (.if_icmp .gt 9, 3) := by decide +kernel
theorem dX4_hold_25 : decode cX4_hold 25 = .ok (.iload_n 3, 1) := by decide +kernel
theorem dX4_hold_26 : decode cX4_hold 26 = .ok (.bipush 12, 2) := by decide +kernel
theorem dX4_hold_28 : decode cX4_hold 28 = .ok (.if_icmp .le 6, 3) := by decide +kernel
theorem dX4_hold_31 : decode cX4_hold 31 = .ok (.ldc 33, 2) := by decide +kernel
theorem dX4_hold_33 : decode cX4_hold 33 = .ok (.ireturn, 1) := by decide +kernel
theorem dX4_hold_34 : decode cX4_hold 34 = .ok (.iload_n 2, 1) := by decide +kernel
theorem dX4_hold_35 : decode cX4_hold 35 = .ok (.iconst (-1), 1) := by decide +kernel
theorem dX4_hold_36 : decode cX4_hold 36 = .ok (.if_icmp .ne 17, 3) := by decide +kernel
theorem dX4_hold_39 : decode cX4_hold 39 = .ok (.aload_n 0, 1) := by decide +kernel
theorem dX4_hold_40 : decode cX4_hold 40 = .ok (.iconst 0, 1) := by decide +kernel
theorem dX4_hold_41 : decode cX4_hold 41 = .ok (.invokevirtual 76, 3) := by decide +kernel
theorem dX4_hold_44 : decode cX4_hold 44 = .ok (.pop, 1) := by decide +kernel
theorem dX4_hold_45 : decode cX4_hold 45 = .ok (.aload 4, 2) := by decide +kernel
theorem dX4_hold_47 : decode cX4_hold 47 = .ok (.aconst_null, 1) := by decide +kernel
theorem dX4_hold_48 : decode cX4_hold 48 = .ok (.putfield 79, 3) := by decide +kernel
theorem dX4_hold_51 : decode cX4_hold 51 = .ok (.iconst 0, 1) := by decide +kernel
theorem dX4_hold_52 : decode cX4_hold 52 = .ok (.ireturn, 1) := by decide +kernel
theorem dX4_hold_53 : decode cX4_hold 53 = .ok (.iload_n 3, 1) := by decide +kernel
theorem dX4_hold_54 : decode cX4_hold 54 = .ok (.ifCond .ge 9, 3) := by decide +kernel
theorem dX4_hold_57 : decode cX4_hold 57 = .ok (.aload_n 0, 1) := by decide +kernel
theorem dX4_hold_58 : decode cX4_hold 58 = .ok (.iconst 4, 1) := by decide +kernel
theorem dX4_hold_59 : decode cX4_hold 59 = .ok (.invokevirtual 72, 3) := by decide +kernel
theorem dX4_hold_62 : decode cX4_hold 62 = .ok (.ireturn, 1) := by decide +kernel
theorem dX4_hold_63 : decode cX4_hold 63 = .ok (.aload_n 0, 1) := by decide +kernel
theorem dX4_hold_64 : decode cX4_hold 64 = .ok (.iconst 0, 1) := by decide +kernel
theorem dX4_hold_65 : decode cX4_hold 65 = .ok (.invokevirtual 76, 3) := by decide +kernel
theorem dX4_hold_68 : decode cX4_hold 68 = .ok (.pop, 1) := by decide +kernel
theorem dX4_hold_69 : decode cX4_hold 69 = .ok (.aload 4, 2) := by decide +kernel
theorem dX4_hold_71 : decode cX4_hold 71 = .ok (.new 83, 3) := by decide +kernel
theorem dX4_hold_74 : decode cX4_hold 74 = .ok (.dup, 1) := by decide +kernel
theorem dX4_hold_75 : decode cX4_hold 75 = .ok (.iload_n 2, 1) := by decide +kernel
theorem dX4_hold_76 : decode cX4_hold 76 = .ok (.iload_n 3, 1) := by decide +kernel
theorem dX4_hold_77 : decode cX4_hold 77 = .ok (.invokespecial 85, 3) := by decide +kernel
theorem dX4_hold_80 : decode cX4_hold 80 = .ok (.putfield 79, 3) := by decide +kernel
theorem dX4_hold_83 : decode cX4_hold 83 = .ok (.iload_n 3, 1) := by decide +kernel
theorem dX4_hold_84 : decode cX4_hold 84 = .ok (.ireturn, 1) := by decide +kernel
set_option maxRecDepth 20000 in
theorem ggX4_share_X1_find : GoodIn wsX4_share wsX1_find := goodIn_r _ [8, 9, 10, 27, 28] (by decide +kernel) (by decide +kernel)
set_option maxRecDepth 20000 in
theorem gX4_share_X1_find : GoodIn wsX4_share (wsV RX4 51 RX1 yX1_find wsX1_find) := goodIn_app (goodIn_of _ (by decide +kernel)) ggX4_share_X1_find
set_option maxRecDepth 20000 in
theorem ggX4_share_X2_heldSort : GoodIn wsX4_share wsX2_heldSort := goodIn_r _ [15, 16, 17, 23, 24, 25, 26, 29, 30] (by decide +kernel) (by decide +kernel)
set_option maxRecDepth 20000 in
theorem gX4_share_X2_heldSort : GoodIn wsX4_share (wsV RX4 88 RX2 yX2_heldSort wsX2_heldSort) := goodIn_app (goodIn_of _ (by decide +kernel)) ggX4_share_X2_heldSort
theorem dX4_share_0 : decode cX4_share 0 = .ok (.aload_n 0, 1) := by decide +kernel
theorem dX4_share_1 : decode cX4_share 1 = .ok (.getfield 10, 3) := by decide +kernel
theorem dX4_share_4 : decode cX4_share 4 = .ok (.iload_n 1, 1) := by decide +kernel
theorem dX4_share_5 : decode cX4_share 5 = .ok (.invokevirtual 51, 3) := by decide +kernel
theorem dX4_share_8 : decode cX4_share 8 = .ok (.astore_n 3, 1) := by decide +kernel
theorem dX4_share_9 : decode cX4_share 9 = .ok (.aload_n 0, 1) := by decide +kernel
theorem dX4_share_10 : decode cX4_share 10 = .ok (.getfield 10, 3) := by decide +kernel
theorem dX4_share_13 : decode cX4_share 13 = .ok (.iload_n 2, 1) := by decide +kernel
theorem dX4_share_14 : decode cX4_share 14 = .ok (.invokevirtual 51, 3) := by decide +kernel
theorem dX4_share_17 : decode cX4_share 17 = .ok (.astore 4, 2) := by decide +kernel
theorem dX4_share_19 : decode cX4_share 19 = .ok (.aload_n 3, 1) := by decide +kernel
theorem dX4_share_20 : decode cX4_share 20 = .ok (.ifnull 8, 3) := by decide +kernel
theorem dX4_share_23 : decode cX4_share 23 = .ok (.aload 4, 2) := by decide +kernel
theorem dX4_share_25 : decode cX4_share 25 = .ok (.ifnonnull 6, 3) := by decide +kernel
theorem dX4_share_28 : decode cX4_share 28 = .ok (.ldc 33, 2) := by decide +kernel
theorem dX4_share_30 : decode cX4_share 30 = .ok (.ireturn, 1) := by decide +kernel
theorem dX4_share_31 : decode cX4_share 31 = .ok (.aload_n 3, 1) := by decide +kernel
theorem dX4_share_32 : decode cX4_share 32 = .ok (.aload 4, 2) := by decide +kernel
theorem dX4_share_34 : decode cX4_share 34 = .ok (.getfield 79, 3) := by decide +kernel
theorem dX4_share_37 : decode cX4_share 37 = .ok (.putfield 79, 3) := by decide +kernel
theorem dX4_share_40 : decode cX4_share 40 = .ok (.aload_n 3, 1) := by decide +kernel
theorem dX4_share_41 : decode cX4_share 41 = .ok (.invokevirtual 88, 3) := by decide +kernel
theorem dX4_share_44 : decode cX4_share 44 = .ok (.ireturn, 1) := by decide +kernel
set_option maxRecDepth 20000 in
theorem ggX4_holds_X1_find : GoodIn wsX4_holds wsX1_find := goodIn_r _ [7, 8, 9, 22, 23] (by decide +kernel) (by decide +kernel)
set_option maxRecDepth 20000 in
theorem gX4_holds_X1_find : GoodIn wsX4_holds (wsV RX4 51 RX1 yX1_find wsX1_find) := goodIn_app (goodIn_of _ (by decide +kernel)) ggX4_holds_X1_find
set_option maxRecDepth 20000 in
theorem ggX4_holds_X2_heldSort : GoodIn wsX4_holds wsX2_heldSort := goodIn_r _ [14, 15, 16, 24, 25, 26, 27, 28, 29] (by decide +kernel) (by decide +kernel)
set_option maxRecDepth 20000 in
theorem gX4_holds_X2_heldSort : GoodIn wsX4_holds (wsV RX4 88 RX2 yX2_heldSort wsX2_heldSort) := goodIn_app (goodIn_of _ (by decide +kernel)) ggX4_holds_X2_heldSort
theorem dX4_holds_0 : decode cX4_holds 0 = .ok (.aload_n 0, 1) := by decide +kernel
theorem dX4_holds_1 : decode cX4_holds 1 = .ok (.getfield 10, 3) := by decide +kernel
theorem dX4_holds_4 : decode cX4_holds 4 = .ok (.iload_n 1, 1) := by decide +kernel
theorem dX4_holds_5 : decode cX4_holds 5 = .ok (.invokevirtual 51, 3) := by decide +kernel
theorem dX4_holds_8 : decode cX4_holds 8 = .ok (.astore_n 2, 1) := by decide +kernel
theorem dX4_holds_9 : decode cX4_holds 9 = .ok (.aload_n 2, 1) := by decide +kernel
theorem dX4_holds_10 : decode cX4_holds 10 = .ok (.ifnonnull 8, 3) := by decide +kernel
theorem dX4_holds_13 : decode cX4_holds 13 = .ok (.ldc 33, 2) := by decide +kernel
theorem dX4_holds_15 : decode cX4_holds 15 = .ok (.goto 7, 3) := by decide +kernel
theorem dX4_holds_18 : decode cX4_holds 18 = .ok (.aload_n 2, 1) := by decide +kernel
theorem dX4_holds_19 : decode cX4_holds 19 = .ok (.invokevirtual 88, 3) := by decide +kernel
theorem dX4_holds_22 : decode cX4_holds 22 = .ok (.ireturn, 1) := by decide +kernel
set_option maxRecDepth 20000 in
theorem ggX4_size_X1_find : GoodIn wsX4_size wsX1_find := goodIn_r _ [9, 10, 11, 37, 38] (by decide +kernel) (by decide +kernel)
set_option maxRecDepth 20000 in
theorem gX4_size_X1_find : GoodIn wsX4_size (wsV RX4 51 RX1 yX1_find wsX1_find) := goodIn_app (goodIn_of _ (by decide +kernel)) ggX4_size_X1_find
set_option maxRecDepth 20000 in
theorem ggX4_size_X4_refuse : GoodIn wsX4_size wsX4_refuse := goodIn_r _ [16, 17, 18, 19, 15, 20, 21, 22, 23, 24, 25, 26, 27, 28, 29, 30, 39, 40, 41, 42, 43, 44] (by decide +kernel) (by decide +kernel)
set_option maxRecDepth 20000 in
theorem gX4_size_X4_refuse : GoodIn wsX4_size (wsV RX4 72 RX4 yX4_refuse wsX4_refuse) := goodIn_app (goodIn_of _ (by decide +kernel)) ggX4_size_X4_refuse
set_option maxRecDepth 20000 in
theorem ggX4_size_X4_tell : GoodIn wsX4_size wsX4_tell := goodIn_r _ [20, 21, 22, 23, 24, 25, 26, 27, 28, 29, 30, 39, 40, 41, 42, 43, 44] (by decide +kernel) (by decide +kernel)
set_option maxRecDepth 20000 in
theorem gX4_size_X4_tell : GoodIn wsX4_size (wsV RX4 76 RX4 yX4_tell wsX4_tell) := goodIn_app (goodIn_of _ (by decide +kernel)) ggX4_size_X4_tell
theorem dX4_size_0 : decode cX4_size 0 = .ok (.aload_n 0, 1) := by decide +kernel
theorem dX4_size_1 : decode cX4_size 1 = .ok (.getfield 10, 3) := by decide +kernel
theorem dX4_size_4 : decode cX4_size 4 = .ok (.iload_n 1, 1) := by decide +kernel
theorem dX4_size_5 : decode cX4_size 5 = .ok (.invokevirtual 51, 3) := by decide +kernel
theorem dX4_size_8 : decode cX4_size 8 = .ok (.astore_n 2, 1) := by decide +kernel
theorem dX4_size_9 : decode cX4_size 9 = .ok (.aload_n 2, 1) := by decide +kernel
theorem dX4_size_10 : decode cX4_size 10 = .ok (.ifnonnull 6, 3) := by decide +kernel
theorem dX4_size_13 : decode cX4_size 13 = .ok (.ldc 33, 2) := by decide +kernel
theorem dX4_size_15 : decode cX4_size 15 = .ok (.ireturn, 1) := by decide +kernel
theorem dX4_size_16 : decode cX4_size 16 = .ok (.aload_n 2, 1) := by decide +kernel
theorem dX4_size_17 : decode cX4_size 17 = .ok (.getfield 79, 3) := by decide +kernel
theorem dX4_size_20 : decode cX4_size 20 = .ok (.astore_n 3, 1) := by decide +kernel
theorem dX4_size_21 : decode cX4_size 21 = .ok (.aload_n 3, 1) := by decide +kernel
theorem dX4_size_22 : decode cX4_size 22 = .ok (.ifnonnull 9, 3) := by decide +kernel
theorem dX4_size_25 : decode cX4_size 25 = .ok (.aload_n 0, 1) := by decide +kernel
theorem dX4_size_26 : decode cX4_size 26 = .ok (.iconst 1, 1) := by decide +kernel
theorem dX4_size_27 : decode cX4_size 27 = .ok (.invokevirtual 72, 3) := by decide +kernel
theorem dX4_size_30 : decode cX4_size 30 = .ok (.ireturn, 1) := by decide +kernel
theorem dX4_size_31 : decode cX4_size 31 = .ok (.aload_n 0, 1) := by decide +kernel
theorem dX4_size_32 : decode cX4_size 32 = .ok (.iconst 0, 1) := by decide +kernel
theorem dX4_size_33 : decode cX4_size 33 = .ok (.invokevirtual 76, 3) := by decide +kernel
theorem dX4_size_36 : decode cX4_size 36 = .ok (.pop, 1) := by decide +kernel
theorem dX4_size_37 : decode cX4_size 37 = .ok (.aload_n 3, 1) := by decide +kernel
theorem dX4_size_38 : decode cX4_size 38 = .ok (.getfield 92, 3) := by decide +kernel
theorem dX4_size_41 : decode cX4_size 41 = .ok (.arraylength, 1) := by decide +kernel
theorem dX4_size_42 : decode cX4_size 42 = .ok (.ireturn, 1) := by decide +kernel
set_option maxRecDepth 20000 in
theorem ggX4_at_X1_find : GoodIn wsX4_at wsX1_find := goodIn_r _ [9, 10, 11, 47, 48] (by decide +kernel) (by decide +kernel)
set_option maxRecDepth 20000 in
theorem gX4_at_X1_find : GoodIn wsX4_at (wsV RX4 51 RX1 yX1_find wsX1_find) := goodIn_app (goodIn_of _ (by decide +kernel)) ggX4_at_X1_find
set_option maxRecDepth 20000 in
theorem ggX4_at_X4_againstItem : GoodIn wsX4_at wsX4_againstItem := goodIn_r _ [15, 16, 17, 18, 19, 20, 21, 22, 45, 46] (by decide +kernel) (by decide +kernel)
set_option maxRecDepth 20000 in
theorem gX4_at_X4_againstItem : GoodIn wsX4_at (va_wsS RX4 98 yX4_againstItem wsX4_againstItem) := goodIn_app (goodIn_of _ (by decide +kernel)) ggX4_at_X4_againstItem
set_option maxRecDepth 20000 in
theorem ggX4_at_X4_refuse : GoodIn wsX4_at wsX4_refuse := goodIn_r _ [26, 27, 28, 29, 14, 30, 31, 32, 33, 34, 35, 36, 37, 38, 39, 40, 49, 50, 51, 52, 53, 54] (by decide +kernel) (by decide +kernel)
set_option maxRecDepth 20000 in
theorem gX4_at_X4_refuse : GoodIn wsX4_at (wsV RX4 72 RX4 yX4_refuse wsX4_refuse) := goodIn_app (goodIn_of _ (by decide +kernel)) ggX4_at_X4_refuse
set_option maxRecDepth 20000 in
theorem ggX4_at_X4_tell : GoodIn wsX4_at wsX4_tell := goodIn_r _ [30, 31, 32, 33, 34, 35, 36, 37, 38, 39, 40, 49, 50, 51, 52, 53, 54] (by decide +kernel) (by decide +kernel)
set_option maxRecDepth 20000 in
theorem gX4_at_X4_tell : GoodIn wsX4_at (wsV RX4 76 RX4 yX4_tell wsX4_tell) := goodIn_app (goodIn_of _ (by decide +kernel)) ggX4_at_X4_tell
theorem dX4_at_0 : decode cX4_at 0 = .ok (.aload_n 0, 1) := by decide +kernel
theorem dX4_at_1 : decode cX4_at 1 = .ok (.getfield 10, 3) := by decide +kernel
theorem dX4_at_4 : decode cX4_at 4 = .ok (.iload_n 1, 1) := by decide +kernel
theorem dX4_at_5 : decode cX4_at 5 = .ok (.invokevirtual 51, 3) := by decide +kernel
theorem dX4_at_8 : decode cX4_at 8 = .ok (.astore_n 3, 1) := by decide +kernel
theorem dX4_at_9 : decode cX4_at 9 = .ok (.aload_n 3, 1) := by decide +kernel
theorem dX4_at_10 : decode cX4_at 10 = .ok (.ifnonnull 7, 3) := by decide +kernel
theorem dX4_at_13 : decode cX4_at 13 = .ok (.ldc2_w 96, 3) := by decide +kernel
theorem dX4_at_16 : decode cX4_at 16 = .ok (.lreturn, 1) := by decide +kernel
theorem dX4_at_17 : decode cX4_at 17 = .ok (.aload_n 3, 1) := by decide +kernel
theorem dX4_at_18 : decode cX4_at 18 = .ok (.getfield 79, 3) := by decide +kernel
theorem dX4_at_21 : decode cX4_at 21 = .ok (.astore 4, 2) := by decide +kernel
theorem dX4_at_23 : decode cX4_at 23 = .ok (.aload 4, 2) := by decide +kernel
theorem dX4_at_25 : decode cX4_at 25 = .ok (.iconst 0, 1) := by decide +kernel
theorem dX4_at_26 : decode cX4_at 26 = .ok (.iconst 3, 1) := by decide +kernel
theorem dX4_at_27 : decode cX4_at 27 = .ok (.iload_n 2, 1) := by decide +kernel
theorem dX4_at_28 : decode cX4_at 28 = .ok (.invokestatic 98, 3) := by decide +kernel
theorem dX4_at_31 : decode cX4_at 31 = .ok (.istore 5, 2) := by decide +kernel
theorem dX4_at_33 : decode cX4_at 33 = .ok (.iload 5, 2) := by decide +kernel
theorem dX4_at_35 : decode cX4_at 35 = .ok (.ifCond .eq 11, 3) := by decide +kernel
theorem dX4_at_38 : decode cX4_at 38 = .ok (.aload_n 0, 1) := by decide +kernel
theorem dX4_at_39 : decode cX4_at 39 = .ok (.iload 5, 2) := by decide +kernel
theorem dX4_at_41 : decode cX4_at 41 = .ok (.invokevirtual 72, 3) := by decide +kernel
theorem dX4_at_44 : decode cX4_at 44 = .ok (.i2l, 1) := by decide +kernel
theorem dX4_at_45 : decode cX4_at 45 = .ok (.lreturn, 1) := by decide +kernel
theorem dX4_at_46 : decode cX4_at 46 = .ok (.aload_n 0, 1) := by decide +kernel
theorem dX4_at_47 : decode cX4_at 47 = .ok (.iconst 0, 1) := by decide +kernel
theorem dX4_at_48 : decode cX4_at 48 = .ok (.invokevirtual 76, 3) := by decide +kernel
theorem dX4_at_51 : decode cX4_at 51 = .ok (.pop, 1) := by decide +kernel
theorem dX4_at_52 : decode cX4_at 52 = .ok (.aload 4, 2) := by decide +kernel
theorem dX4_at_54 : decode cX4_at 54 = .ok (.getfield 92, 3) := by decide +kernel
theorem dX4_at_57 : decode cX4_at 57 = .ok (.iload_n 2, 1) := by decide +kernel
theorem dX4_at_58 : decode cX4_at 58 = .ok (.laload, 1) := by decide +kernel
theorem dX4_at_59 : decode cX4_at 59 = .ok (.lreturn, 1) := by decide +kernel
set_option maxRecDepth 20000 in
theorem ggX4_lay_X1_find : GoodIn wsX4_lay wsX1_find := goodIn_r _ [9, 10, 11, 50, 51] (by decide +kernel) (by decide +kernel)
set_option maxRecDepth 20000 in
theorem gX4_lay_X1_find : GoodIn wsX4_lay (wsV RX4 51 RX1 yX1_find wsX1_find) := goodIn_app (goodIn_of _ (by decide +kernel)) ggX4_lay_X1_find
set_option maxRecDepth 20000 in
theorem ggX4_lay_X4_againstItem : GoodIn wsX4_lay wsX4_againstItem := goodIn_r _ [15, 4, 16, 17, 18, 19, 20, 21, 48, 49] (by decide +kernel) (by decide +kernel)
set_option maxRecDepth 20000 in
theorem gX4_lay_X4_againstItem : GoodIn wsX4_lay (va_wsS RX4 98 yX4_againstItem wsX4_againstItem) := goodIn_app (goodIn_of _ (by decide +kernel)) ggX4_lay_X4_againstItem
set_option maxRecDepth 20000 in
theorem ggX4_lay_X4_refuse : GoodIn wsX4_lay wsX4_refuse := goodIn_r _ [25, 26, 27, 28, 14, 29, 30, 31, 32, 33, 34, 39, 40, 41, 42, 43, 52, 53, 54, 55, 56, 57] (by decide +kernel) (by decide +kernel)
set_option maxRecDepth 20000 in
theorem gX4_lay_X4_refuse : GoodIn wsX4_lay (wsV RX4 72 RX4 yX4_refuse wsX4_refuse) := goodIn_app (goodIn_of _ (by decide +kernel)) ggX4_lay_X4_refuse
set_option maxRecDepth 20000 in
theorem ggX4_lay_X4_tell : GoodIn wsX4_lay wsX4_tell := goodIn_r _ [29, 30, 31, 32, 33, 34, 39, 40, 41, 42, 43, 52, 53, 54, 55, 56, 57] (by decide +kernel) (by decide +kernel)
set_option maxRecDepth 20000 in
theorem gX4_lay_X4_tell : GoodIn wsX4_lay (wsV RX4 76 RX4 yX4_tell wsX4_tell) := goodIn_app (goodIn_of _ (by decide +kernel)) ggX4_lay_X4_tell
set_option maxRecDepth 20000 in
theorem ggX4_lay_X0_put : GoodIn wsX4_lay wsX0_put := goodIn_r _ [38, 21, 48, 49] (by decide +kernel) (by decide +kernel)
set_option maxRecDepth 20000 in
theorem gX4_lay_X0_put : GoodIn wsX4_lay (wsV RX4 105 RX0 yX0_put wsX0_put) := goodIn_app (goodIn_of _ (by decide +kernel)) ggX4_lay_X0_put
theorem dX4_lay_0 : decode cX4_lay 0 = .ok (.aload_n 0, 1) := by decide +kernel
theorem dX4_lay_1 : decode cX4_lay 1 = .ok (.getfield 10, 3) := by decide +kernel
theorem dX4_lay_4 : decode cX4_lay 4 = .ok (.iload_n 1, 1) := by decide +kernel
theorem dX4_lay_5 : decode cX4_lay 5 = .ok (.invokevirtual 51, 3) := by decide +kernel
theorem dX4_lay_8 : decode cX4_lay 8 = .ok (.astore 5, 2) := by decide +kernel
theorem dX4_lay_10 : decode cX4_lay 10 = .ok (.aload 5, 2) := by decide +kernel
theorem dX4_lay_12 : decode cX4_lay 12 = .ok (.ifnonnull 7, 3) := by decide +kernel
theorem dX4_lay_15 : decode cX4_lay 15 = .ok (.ldc2_w 96, 3) := by decide +kernel
theorem dX4_lay_18 : decode cX4_lay 18 = .ok (.lreturn, 1) := by decide +kernel
theorem dX4_lay_19 : decode cX4_lay 19 = .ok (.aload 5, 2) := by decide +kernel
theorem dX4_lay_21 : decode cX4_lay 21 = .ok (.getfield 79, 3) := by decide +kernel
theorem dX4_lay_24 : decode cX4_lay 24 = .ok (.astore 6, 2) := by decide +kernel
theorem dX4_lay_26 : decode cX4_lay 26 = .ok (.aload 6, 2) := by decide +kernel
theorem dX4_lay_28 : decode cX4_lay 28 = .ok (.iconst 0, 1) := by decide +kernel
theorem dX4_lay_29 : decode cX4_lay 29 = .ok (.iconst 1, 1) := by decide +kernel
theorem dX4_lay_30 : decode cX4_lay 30 = .ok (.iload_n 2, 1) := by decide +kernel
theorem dX4_lay_31 : decode cX4_lay 31 = .ok (.invokestatic 98, 3) := by decide +kernel
theorem dX4_lay_34 : decode cX4_lay 34 = .ok (.istore 7, 2) := by decide +kernel
theorem dX4_lay_36 : decode cX4_lay 36 = .ok (.iload 7, 2) := by decide +kernel
theorem dX4_lay_38 : decode cX4_lay 38 = .ok (.ifCond .eq 11, 3) := by decide +kernel
theorem dX4_lay_41 : decode cX4_lay 41 = .ok (.aload_n 0, 1) := by decide +kernel
theorem dX4_lay_42 : decode cX4_lay 42 = .ok (.iload 7, 2) := by decide +kernel
theorem dX4_lay_44 : decode cX4_lay 44 = .ok (.invokevirtual 72, 3) := by decide +kernel
theorem dX4_lay_47 : decode cX4_lay 47 = .ok (.i2l, 1) := by decide +kernel
theorem dX4_lay_48 : decode cX4_lay 48 = .ok (.lreturn, 1) := by decide +kernel
theorem dX4_lay_49 : decode cX4_lay 49 = .ok (.aload_n 0, 1) := by decide +kernel
theorem dX4_lay_50 : decode cX4_lay 50 = .ok (.iconst 0, 1) := by decide +kernel
theorem dX4_lay_51 : decode cX4_lay 51 = .ok (.invokevirtual 76, 3) := by decide +kernel
theorem dX4_lay_54 : decode cX4_lay 54 = .ok (.pop, 1) := by decide +kernel
theorem dX4_lay_55 : decode cX4_lay 55 = .ok (.aload 6, 2) := by decide +kernel
theorem dX4_lay_57 : decode cX4_lay 57 = .ok (.iload_n 2, 1) := by decide +kernel
theorem dX4_lay_58 : decode cX4_lay 58 = .ok (.aload 6, 2) := by decide +kernel
theorem dX4_lay_60 : decode cX4_lay 60 = .ok (.getfield 102, 3) := by decide +kernel
theorem dX4_lay_63 : decode cX4_lay 63 = .ok (.ifCond .ne 9, 3) := by decide +kernel
theorem dX4_lay_66 : decode cX4_lay 66 = .ok (.lload_n 3, 1) := by decide +kernel
theorem dX4_lay_67 : decode cX4_lay 67 = .ok (.l2i, 1) := by decide +kernel
theorem dX4_lay_68 : decode cX4_lay 68 = .ok (.i2l, 1) := by decide +kernel
theorem dX4_lay_69 : decode cX4_lay 69 = .ok (.goto 4, 3) := by decide +kernel
theorem dX4_lay_72 : decode cX4_lay 72 = .ok (.lload_n 3, 1) := by decide +kernel
theorem dX4_lay_73 : decode cX4_lay 73 = .ok (.invokevirtual 105, 3) := by decide +kernel
theorem dX4_lay_76 : decode cX4_lay 76 = .ok (.lreturn, 1) := by decide +kernel
set_option maxRecDepth 20000 in
theorem ggX4_set_X1_find : GoodIn wsX4_set wsX1_find := goodIn_r _ [9, 10, 11, 65, 66] (by decide +kernel) (by decide +kernel)
set_option maxRecDepth 20000 in
theorem gX4_set_X1_find : GoodIn wsX4_set (wsV RX4 51 RX1 yX1_find wsX1_find) := goodIn_app (goodIn_of _ (by decide +kernel)) ggX4_set_X1_find
set_option maxRecDepth 20000 in
theorem ggX4_set_X1_hasOrNone : GoodIn wsX4_set wsX1_hasOrNone := goodIn_r _ [15, 16, 6, 7, 8, 9, 10, 11, 65, 66] (by decide +kernel) (by decide +kernel)
set_option maxRecDepth 20000 in
theorem gX4_set_X1_hasOrNone : GoodIn wsX4_set (wsV RX4 66 RX1 yX1_hasOrNone wsX1_hasOrNone) := goodIn_app (goodIn_of _ (by decide +kernel)) ggX4_set_X1_hasOrNone
set_option maxRecDepth 20000 in
theorem ggX4_set_X4_againstItem : GoodIn wsX4_set wsX4_againstItem := goodIn_r _ [20, 4, 21, 22, 23, 24, 25, 26, 63, 64] (by decide +kernel) (by decide +kernel)
set_option maxRecDepth 20000 in
theorem gX4_set_X4_againstItem : GoodIn wsX4_set (va_wsS RX4 98 yX4_againstItem wsX4_againstItem) := goodIn_app (goodIn_of _ (by decide +kernel)) ggX4_set_X4_againstItem
set_option maxRecDepth 20000 in
theorem ggX4_set_X4_refuse : GoodIn wsX4_set wsX4_refuse := goodIn_r _ [30, 31, 32, 33, 19, 34, 35, 36, 37, 38, 39, 54, 55, 56, 57, 58, 67, 68, 69, 70, 71, 72] (by decide +kernel) (by decide +kernel)
set_option maxRecDepth 20000 in
theorem gX4_set_X4_refuse : GoodIn wsX4_set (wsV RX4 72 RX4 yX4_refuse wsX4_refuse) := goodIn_app (goodIn_of _ (by decide +kernel)) ggX4_set_X4_refuse
set_option maxRecDepth 20000 in
theorem ggX4_set_X1_isLeafOrNone : GoodIn wsX4_set wsX1_isLeafOrNone := goodIn_r _ [43, 16, 6, 7, 8, 9, 10, 11, 44, 45, 46, 47, 48, 49, 65, 66, 59, 60, 61, 62] (by decide +kernel) (by decide +kernel)
set_option maxRecDepth 20000 in
theorem gX4_set_X1_isLeafOrNone : GoodIn wsX4_set (wsV RX4 109 RX1 yX1_isLeafOrNone wsX1_isLeafOrNone) := goodIn_app (goodIn_of _ (by decide +kernel)) ggX4_set_X1_isLeafOrNone
set_option maxRecDepth 20000 in
theorem ggX4_set_X4_tell : GoodIn wsX4_set wsX4_tell := goodIn_r _ [34, 35, 36, 37, 38, 39, 54, 55, 56, 57, 58, 67, 68, 69, 70, 71, 72] (by decide +kernel) (by decide +kernel)
set_option maxRecDepth 20000 in
theorem gX4_set_X4_tell : GoodIn wsX4_set (wsV RX4 76 RX4 yX4_tell wsX4_tell) := goodIn_app (goodIn_of _ (by decide +kernel)) ggX4_set_X4_tell
set_option maxRecDepth 20000 in
theorem ggX4_set_X0_put : GoodIn wsX4_set wsX0_put := goodIn_r _ [53, 26, 63, 64] (by decide +kernel) (by decide +kernel)
set_option maxRecDepth 20000 in
theorem gX4_set_X0_put : GoodIn wsX4_set (wsV RX4 105 RX0 yX0_put wsX0_put) := goodIn_app (goodIn_of _ (by decide +kernel)) ggX4_set_X0_put
theorem dX4_set_0 : decode cX4_set 0 = .ok (.aload_n 0, 1) := by decide +kernel
theorem dX4_set_1 : decode cX4_set 1 = .ok (.getfield 10, 3) := by decide +kernel
theorem dX4_set_4 : decode cX4_set 4 = .ok (.iload_n 1, 1) := by decide +kernel
theorem dX4_set_5 : decode cX4_set 5 = .ok (.invokevirtual 51, 3) := by decide +kernel
theorem dX4_set_8 : decode cX4_set 8 = .ok (.astore 4, 2) := by decide +kernel
theorem dX4_set_10 : decode cX4_set 10 = .ok (.aload 4, 2) := by decide +kernel
theorem dX4_set_12 : decode cX4_set 12 = .ok (.ifnull 14, 3) := by decide +kernel
theorem dX4_set_15 : decode cX4_set 15 = .ok (.aload_n 0, 1) := by decide +kernel
theorem dX4_set_16 : decode cX4_set 16 = .ok (.getfield 10, 3) := by decide +kernel
theorem dX4_set_19 : decode cX4_set 19 = .ok (.iload_n 3, 1) := by decide +kernel
theorem dX4_set_20 : decode cX4_set 20 = .ok (.invokevirtual 66, 3) := by decide +kernel
theorem dX4_set_23 : decode cX4_set 23 = .ok (.ifCond .ne 6, 3) := by decide +kernel
theorem dX4_set_26 : decode cX4_set 26 = .ok (.ldc 33, 2) := by decide +kernel
theorem dX4_set_28 : decode cX4_set 28 = .ok (.ireturn, 1) := by decide +kernel
theorem dX4_set_29 : decode cX4_set 29 = .ok (.aload 4, 2) := by decide +kernel
theorem dX4_set_31 : decode cX4_set 31 = .ok (.getfield 79, 3) := by decide +kernel
theorem dX4_set_34 : decode cX4_set 34 = .ok (.astore 5, 2) := by decide +kernel
theorem dX4_set_36 : decode cX4_set 36 = .ok (.aload 5, 2) := by decide +kernel
theorem dX4_set_38 : decode cX4_set 38 = .ok (.iconst 2, 1) := by decide +kernel
theorem dX4_set_39 : decode cX4_set 39 = .ok (.iconst 3, 1) := by decide +kernel
theorem dX4_set_40 : decode cX4_set 40 = .ok (.iload_n 2, 1) := by decide +kernel
theorem dX4_set_41 : decode cX4_set 41 = .ok (.invokestatic 98, 3) := by decide +kernel
theorem dX4_set_44 : decode cX4_set 44 = .ok (.istore 6, 2) := by decide +kernel
theorem dX4_set_46 : decode cX4_set 46 = .ok (.iload 6, 2) := by decide +kernel
theorem dX4_set_48 : decode cX4_set 48 = .ok (.ifCond .eq 10, 3) := by decide +kernel
theorem dX4_set_51 : decode cX4_set 51 = .ok (.aload_n 0, 1) := by decide +kernel
theorem dX4_set_52 : decode cX4_set 52 = .ok (.iload 6, 2) := by decide +kernel
theorem dX4_set_54 : decode cX4_set 54 = .ok (.invokevirtual 72, 3) := by decide +kernel
theorem dX4_set_57 : decode cX4_set 57 = .ok (.ireturn, 1) := by decide +kernel
theorem dX4_set_58 : decode cX4_set 58 = .ok (.aload 5, 2) := by decide +kernel
theorem dX4_set_60 : decode cX4_set 60 = .ok (.getfield 102, 3) := by decide +kernel
theorem dX4_set_63 : decode cX4_set 63 = .ok (.iconst 3, 1) := by decide +kernel
theorem dX4_set_64 : decode cX4_set 64 = .ok (.if_icmp .ne 20, 3) := by decide +kernel
theorem dX4_set_67 : decode cX4_set 67 = .ok (.aload_n 0, 1) := by decide +kernel
theorem dX4_set_68 : decode cX4_set 68 = .ok (.getfield 10, 3) := by decide +kernel
theorem dX4_set_71 : decode cX4_set 71 = .ok (.iload_n 3, 1) := by decide +kernel
theorem dX4_set_72 : decode cX4_set 72 = .ok (.invokevirtual 109, 3) := by decide +kernel
theorem dX4_set_75 : decode cX4_set 75 = .ok (.ifCond .ne 9, 3) := by decide +kernel
theorem dX4_set_78 : decode cX4_set 78 = .ok (.aload_n 0, 1) := by decide +kernel
theorem dX4_set_79 : decode cX4_set 79 = .ok (.iconst 5, 1) := by decide +kernel
theorem dX4_set_80 : decode cX4_set 80 = .ok (.invokevirtual 72, 3) := by decide +kernel
theorem dX4_set_83 : decode cX4_set 83 = .ok (.ireturn, 1) := by decide +kernel
theorem dX4_set_84 : decode cX4_set 84 = .ok (.aload_n 0, 1) := by decide +kernel
theorem dX4_set_85 : decode cX4_set 85 = .ok (.iconst 0, 1) := by decide +kernel
theorem dX4_set_86 : decode cX4_set 86 = .ok (.invokevirtual 76, 3) := by decide +kernel
theorem dX4_set_89 : decode cX4_set 89 = .ok (.pop, 1) := by decide +kernel
theorem dX4_set_90 : decode cX4_set 90 = .ok (.aload 5, 2) := by decide +kernel
theorem dX4_set_92 : decode cX4_set 92 = .ok (.iload_n 2, 1) := by decide +kernel
theorem dX4_set_93 : decode cX4_set 93 = .ok (.iload_n 3, 1) := by decide +kernel
theorem dX4_set_94 : decode cX4_set 94 = .ok (.i2l, 1) := by decide +kernel
theorem dX4_set_95 : decode cX4_set 95 = .ok (.invokevirtual 105, 3) := by decide +kernel
theorem dX4_set_98 : decode cX4_set 98 = .ok (.l2i, 1) := by decide +kernel
theorem dX4_set_99 : decode cX4_set 99 = .ok (.ireturn, 1) := by decide +kernel
set_option maxRecDepth 20000 in
theorem ggX4_move_X1_find : GoodIn wsX4_move wsX1_find := goodIn_r _ [14, 15, 16, 71, 72] (by decide +kernel) (by decide +kernel)
set_option maxRecDepth 20000 in
theorem gX4_move_X1_find : GoodIn wsX4_move (wsV RX4 51 RX1 yX1_find wsX1_find) := goodIn_app (goodIn_of _ (by decide +kernel)) ggX4_move_X1_find
set_option maxRecDepth 20000 in
theorem ggX4_move_X4_againstMove : GoodIn wsX4_move wsX4_againstMove := goodIn_r _ [20, 4, 21, 22, 23, 24, 25, 26, 27, 28, 29, 30, 31, 69, 70] (by decide +kernel) (by decide +kernel)
set_option maxRecDepth 20000 in
theorem gX4_move_X4_againstMove : GoodIn wsX4_move (va_wsS RX4 112 yX4_againstMove wsX4_againstMove) := goodIn_app (goodIn_of _ (by decide +kernel)) ggX4_move_X4_againstMove
set_option maxRecDepth 20000 in
theorem ggX4_move_X4_refuse : GoodIn wsX4_move wsX4_refuse := goodIn_r _ [35, 36, 37, 38, 19, 39, 40, 41, 42, 43, 44, 60, 61, 62, 63, 64, 73, 74, 75, 76, 77, 78] (by decide +kernel) (by decide +kernel)
set_option maxRecDepth 20000 in
theorem gX4_move_X4_refuse : GoodIn wsX4_move (wsV RX4 72 RX4 yX4_refuse wsX4_refuse) := goodIn_app (goodIn_of _ (by decide +kernel)) ggX4_move_X4_refuse
set_option maxRecDepth 20000 in
theorem ggX4_move_X4_leavesAhead : GoodIn wsX4_move wsX4_leavesAhead := goodIn_r _ [48, 1, 5, 49, 50, 51, 13, 52, 53, 11, 12, 14, 15, 16, 54, 55, 56, 57, 58, 59, 60, 61, 62, 63, 64, 69, 70, 71, 72, 65, 66, 67, 68] (by decide +kernel) (by decide +kernel)
set_option maxRecDepth 20000 in
theorem gX4_move_X4_leavesAhead : GoodIn wsX4_move (wsV RX4 116 RX4 yX4_leavesAhead wsX4_leavesAhead) := goodIn_app (goodIn_of _ (by decide +kernel)) ggX4_move_X4_leavesAhead
set_option maxRecDepth 20000 in
theorem ggX4_move_X4_tell : GoodIn wsX4_move wsX4_tell := goodIn_r _ [39, 40, 41, 42, 43, 44, 60, 61, 62, 63, 64, 73, 74, 75, 76, 77, 78] (by decide +kernel) (by decide +kernel)
set_option maxRecDepth 20000 in
theorem gX4_move_X4_tell : GoodIn wsX4_move (wsV RX4 76 RX4 yX4_tell wsX4_tell) := goodIn_app (goodIn_of _ (by decide +kernel)) ggX4_move_X4_tell
theorem dX4_move_0 : decode cX4_move 0 = .ok (.aload_n 0, 1) := by decide +kernel
theorem dX4_move_1 : decode cX4_move 1 = .ok (.getfield 10, 3) := by decide +kernel
theorem dX4_move_4 : decode cX4_move 4 = .ok (.iload_n 1, 1) := by decide +kernel
theorem dX4_move_5 : decode cX4_move 5 = .ok (.invokevirtual 51, 3) := by decide +kernel
theorem dX4_move_8 : decode cX4_move 8 = .ok (.astore 6, 2) := by decide +kernel
theorem dX4_move_10 : decode cX4_move 10 = .ok (.aload_n 0, 1) := by decide +kernel
theorem dX4_move_11 : decode cX4_move 11 = .ok (.getfield 10, 3) := by decide +kernel
theorem dX4_move_14 : decode cX4_move 14 = .ok (.iload_n 3, 1) := by decide +kernel
theorem dX4_move_15 : decode cX4_move 15 = .ok (.invokevirtual 51, 3) := by decide +kernel
theorem dX4_move_18 : decode cX4_move 18 = .ok (.astore 7, 2) := by decide +kernel
theorem dX4_move_20 : decode cX4_move 20 = .ok (.aload 6, 2) := by decide +kernel
theorem dX4_move_22 : decode cX4_move 22 = .ok (.ifnull 8, 3) := by decide +kernel
theorem dX4_move_25 : decode cX4_move 25 = .ok (.aload 7, 2) := by decide +kernel
theorem dX4_move_27 : decode cX4_move 27 = .ok (.ifnonnull 6, 3) := by decide +kernel
theorem dX4_move_30 : decode cX4_move 30 = .ok (.ldc 33, 2) := by decide +kernel
theorem dX4_move_32 : decode cX4_move 32 = .ok (.ireturn, 1) := by decide +kernel
theorem dX4_move_33 : decode cX4_move 33 = .ok (.aload 6, 2) := by decide +kernel
theorem dX4_move_35 : decode cX4_move 35 = .ok (.getfield 79, 3) := by decide +kernel
theorem dX4_move_38 : decode cX4_move 38 = .ok (.astore 8, 2) := by decide +kernel
theorem dX4_move_40 : decode cX4_move 40 = .ok (.aload 7, 2) := by decide +kernel
theorem dX4_move_42 : decode cX4_move 42 = .ok (.getfield 79, 3) := by decide +kernel
theorem dX4_move_45 : decode cX4_move 45 = .ok (.astore 9, 2) := by decide +kernel
theorem dX4_move_47 : decode cX4_move 47 = .ok (.aload 8, 2) := by decide +kernel
theorem dX4_move_49 : decode cX4_move 49 = .ok (.iload_n 2, 1) := by decide +kernel
theorem dX4_move_50 : decode cX4_move 50 = .ok (.aload 9, 2) := by decide +kernel
theorem dX4_move_52 : decode cX4_move 52 = .ok (.iload 4, 2) := by decide +kernel
theorem dX4_move_54 : decode cX4_move 54 = .ok (.iload 5, 2) := by decide +kernel
theorem dX4_move_56 : decode cX4_move 56 = .ok (.invokestatic 112, 3) := by decide +kernel
theorem dX4_move_59 : decode cX4_move 59 = .ok (.istore 10, 2) := by decide +kernel
theorem dX4_move_61 : decode cX4_move 61 = .ok (.iload 10, 2) := by decide +kernel
theorem dX4_move_63 : decode cX4_move 63 = .ok (.ifCond .eq 10, 3) := by decide +kernel
theorem dX4_move_66 : decode cX4_move 66 = .ok (.aload_n 0, 1) := by decide +kernel
theorem dX4_move_67 : decode cX4_move 67 = .ok (.iload 10, 2) := by decide +kernel
theorem dX4_move_69 : decode cX4_move 69 = .ok (.invokevirtual 72, 3) := by decide +kernel
theorem dX4_move_72 : decode cX4_move 72 = .ok (.ireturn, 1) := by decide +kernel
theorem dX4_move_73 : decode cX4_move 73 = .ok (.aload 8, 2) := by decide +kernel
theorem dX4_move_75 : decode cX4_move 75 = .ok (.getfield 102, 3) := by decide +kernel
theorem dX4_move_78 : decode cX4_move 78 = .ok (.iconst 2, 1) := by decide +kernel
theorem dX4_move_79 : decode cX4_move 79 = .ok (.if_icmp .ne 24, 3) := by decide +kernel
theorem dX4_move_82 : decode cX4_move 82 = .ok (.aload 9, 2) := by decide +kernel
theorem dX4_move_84 : decode cX4_move 84 = .ok (.getfield 102, 3) := by decide +kernel
theorem dX4_move_87 : decode cX4_move 87 = .ok (.iconst 3, 1) := by decide +kernel
theorem dX4_move_88 : decode cX4_move 88 = .ok (.if_icmp .ne 15, 3) := by decide +kernel
theorem dX4_move_91 : decode cX4_move 91 = .ok (.aload_n 0, 1) := by decide +kernel
theorem dX4_move_92 : decode cX4_move 92 = .ok (.aload 8, 2) := by decide +kernel
theorem dX4_move_94 : decode cX4_move 94 = .ok (.iload_n 2, 1) := by decide +kernel
theorem dX4_move_95 : decode cX4_move 95 = .ok (.iload 5, 2) := by decide +kernel
theorem dX4_move_97 : decode cX4_move 97 = .ok (.invokevirtual 116, 3) := by decide +kernel
theorem dX4_move_100 : decode cX4_move 100 = .ok (.goto 5, 3) := by decide +kernel
theorem dX4_move_103 : decode cX4_move 103 = .ok (.iload 5, 2) := by decide +kernel
theorem dX4_move_105 : decode cX4_move 105 = .ok (.istore 11, 2) := by decide +kernel
theorem dX4_move_107 : decode cX4_move 107 = .ok (.aload 8, 2) := by decide +kernel
theorem dX4_move_109 : decode cX4_move 109 = .ok (.getfield 92, 3) := by decide +kernel
theorem dX4_move_112 : decode cX4_move 112 = .ok (.iload_n 2, 1) := by decide +kernel
theorem dX4_move_113 : decode cX4_move 113 = .ok (.aload 9, 2) := by decide +kernel
theorem dX4_move_115 : decode cX4_move 115 = .ok (.getfield 92, 3) := by decide +kernel
theorem dX4_move_118 : decode cX4_move 118 = .ok (.iload 4, 2) := by decide +kernel
theorem dX4_move_120 : decode cX4_move 120 = .ok (.iload 11, 2) := by decide +kernel
theorem dX4_move_122 : decode cX4_move 122 = .ok (.invokestatic 120, 3) := by decide +kernel
theorem dX4_move_125 : decode cX4_move 125 = .ok (.iload 11, 2) := by decide +kernel
theorem dX4_move_127 : decode cX4_move 127 = .ok (.iload 5, 2) := by decide +kernel
theorem dX4_move_129 : decode cX4_move 129 = .ok (.if_icmp .ge 9, 3) := by decide +kernel
theorem dX4_move_132 : decode cX4_move 132 = .ok (.aload_n 0, 1) := by decide +kernel
theorem dX4_move_133 : decode cX4_move 133 = .ok (.iconst 5, 1) := by decide +kernel
theorem dX4_move_134 : decode cX4_move 134 = .ok (.invokevirtual 72, 3) := by decide +kernel
theorem dX4_move_137 : decode cX4_move 137 = .ok (.ireturn, 1) := by decide +kernel
theorem dX4_move_138 : decode cX4_move 138 = .ok (.aload_n 0, 1) := by decide +kernel
theorem dX4_move_139 : decode cX4_move 139 = .ok (.iconst 0, 1) := by decide +kernel
theorem dX4_move_140 : decode cX4_move 140 = .ok (.invokevirtual 76, 3) := by decide +kernel
theorem dX4_move_143 : decode cX4_move 143 = .ok (.pop, 1) := by decide +kernel
theorem dX4_move_144 : decode cX4_move 144 = .ok (.iload 5, 2) := by decide +kernel
theorem dX4_move_146 : decode cX4_move 146 = .ok (.ireturn, 1) := by decide +kernel
set_option maxRecDepth 20000 in
theorem ggX4_run_X1_find : GoodIn wsX4_run wsX1_find := goodIn_r _ [9, 10, 11, 95, 96] (by decide +kernel) (by decide +kernel)
set_option maxRecDepth 20000 in
theorem gX4_run_X1_find : GoodIn wsX4_run (wsV RX4 51 RX1 yX1_find wsX1_find) := goodIn_app (goodIn_of _ (by decide +kernel)) ggX4_run_X1_find
set_option maxRecDepth 20000 in
theorem ggX4_run_X4_isLimit : GoodIn wsX4_run wsX4_isLimit := goodIn_r _ [15] (by decide +kernel) (by decide +kernel)
set_option maxRecDepth 20000 in
theorem gX4_run_X4_isLimit : GoodIn wsX4_run (va_wsS RX4 126 yX4_isLimit wsX4_isLimit) := goodIn_app (goodIn_of _ (by decide +kernel)) ggX4_run_X4_isLimit
set_option maxRecDepth 20000 in
theorem ggX4_run_X3_first : GoodIn wsX4_run wsX3_first := goodIn_r _ [20, 21, 22, 23, 24, 25, 19, 26, 27, 28, 29, 30, 31, 32, 33, 34, 35, 36, 37, 38, 39, 40, 41, 42, 43, 14, 44, 45, 46, 47, 48, 49, 50, 51, 52, 53, 54, 55, 56, 57, 6, 7, 8, 9, 10, 11, 58, 59, 60, 61, 62, 63, 64, 65, 66, 67, 68, 69, 70, 71, 72, 73, 74, 75, 89, 90, 91, 92, 93, 94, 97, 98, 95, 96, 99, 100, 101, 102] (by decide +kernel) (by decide +kernel)
set_option maxRecDepth 20000 in
theorem gX4_run_X3_first : GoodIn wsX4_run (wsV RX4 129 RX3 yX3_first wsX3_first) := goodIn_app (goodIn_of _ (by decide +kernel)) ggX4_run_X3_first
set_option maxRecDepth 20000 in
theorem ggX4_run_X4_tell : GoodIn wsX4_run wsX4_tell := goodIn_r _ [79, 80, 81, 3, 82, 83, 84, 85, 86, 87, 88, 89, 90, 91, 92, 93, 94] (by decide +kernel) (by decide +kernel)
set_option maxRecDepth 20000 in
theorem gX4_run_X4_tell : GoodIn wsX4_run (wsV RX4 76 RX4 yX4_tell wsX4_tell) := goodIn_app (goodIn_of _ (by decide +kernel)) ggX4_run_X4_tell
theorem dX4_run_0 : decode cX4_run 0 = .ok (.aload_n 0, 1) := by decide +kernel
theorem dX4_run_1 : decode cX4_run 1 = .ok (.getfield 10, 3) := by decide +kernel
theorem dX4_run_4 : decode cX4_run 4 = .ok (.iload_n 1, 1) := by decide +kernel
theorem dX4_run_5 : decode cX4_run 5 = .ok (.invokevirtual 51, 3) := by decide +kernel
theorem dX4_run_8 : decode cX4_run 8 = .ok (.astore_n 3, 1) := by decide +kernel
theorem dX4_run_9 : decode cX4_run 9 = .ok (.aload_n 3, 1) := by decide +kernel
theorem dX4_run_10 : decode cX4_run 10 = .ok (.ifnull 10, 3) := by decide +kernel
theorem dX4_run_13 : decode cX4_run 13 = .ok (.iload_n 2, 1) := by decide +kernel
theorem dX4_run_14 : decode cX4_run 14 = .ok (.invokestatic 126, 3) := by decide +kernel
theorem dX4_run_17 : decode cX4_run 17 = .ok (.ifCond .ne 6, 3) := by decide +kernel
theorem dX4_run_20 : decode cX4_run 20 = .ok (.ldc 33, 2) := by decide +kernel
theorem dX4_run_22 : decode cX4_run 22 = .ok (.ireturn, 1) := by decide +kernel
theorem dX4_run_23 : decode cX4_run 23 = .ok (.aload_n 0, 1) := by decide +kernel
theorem dX4_run_24 : decode cX4_run 24 = .ok (.getfield 21, 3) := by decide +kernel
theorem dX4_run_27 : decode cX4_run 27 = .ok (.aload_n 3, 1) := by decide +kernel
theorem dX4_run_28 : decode cX4_run 28 = .ok (.iload_n 2, 1) := by decide +kernel
theorem dX4_run_29 : decode cX4_run 29 = .ok (.invokevirtual 129, 3) := by decide +kernel
theorem dX4_run_32 : decode cX4_run 32 = .ok (.istore 4, 2) := by decide +kernel
theorem dX4_run_34 : decode cX4_run 34 = .ok (.aload_n 0, 1) := by decide +kernel
theorem dX4_run_35 : decode cX4_run 35 = .ok (.aload_n 0, 1) := by decide +kernel
theorem dX4_run_36 : decode cX4_run 36 = .ok (.getfield 21, 3) := by decide +kernel
theorem dX4_run_39 : decode cX4_run 39 = .ok (.getfield 133, 3) := by decide +kernel
theorem dX4_run_42 : decode cX4_run 42 = .ok (.invokevirtual 76, 3) := by decide +kernel
theorem dX4_run_45 : decode cX4_run 45 = .ok (.ifCond .ne 8, 3) := by decide +kernel
theorem dX4_run_48 : decode cX4_run 48 = .ok (.iload 4, 2) := by decide +kernel
theorem dX4_run_50 : decode cX4_run 50 = .ok (.goto 4, 3) := by decide +kernel
theorem dX4_run_53 : decode cX4_run 53 = .ok (.iconst 0, 1) := by decide +kernel
theorem dX4_run_54 : decode cX4_run 54 = .ok (.ireturn, 1) := by decide +kernel
set_option maxRecDepth 20000 in
theorem ggX4_either_X1_find : GoodIn wsX4_either wsX1_find := goodIn_r _ [9, 10, 11, 96, 97] (by decide +kernel) (by decide +kernel)
set_option maxRecDepth 20000 in
theorem gX4_either_X1_find : GoodIn wsX4_either (wsV RX4 51 RX1 yX1_find wsX1_find) := goodIn_app (goodIn_of _ (by decide +kernel)) ggX4_either_X1_find
set_option maxRecDepth 20000 in
theorem ggX4_either_X4_isLimit : GoodIn wsX4_either wsX4_isLimit := goodIn_r _ [15] (by decide +kernel) (by decide +kernel)
set_option maxRecDepth 20000 in
theorem gX4_either_X4_isLimit : GoodIn wsX4_either (va_wsS RX4 126 yX4_isLimit wsX4_isLimit) := goodIn_app (goodIn_of _ (by decide +kernel)) ggX4_either_X4_isLimit
set_option maxRecDepth 20000 in
theorem ggX4_either_X3_first : GoodIn wsX4_either wsX3_first := goodIn_r _ [20, 21, 22, 23, 24, 25, 19, 26, 27, 28, 29, 30, 31, 32, 33, 34, 35, 36, 37, 38, 39, 40, 41, 42, 43, 14, 44, 45, 46, 47, 48, 49, 50, 51, 52, 53, 54, 55, 56, 57, 6, 7, 8, 9, 10, 11, 58, 59, 60, 61, 62, 63, 64, 65, 66, 67, 68, 69, 70, 71, 72, 73, 74, 75, 90, 91, 92, 93, 94, 95, 98, 99, 96, 97, 100, 101, 102, 103] (by decide +kernel) (by decide +kernel)
set_option maxRecDepth 20000 in
theorem gX4_either_X3_first : GoodIn wsX4_either (wsV RX4 129 RX3 yX3_first wsX3_first) := goodIn_app (goodIn_of _ (by decide +kernel)) ggX4_either_X3_first
set_option maxRecDepth 20000 in
theorem ggX4_either_X3_next : GoodIn wsX4_either wsX3_next := goodIn_r _ [26, 27, 28, 29, 30, 31, 19, 32, 22, 21, 33, 34, 35, 36, 37, 38, 39, 40, 41, 42, 43, 14, 44, 45, 46, 47, 48, 49, 50, 51, 52, 53, 54, 55, 56, 57, 6, 7, 8, 9, 10, 11, 58, 59, 60, 61, 62, 63, 64, 65, 66, 67, 68, 69, 70, 71, 72, 73, 74, 75, 90, 91, 92, 93, 94, 95, 98, 99, 96, 97, 100, 101, 102, 103] (by decide +kernel) (by decide +kernel)
set_option maxRecDepth 20000 in
theorem gX4_either_X3_next : GoodIn wsX4_either (wsV RX4 134 RX3 yX3_next wsX3_next) := goodIn_app (goodIn_of _ (by decide +kernel)) ggX4_either_X3_next
set_option maxRecDepth 20000 in
theorem ggX4_either_X4_tell : GoodIn wsX4_either wsX4_tell := goodIn_r _ [80, 81, 82, 3, 83, 84, 85, 86, 87, 88, 89, 90, 91, 92, 93, 94, 95] (by decide +kernel) (by decide +kernel)
set_option maxRecDepth 20000 in
theorem gX4_either_X4_tell : GoodIn wsX4_either (wsV RX4 76 RX4 yX4_tell wsX4_tell) := goodIn_app (goodIn_of _ (by decide +kernel)) ggX4_either_X4_tell
theorem dX4_either_0 : decode cX4_either 0 = .ok (.aload_n 0, 1) := by decide +kernel
theorem dX4_either_1 : decode cX4_either 1 = .ok (.getfield 10, 3) := by decide +kernel
theorem dX4_either_4 : decode cX4_either 4 = .ok (.iload_n 1, 1) := by decide +kernel
theorem dX4_either_5 : decode cX4_either 5 = .ok (.invokevirtual 51, 3) := by decide +kernel
theorem dX4_either_8 : decode cX4_either 8 = .ok (.astore 4, 2) := by decide +kernel
theorem dX4_either_10 : decode cX4_either 10 = .ok (.aload_n 0, 1) := by decide +kernel
theorem dX4_either_11 : decode cX4_either 11 = .ok (.getfield 10, 3) := by decide +kernel
theorem dX4_either_14 : decode cX4_either 14 = .ok (.iload_n 2, 1) := by decide +kernel
theorem dX4_either_15 : decode cX4_either 15 = .ok (.invokevirtual 51, 3) := by decide +kernel
theorem dX4_either_18 : decode cX4_either 18 = .ok (.astore 5, 2) := by decide +kernel
theorem dX4_either_20 : decode cX4_either 20 = .ok (.aload 4, 2) := by decide +kernel
theorem dX4_either_22 : decode cX4_either 22 = .ok (.ifnull 15, 3) := by decide +kernel
theorem dX4_either_25 : decode cX4_either 25 = .ok (.aload 5, 2) := by decide +kernel
theorem dX4_either_27 : decode cX4_either 27 = .ok (.ifnull 10, 3) := by decide +kernel
theorem dX4_either_30 : decode cX4_either 30 = .ok (.iload_n 3, 1) := by decide +kernel
theorem dX4_either_31 : decode cX4_either 31 = .ok (.invokestatic 126, 3) := by decide +kernel
theorem dX4_either_34 : decode cX4_either 34 = .ok (.ifCond .ne 6, 3) := by decide +kernel
theorem dX4_either_37 : decode cX4_either 37 = .ok (.ldc 33, 2) := by decide +kernel
theorem dX4_either_39 : decode cX4_either 39 = .ok (.ireturn, 1) := by decide +kernel
theorem dX4_either_40 : decode cX4_either 40 = .ok (.aload_n 0, 1) := by decide +kernel
theorem dX4_either_41 : decode cX4_either 41 = .ok (.getfield 21, 3) := by decide +kernel
theorem dX4_either_44 : decode cX4_either 44 = .ok (.aload 4, 2) := by decide +kernel
theorem dX4_either_46 : decode cX4_either 46 = .ok (.iload_n 3, 1) := by decide +kernel
theorem dX4_either_47 : decode cX4_either 47 = .ok (.invokevirtual 129, 3) := by decide +kernel
theorem dX4_either_50 : decode cX4_either 50 = .ok (.istore 6, 2) := by decide +kernel
theorem dX4_either_52 : decode cX4_either 52 = .ok (.aload_n 0, 1) := by decide +kernel
theorem dX4_either_53 : decode cX4_either 53 = .ok (.getfield 21, 3) := by decide +kernel
theorem dX4_either_56 : decode cX4_either 56 = .ok (.getfield 133, 3) := by decide +kernel
theorem dX4_either_59 : decode cX4_either 59 = .ok (.iconst 1, 1) := by decide +kernel
theorem dX4_either_60 : decode cX4_either 60 = .ok (.if_icmp .lt 26, 3) := by decide +kernel
theorem dX4_either_63 : decode cX4_either 63 = .ok (.aload_n 0, 1) := by decide +kernel
theorem dX4_either_64 : decode cX4_either 64 = .ok (.getfield 21, 3) := by decide +kernel
theorem dX4_either_67 : decode cX4_either 67 = .ok (.getfield 133, 3) := by decide +kernel
theorem dX4_either_70 : decode cX4_either 70 = .ok (.bipush 7, 2) := by decide +kernel
theorem dX4_either_72 : decode cX4_either 72 = .ok (.if_icmp .gt 14, 3) := by decide +kernel
theorem dX4_either_75 : decode cX4_either 75 = .ok (.aload_n 0, 1) := by decide +kernel
theorem dX4_either_76 : decode cX4_either 76 = .ok (.getfield 21, 3) := by decide +kernel
theorem dX4_either_79 : decode cX4_either 79 = .ok (.aload 5, 2) := by decide +kernel
theorem dX4_either_81 : decode cX4_either 81 = .ok (.invokevirtual 134, 3) := by decide +kernel
theorem dX4_either_84 : decode cX4_either 84 = .ok (.istore 6, 2) := by decide +kernel
theorem dX4_either_86 : decode cX4_either 86 = .ok (.aload_n 0, 1) := by decide +kernel
theorem dX4_either_87 : decode cX4_either 87 = .ok (.aload_n 0, 1) := by decide +kernel
theorem dX4_either_88 : decode cX4_either 88 = .ok (.getfield 21, 3) := by decide +kernel
theorem dX4_either_91 : decode cX4_either 91 = .ok (.getfield 133, 3) := by decide +kernel
theorem dX4_either_94 : decode cX4_either 94 = .ok (.invokevirtual 76, 3) := by decide +kernel
theorem dX4_either_97 : decode cX4_either 97 = .ok (.ifCond .ne 8, 3) := by decide +kernel
theorem dX4_either_100 : decode cX4_either 100 = .ok (.iload 6, 2) := by decide +kernel
theorem dX4_either_102 : decode cX4_either 102 = .ok (.goto 4, 3) := by decide +kernel
theorem dX4_either_105 : decode cX4_either 105 = .ok (.iconst 0, 1) := by decide +kernel
theorem dX4_either_106 : decode cX4_either 106 = .ok (.ireturn, 1) := by decide +kernel
set_option maxRecDepth 20000 in
theorem ggX4_gather_X1_find : GoodIn wsX4_gather wsX1_find := goodIn_r _ [11, 12, 13, 105, 106] (by decide +kernel) (by decide +kernel)
set_option maxRecDepth 20000 in
theorem gX4_gather_X1_find : GoodIn wsX4_gather (wsV RX4 51 RX1 yX1_find wsX1_find) := goodIn_app (goodIn_of _ (by decide +kernel)) ggX4_gather_X1_find
set_option maxRecDepth 20000 in
theorem ggX4_gather_X4_isLimit : GoodIn wsX4_gather wsX4_isLimit := goodIn_r _ [17] (by decide +kernel) (by decide +kernel)
set_option maxRecDepth 20000 in
theorem gX4_gather_X4_isLimit : GoodIn wsX4_gather (va_wsS RX4 126 yX4_isLimit wsX4_isLimit) := goodIn_app (goodIn_of _ (by decide +kernel)) ggX4_gather_X4_isLimit
set_option maxRecDepth 20000 in
theorem ggX4_gather_X3_first : GoodIn wsX4_gather wsX3_first := goodIn_r _ [22, 23, 24, 25, 26, 27, 21, 28, 29, 30, 31, 32, 33, 34, 35, 36, 37, 38, 39, 40, 41, 42, 43, 44, 45, 16, 46, 47, 48, 49, 50, 51, 52, 53, 54, 55, 56, 57, 58, 59, 8, 9, 10, 11, 12, 13, 60, 61, 62, 63, 64, 65, 66, 67, 68, 69, 70, 71, 72, 73, 74, 75, 76, 77, 99, 100, 101, 102, 103, 104, 107, 108, 105, 106, 95, 96, 97, 98] (by decide +kernel) (by decide +kernel)
set_option maxRecDepth 20000 in
theorem gX4_gather_X3_first : GoodIn wsX4_gather (wsV RX4 129 RX3 yX3_first wsX3_first) := goodIn_app (goodIn_of _ (by decide +kernel)) ggX4_gather_X3_first
set_option maxRecDepth 20000 in
theorem ggX4_gather_X4_refuse : GoodIn wsX4_gather wsX4_refuse := goodIn_r _ [81, 82, 83, 84, 16, 85, 86, 87, 3, 88, 89, 90, 91, 92, 93, 94, 99, 100, 101, 102, 103, 104] (by decide +kernel) (by decide +kernel)
set_option maxRecDepth 20000 in
theorem gX4_gather_X4_refuse : GoodIn wsX4_gather (wsV RX4 72 RX4 yX4_refuse wsX4_refuse) := goodIn_app (goodIn_of _ (by decide +kernel)) ggX4_gather_X4_refuse
set_option maxRecDepth 20000 in
theorem ggX4_gather_X4_tell : GoodIn wsX4_gather wsX4_tell := goodIn_r _ [85, 86, 87, 3, 88, 89, 90, 91, 92, 93, 94, 99, 100, 101, 102, 103, 104] (by decide +kernel) (by decide +kernel)
set_option maxRecDepth 20000 in
theorem gX4_gather_X4_tell : GoodIn wsX4_gather (wsV RX4 76 RX4 yX4_tell wsX4_tell) := goodIn_app (goodIn_of _ (by decide +kernel)) ggX4_gather_X4_tell
theorem dX4_gather_0 : decode cX4_gather 0 = .ok (.aload_n 0, 1) := by decide +kernel
theorem dX4_gather_1 : decode cX4_gather 1 = .ok (.getfield 10, 3) := by decide +kernel
theorem dX4_gather_4 : decode cX4_gather 4 = .ok (.iload_n 1, 1) := by decide +kernel
theorem dX4_gather_5 : decode cX4_gather 5 = .ok (.invokevirtual 51, 3) := by decide +kernel
theorem dX4_gather_8 : decode cX4_gather 8 = .ok (.astore_n 3, 1) := by decide +kernel
theorem dX4_gather_9 : decode cX4_gather 9 = .ok (.aload_n 3, 1) := by decide +kernel
theorem dX4_gather_10 : decode cX4_gather 10 = .ok (.ifnull 10, 3) := by decide +kernel
theorem dX4_gather_13 : decode cX4_gather 13 = .ok (.iload_n 2, 1) := by decide +kernel
theorem dX4_gather_14 : decode cX4_gather 14 = .ok (.invokestatic 126, 3) := by decide +kernel
theorem dX4_gather_17 : decode cX4_gather 17 = .ok (.ifCond .ne 6, 3) := by decide +kernel
theorem dX4_gather_20 : decode cX4_gather 20 = .ok (.ldc 33, 2) := by decide +kernel
theorem dX4_gather_22 : decode cX4_gather 22 = .ok (.ireturn, 1) := by decide +kernel
theorem dX4_gather_23 : decode cX4_gather 23 = .ok (.aload_n 0, 1) := by decide +kernel
