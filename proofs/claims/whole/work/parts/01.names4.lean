theorem dX4_gather_24 : decode cX4_gather 24 = .ok (.getfield 21, 3) := by decide +kernel
theorem dX4_gather_27 : decode cX4_gather 27 = .ok (.aload_n 0, 1) := by decide +kernel
theorem dX4_gather_28 : decode cX4_gather 28 = .ok (.getfield 10, 3) := by decide +kernel
theorem dX4_gather_31 : decode cX4_gather 31 = .ok (.aload_n 3, 1) := by decide +kernel
theorem dX4_gather_32 : decode cX4_gather 32 = .ok (.getfield 69, 3) := by decide +kernel
theorem dX4_gather_35 : decode cX4_gather 35 = .ok (.invokevirtual 51, 3) := by decide +kernel
theorem dX4_gather_38 : decode cX4_gather 38 = .ok (.iload_n 2, 1) := by decide +kernel
theorem dX4_gather_39 : decode cX4_gather 39 = .ok (.invokevirtual 129, 3) := by decide +kernel
theorem dX4_gather_42 : decode cX4_gather 42 = .ok (.istore 4, 2) := by decide +kernel
theorem dX4_gather_44 : decode cX4_gather 44 = .ok (.aload_n 0, 1) := by decide +kernel
theorem dX4_gather_45 : decode cX4_gather 45 = .ok (.getfield 21, 3) := by decide +kernel
theorem dX4_gather_48 : decode cX4_gather 48 = .ok (.getfield 133, 3) := by decide +kernel
theorem dX4_gather_51 : decode cX4_gather 51 = .ok (.ifCond .eq 15, 3) := by decide +kernel
theorem dX4_gather_54 : decode cX4_gather 54 = .ok (.aload_n 0, 1) := by decide +kernel
theorem dX4_gather_55 : decode cX4_gather 55 = .ok (.aload_n 0, 1) := by decide +kernel
theorem dX4_gather_56 : decode cX4_gather 56 = .ok (.getfield 21, 3) := by decide +kernel
theorem dX4_gather_59 : decode cX4_gather 59 = .ok (.getfield 133, 3) := by decide +kernel
theorem dX4_gather_62 : decode cX4_gather 62 = .ok (.invokevirtual 72, 3) := by decide +kernel
theorem dX4_gather_65 : decode cX4_gather 65 = .ok (.ireturn, 1) := by decide +kernel
theorem dX4_gather_66 : decode cX4_gather 66 = .ok (.aload_n 0, 1) := by decide +kernel
theorem dX4_gather_67 : decode cX4_gather 67 = .ok (.iconst 0, 1) := by decide +kernel
theorem dX4_gather_68 : decode cX4_gather 68 = .ok (.invokevirtual 76, 3) := by decide +kernel
theorem dX4_gather_71 : decode cX4_gather 71 = .ok (.pop, 1) := by decide +kernel
theorem dX4_gather_72 : decode cX4_gather 72 = .ok (.aload_n 3, 1) := by decide +kernel
theorem dX4_gather_73 : decode cX4_gather 73 = .ok (.dup, 1) := by decide +kernel
theorem dX4_gather_74 : decode cX4_gather 74 = .ok (.getfield 63, 3) := by decide +kernel
theorem dX4_gather_77 : decode cX4_gather 77 = .ok (.iload 4, 2) := by decide +kernel
theorem dX4_gather_79 : decode cX4_gather 79 = .ok (.iadd, 1) := by decide +kernel
theorem dX4_gather_80 : decode cX4_gather 80 = .ok (.putfield 63, 3) := by decide +kernel
theorem dX4_gather_83 : decode cX4_gather 83 = .ok (.aload_n 3, 1) := by decide +kernel
theorem dX4_gather_84 : decode cX4_gather 84 = .ok (.getfield 63, 3) := by decide +kernel
theorem dX4_gather_87 : decode cX4_gather 87 = .ok (.ireturn, 1) := by decide +kernel
set_option maxRecDepth 20000 in
theorem ggX4_keep_X1_find : GoodIn wsX4_keep wsX1_find := goodIn_r _ [10, 11, 12, 109, 110] (by decide +kernel) (by decide +kernel)
set_option maxRecDepth 20000 in
theorem gX4_keep_X1_find : GoodIn wsX4_keep (wsV RX4 51 RX1 yX1_find wsX1_find) := goodIn_app (goodIn_of _ (by decide +kernel)) ggX4_keep_X1_find
set_option maxRecDepth 20000 in
theorem ggX4_keep_X4_isLimit : GoodIn wsX4_keep wsX4_isLimit := goodIn_r _ [16] (by decide +kernel) (by decide +kernel)
set_option maxRecDepth 20000 in
theorem gX4_keep_X4_isLimit : GoodIn wsX4_keep (va_wsS RX4 126 yX4_isLimit wsX4_isLimit) := goodIn_app (goodIn_of _ (by decide +kernel)) ggX4_keep_X4_isLimit
set_option maxRecDepth 20000 in
theorem ggX4_keep_X3_first : GoodIn wsX4_keep wsX3_first := goodIn_r _ [21, 22, 23, 24, 25, 26, 20, 27, 28, 29, 30, 31, 32, 33, 34, 35, 36, 37, 38, 39, 40, 41, 42, 43, 44, 15, 45, 46, 47, 48, 49, 50, 51, 52, 53, 54, 55, 56, 57, 58, 7, 8, 9, 10, 11, 12, 59, 60, 61, 62, 63, 64, 65, 66, 67, 68, 69, 70, 71, 72, 73, 74, 75, 76, 99, 100, 101, 102, 103, 104, 111, 112, 109, 110, 105, 106, 107, 108] (by decide +kernel) (by decide +kernel)
set_option maxRecDepth 20000 in
theorem gX4_keep_X3_first : GoodIn wsX4_keep (wsV RX4 129 RX3 yX3_first wsX3_first) := goodIn_app (goodIn_of _ (by decide +kernel)) ggX4_keep_X3_first
set_option maxRecDepth 20000 in
theorem ggX4_keep_X4_refuse : GoodIn wsX4_keep wsX4_refuse := goodIn_r _ [80, 81, 82, 83, 15, 84, 85, 86, 3, 87, 88, 94, 95, 96, 97, 98, 99, 100, 101, 102, 103, 104] (by decide +kernel) (by decide +kernel)
set_option maxRecDepth 20000 in
theorem gX4_keep_X4_refuse : GoodIn wsX4_keep (wsV RX4 72 RX4 yX4_refuse wsX4_refuse) := goodIn_app (goodIn_of _ (by decide +kernel)) ggX4_keep_X4_refuse
set_option maxRecDepth 20000 in
theorem ggX4_keep_X4_againstItem : GoodIn wsX4_keep wsX4_againstItem := goodIn_r _ [45, 46, 47, 48, 49, 50, 51, 52, 111, 112] (by decide +kernel) (by decide +kernel)
set_option maxRecDepth 20000 in
theorem gX4_keep_X4_againstItem : GoodIn wsX4_keep (va_wsS RX4 98 yX4_againstItem wsX4_againstItem) := goodIn_app (goodIn_of _ (by decide +kernel)) ggX4_keep_X4_againstItem
set_option maxRecDepth 20000 in
theorem ggX4_keep_X4_tell : GoodIn wsX4_keep wsX4_tell := goodIn_r _ [84, 85, 86, 3, 87, 88, 94, 95, 96, 97, 98, 99, 100, 101, 102, 103, 104] (by decide +kernel) (by decide +kernel)
set_option maxRecDepth 20000 in
theorem gX4_keep_X4_tell : GoodIn wsX4_keep (wsV RX4 76 RX4 yX4_tell wsX4_tell) := goodIn_app (goodIn_of _ (by decide +kernel)) ggX4_keep_X4_tell
set_option maxRecDepth 20000 in
theorem ggX4_keep_X0_put : GoodIn wsX4_keep wsX0_put := goodIn_r _ [93, 52, 111, 112] (by decide +kernel) (by decide +kernel)
set_option maxRecDepth 20000 in
theorem gX4_keep_X0_put : GoodIn wsX4_keep (wsV RX4 105 RX0 yX0_put wsX0_put) := goodIn_app (goodIn_of _ (by decide +kernel)) ggX4_keep_X0_put
theorem dX4_keep_0 : decode cX4_keep 0 = .ok (.aload_n 0, 1) := by decide +kernel
theorem dX4_keep_1 : decode cX4_keep 1 = .ok (.getfield 10, 3) := by decide +kernel
theorem dX4_keep_4 : decode cX4_keep 4 = .ok (.iload_n 1, 1) := by decide +kernel
theorem dX4_keep_5 : decode cX4_keep 5 = .ok (.invokevirtual 51, 3) := by decide +kernel
theorem dX4_keep_8 : decode cX4_keep 8 = .ok (.astore 5, 2) := by decide +kernel
theorem dX4_keep_10 : decode cX4_keep 10 = .ok (.aload_n 0, 1) := by decide +kernel
theorem dX4_keep_11 : decode cX4_keep 11 = .ok (.getfield 10, 3) := by decide +kernel
theorem dX4_keep_14 : decode cX4_keep 14 = .ok (.iload_n 2, 1) := by decide +kernel
theorem dX4_keep_15 : decode cX4_keep 15 = .ok (.invokevirtual 51, 3) := by decide +kernel
theorem dX4_keep_18 : decode cX4_keep 18 = .ok (.astore 6, 2) := by decide +kernel
theorem dX4_keep_20 : decode cX4_keep 20 = .ok (.aload 5, 2) := by decide +kernel
theorem dX4_keep_22 : decode cX4_keep 22 = .ok (.ifnull 16, 3) := by decide +kernel
theorem dX4_keep_25 : decode cX4_keep 25 = .ok (.aload 6, 2) := by decide +kernel
theorem dX4_keep_27 : decode cX4_keep 27 = .ok (.ifnull 11, 3) := by decide +kernel
theorem dX4_keep_30 : decode cX4_keep 30 = .ok (.iload 4, 2) := by decide +kernel
theorem dX4_keep_32 : decode cX4_keep 32 = .ok (.invokestatic 126, 3) := by decide +kernel
theorem dX4_keep_35 : decode cX4_keep 35 = .ok (.ifCond .ne 6, 3) := by decide +kernel
theorem dX4_keep_38 : decode cX4_keep 38 = .ok (.ldc 33, 2) := by decide +kernel
theorem dX4_keep_40 : decode cX4_keep 40 = .ok (.ireturn, 1) := by decide +kernel
theorem dX4_keep_41 : decode cX4_keep 41 = .ok (.aload_n 0, 1) := by decide +kernel
theorem dX4_keep_42 : decode cX4_keep 42 = .ok (.getfield 21, 3) := by decide +kernel
theorem dX4_keep_45 : decode cX4_keep 45 = .ok (.aload 5, 2) := by decide +kernel
theorem dX4_keep_47 : decode cX4_keep 47 = .ok (.iload 4, 2) := by decide +kernel
theorem dX4_keep_49 : decode cX4_keep 49 = .ok (.invokevirtual 129, 3) := by decide +kernel
theorem dX4_keep_52 : decode cX4_keep 52 = .ok (.istore 7, 2) := by decide +kernel
theorem dX4_keep_54 : decode cX4_keep 54 = .ok (.aload_n 0, 1) := by decide +kernel
theorem dX4_keep_55 : decode cX4_keep 55 = .ok (.getfield 21, 3) := by decide +kernel
theorem dX4_keep_58 : decode cX4_keep 58 = .ok (.getfield 133, 3) := by decide +kernel
theorem dX4_keep_61 : decode cX4_keep 61 = .ok (.ifCond .eq 15, 3) := by decide +kernel
theorem dX4_keep_64 : decode cX4_keep 64 = .ok (.aload_n 0, 1) := by decide +kernel
theorem dX4_keep_65 : decode cX4_keep 65 = .ok (.aload_n 0, 1) := by decide +kernel
theorem dX4_keep_66 : decode cX4_keep 66 = .ok (.getfield 21, 3) := by decide +kernel
theorem dX4_keep_69 : decode cX4_keep 69 = .ok (.getfield 133, 3) := by decide +kernel
theorem dX4_keep_72 : decode cX4_keep 72 = .ok (.invokevirtual 72, 3) := by decide +kernel
theorem dX4_keep_75 : decode cX4_keep 75 = .ok (.ireturn, 1) := by decide +kernel
theorem dX4_keep_76 : decode cX4_keep 76 = .ok (.aload 6, 2) := by decide +kernel
theorem dX4_keep_78 : decode cX4_keep 78 = .ok (.getfield 79, 3) := by decide +kernel
theorem dX4_keep_81 : decode cX4_keep 81 = .ok (.astore 8, 2) := by decide +kernel
theorem dX4_keep_83 : decode cX4_keep 83 = .ok (.aload 8, 2) := by decide +kernel
theorem dX4_keep_85 : decode cX4_keep 85 = .ok (.iconst 0, 1) := by decide +kernel
theorem dX4_keep_86 : decode cX4_keep 86 = .ok (.iconst 0, 1) := by decide +kernel
theorem dX4_keep_87 : decode cX4_keep 87 = .ok (.iload_n 3, 1) := by decide +kernel
theorem dX4_keep_88 : decode cX4_keep 88 = .ok (.invokestatic 98, 3) := by decide +kernel
theorem dX4_keep_91 : decode cX4_keep 91 = .ok (.istore 9, 2) := by decide +kernel
theorem dX4_keep_93 : decode cX4_keep 93 = .ok (.iload 9, 2) := by decide +kernel
theorem dX4_keep_95 : decode cX4_keep 95 = .ok (.ifCond .eq 10, 3) := by decide +kernel
theorem dX4_keep_98 : decode cX4_keep 98 = .ok (.aload_n 0, 1) := by decide +kernel
theorem dX4_keep_99 : decode cX4_keep 99 = .ok (.iload 9, 2) := by decide +kernel
theorem dX4_keep_101 : decode cX4_keep 101 = .ok (.invokevirtual 72, 3) := by decide +kernel
theorem dX4_keep_104 : decode cX4_keep 104 = .ok (.ireturn, 1) := by decide +kernel
theorem dX4_keep_105 : decode cX4_keep 105 = .ok (.aload_n 0, 1) := by decide +kernel
theorem dX4_keep_106 : decode cX4_keep 106 = .ok (.iconst 0, 1) := by decide +kernel
theorem dX4_keep_107 : decode cX4_keep 107 = .ok (.invokevirtual 76, 3) := by decide +kernel
theorem dX4_keep_110 : decode cX4_keep 110 = .ok (.pop, 1) := by decide +kernel
theorem dX4_keep_111 : decode cX4_keep 111 = .ok (.aload 8, 2) := by decide +kernel
theorem dX4_keep_113 : decode cX4_keep 113 = .ok (.iload_n 3, 1) := by decide +kernel
theorem dX4_keep_114 : decode cX4_keep 114 = .ok (.iload 7, 2) := by decide +kernel
theorem dX4_keep_116 : decode cX4_keep 116 = .ok (.i2l, 1) := by decide +kernel
theorem dX4_keep_117 : decode cX4_keep 117 = .ok (.invokevirtual 105, 3) := by decide +kernel
theorem dX4_keep_120 : decode cX4_keep 120 = .ok (.pop2, 1) := by decide +kernel
theorem dX4_keep_121 : decode cX4_keep 121 = .ok (.iload 7, 2) := by decide +kernel
theorem dX4_keep_123 : decode cX4_keep 123 = .ok (.ireturn, 1) := by decide +kernel
theorem dX4_things_0 : decode cX4_things 0 = .ok (.aload_n 0, 1) := by decide +kernel
theorem dX4_things_1 : decode cX4_things 1 = .ok (.getfield 10, 3) := by decide +kernel
theorem dX4_things_4 : decode cX4_things 4 = .ok (.getfield 138, 3) := by decide +kernel
theorem dX4_things_7 : decode cX4_things 7 = .ok (.ireturn, 1) := by decide +kernel
theorem dX4_tell_0 : decode cX4_tell 0 = .ok (.aload_n 0, 1) := by decide +kernel
theorem dX4_tell_1 : decode cX4_tell 1 = .ok (.iload_n 1, 1) := by decide +kernel
theorem dX4_tell_2 : decode cX4_tell 2 = .ok (.putfield 38, 3) := by decide +kernel
theorem dX4_tell_5 : decode cX4_tell 5 = .ok (.aload_n 0, 1) := by decide +kernel
theorem dX4_tell_6 : decode cX4_tell 6 = .ok (.getfield 25, 3) := by decide +kernel
theorem dX4_tell_9 : decode cX4_tell 9 = .ok (.iload_n 1, 1) := by decide +kernel
theorem dX4_tell_10 : decode cX4_tell 10 = .ok (.dup2, 1) := by decide +kernel
theorem dX4_tell_11 : decode cX4_tell 11 = .ok (.iaload, 1) := by decide +kernel
theorem dX4_tell_12 : decode cX4_tell 12 = .ok (.iconst 1, 1) := by decide +kernel
theorem dX4_tell_13 : decode cX4_tell 13 = .ok (.iadd, 1) := by decide +kernel
theorem dX4_tell_14 : decode cX4_tell 14 = .ok (.iastore, 1) := by decide +kernel
theorem dX4_tell_15 : decode cX4_tell 15 = .ok (.iload_n 1, 1) := by decide +kernel
theorem dX4_tell_16 : decode cX4_tell 16 = .ok (.bipush 7, 2) := by decide +kernel
theorem dX4_tell_18 : decode cX4_tell 18 = .ok (.if_icmp .ne 14, 3) := by decide +kernel
theorem dX4_tell_21 : decode cX4_tell 21 = .ok (.aload_n 0, 1) := by decide +kernel
theorem dX4_tell_22 : decode cX4_tell 22 = .ok (.aload_n 0, 1) := by decide +kernel
theorem dX4_tell_23 : decode cX4_tell 23 = .ok (.getfield 21, 3) := by decide +kernel
theorem dX4_tell_26 : decode cX4_tell 26 = .ok (.getfield 141, 3) := by decide +kernel
theorem dX4_tell_29 : decode cX4_tell 29 = .ok (.putfield 42, 3) := by decide +kernel
theorem dX4_tell_32 : decode cX4_tell 32 = .ok (.iload_n 1, 1) := by decide +kernel
theorem dX4_tell_33 : decode cX4_tell 33 = .ok (.ireturn, 1) := by decide +kernel
set_option maxRecDepth 20000 in
theorem ggX4_refuse_X4_tell : GoodIn wsX4_refuse wsX4_tell := goodIn_r _ [5, 6, 7, 8, 9, 10, 11, 12, 13, 14, 15, 16, 17, 18, 19, 20, 21] (by decide +kernel) (by decide +kernel)
set_option maxRecDepth 20000 in
theorem gX4_refuse_X4_tell : GoodIn wsX4_refuse (wsV RX4 76 RX4 yX4_tell wsX4_tell) := goodIn_app (goodIn_of _ (by decide +kernel)) ggX4_refuse_X4_tell
theorem dX4_refuse_0 : decode cX4_refuse 0 = .ok (.aload_n 0, 1) := by decide +kernel
theorem dX4_refuse_1 : decode cX4_refuse 1 = .ok (.iload_n 1, 1) := by decide +kernel
theorem dX4_refuse_2 : decode cX4_refuse 2 = .ok (.invokevirtual 76, 3) := by decide +kernel
theorem dX4_refuse_5 : decode cX4_refuse 5 = .ok (.pop, 1) := by decide +kernel
theorem dX4_refuse_6 : decode cX4_refuse 6 = .ok (.iconst 0, 1) := by decide +kernel
theorem dX4_refuse_7 : decode cX4_refuse 7 = .ok (.ireturn, 1) := by decide +kernel
theorem dX4_isClass_0 : decode cX4_isClass 0 = .ok (.iload_n 0, 1) := by decide +kernel
theorem dX4_isClass_1 : decode cX4_isClass 1 = .ok (.ifCond .lt 13, 3) := by decide +kernel
theorem dX4_isClass_4 : decode cX4_isClass 4 = .ok (.iload_n 0, 1) := by decide +kernel
theorem dX4_isClass_5 : decode cX4_isClass 5 = .ok (.bipush 7, 2) := by decide +kernel
theorem dX4_isClass_7 : decode cX4_isClass 7 = .ok (.if_icmp .gt 7, 3) := by decide +kernel
theorem dX4_isClass_10 : decode cX4_isClass 10 = .ok (.iconst 1, 1) := by decide +kernel
theorem dX4_isClass_11 : decode cX4_isClass 11 = .ok (.goto 4, 3) := by decide +kernel
theorem dX4_isClass_14 : decode cX4_isClass 14 = .ok (.iconst 0, 1) := by decide +kernel
theorem dX4_isClass_15 : decode cX4_isClass 15 = .ok (.ireturn, 1) := by decide +kernel
theorem dX4_isLimit_0 : decode cX4_isLimit 0 = .ok (.iload_n 0, 1) := by decide +kernel
theorem dX4_isLimit_1 : decode cX4_isLimit 1 = .ok (.iconst 1, 1) := by decide +kernel
theorem dX4_isLimit_2 : decode cX4_isLimit 2 = .ok (.if_icmp .lt 13, 3) := by decide +kernel
theorem dX4_isLimit_5 : decode cX4_isLimit 5 = .ok (.iload_n 0, 1) := by decide +kernel
theorem dX4_isLimit_6 : decode cX4_isLimit 6 = .ok (.bipush 100, 2) := by decide +kernel
theorem dX4_isLimit_8 : decode cX4_isLimit 8 = .ok (.if_icmp .gt 7, 3) := by decide +kernel
theorem dX4_isLimit_11 : decode cX4_isLimit 11 = .ok (.iconst 1, 1) := by decide +kernel
theorem dX4_isLimit_12 : decode cX4_isLimit 12 = .ok (.goto 4, 3) := by decide +kernel
theorem dX4_isLimit_15 : decode cX4_isLimit 15 = .ok (.iconst 0, 1) := by decide +kernel
theorem dX4_isLimit_16 : decode cX4_isLimit 16 = .ok (.ireturn, 1) := by decide +kernel
set_option maxRecDepth 20000 in
theorem ggX4_againstItem_X0_hasItems : GoodIn wsX4_againstItem wsX0_hasItems := goodIn_r _ [6, 7, 8, 9] (by decide +kernel) (by decide +kernel)
set_option maxRecDepth 20000 in
theorem gX4_againstItem_X0_hasItems : GoodIn wsX4_againstItem (wsV RX4 144 RX0 yX0_hasItems wsX0_hasItems) := goodIn_app (goodIn_of _ (by decide +kernel)) ggX4_againstItem_X0_hasItems
theorem dX4_againstItem_0 : decode cX4_againstItem 0 = .ok (.aload_n 0, 1) := by decide +kernel
theorem dX4_againstItem_1 : decode cX4_againstItem 1 = .ok (.ifnonnull 5, 3) := by decide +kernel
theorem dX4_againstItem_4 : decode cX4_againstItem 4 = .ok (.iconst 1, 1) := by decide +kernel
theorem dX4_againstItem_5 : decode cX4_againstItem 5 = .ok (.ireturn, 1) := by decide +kernel
theorem dX4_againstItem_6 : decode cX4_againstItem 6 = .ok (.aload_n 0, 1) := by decide +kernel
theorem dX4_againstItem_7 : decode cX4_againstItem 7 = .ok (.getfield 102, 3) := by decide +kernel
theorem dX4_againstItem_10 : decode cX4_againstItem 10 = .ok (.iload_n 1, 1) := by decide +kernel
theorem dX4_againstItem_11 : decode cX4_againstItem 11 = .ok (.if_icmp .lt 11, 3) := by decide +kernel
theorem dX4_againstItem_14 : decode cX4_againstItem 14 = .ok (.aload_n 0, 1) := by decide +kernel
theorem dX4_againstItem_15 : decode cX4_againstItem 15 = .ok (.getfield 102, 3) := by decide +kernel
theorem dX4_againstItem_18 : decode cX4_againstItem 18 = .ok (.iload_n 2, 1) := by decide +kernel
theorem dX4_againstItem_19 : decode cX4_againstItem 19 = .ok (.if_icmp .le 5, 3) := by decide +kernel
theorem dX4_againstItem_22 : decode cX4_againstItem 22 = .ok (.iconst 2, 1) := by decide +kernel
theorem dX4_againstItem_23 : decode cX4_againstItem 23 = .ok (.ireturn, 1) := by decide +kernel
theorem dX4_againstItem_24 : decode cX4_againstItem 24 = .ok (.aload_n 0, 1) := by decide +kernel
theorem dX4_againstItem_25 : decode cX4_againstItem 25 = .ok (.iload_n 3, 1) := by decide +kernel
theorem dX4_againstItem_26 : decode cX4_againstItem 26 = .ok (.iconst 1, 1) := by decide +kernel
theorem dX4_againstItem_27 : decode cX4_againstItem 27 = .ok (.invokevirtual 144, 3) := by decide +kernel
theorem dX4_againstItem_30 : decode cX4_againstItem 30 = .ok (.ifCond .eq 7, 3) := by decide +kernel
theorem dX4_againstItem_33 : decode cX4_againstItem 33 = .ok (.iconst 0, 1) := by decide +kernel
theorem dX4_againstItem_34 : decode cX4_againstItem 34 = .ok (.goto 4, 3) := by decide +kernel
theorem dX4_againstItem_37 : decode cX4_againstItem 37 = .ok (.iconst 3, 1) := by decide +kernel
theorem dX4_againstItem_38 : decode cX4_againstItem 38 = .ok (.ireturn, 1) := by decide +kernel
set_option maxRecDepth 20000 in
theorem ggX4_againstMove_X0_isOfThings : GoodIn wsX4_againstMove wsX0_isOfThings := goodIn_r _ [6, 7, 13, 14] (by decide +kernel) (by decide +kernel)
set_option maxRecDepth 20000 in
theorem gX4_againstMove_X0_isOfThings : GoodIn wsX4_againstMove (wsV RX4 148 RX0 yX0_isOfThings wsX0_isOfThings) := goodIn_app (goodIn_of _ (by decide +kernel)) ggX4_againstMove_X0_isOfThings
set_option maxRecDepth 20000 in
theorem ggX4_againstMove_X0_hasItems : GoodIn wsX4_againstMove wsX0_hasItems := goodIn_r _ [11, 12, 13, 14] (by decide +kernel) (by decide +kernel)
set_option maxRecDepth 20000 in
theorem gX4_againstMove_X0_hasItems : GoodIn wsX4_againstMove (wsV RX4 144 RX0 yX0_hasItems wsX0_hasItems) := goodIn_app (goodIn_of _ (by decide +kernel)) ggX4_againstMove_X0_hasItems
theorem dX4_againstMove_0 : decode cX4_againstMove 0 = .ok (.aload_n 0, 1) := by decide +kernel
theorem dX4_againstMove_1 : decode cX4_againstMove 1 = .ok (.ifnull 7, 3) := by decide +kernel
theorem dX4_againstMove_4 : decode cX4_againstMove 4 = .ok (.aload_n 2, 1) := by decide +kernel
theorem dX4_againstMove_5 : decode cX4_againstMove 5 = .ok (.ifnonnull 5, 3) := by decide +kernel
theorem dX4_againstMove_8 : decode cX4_againstMove 8 = .ok (.iconst 1, 1) := by decide +kernel
theorem dX4_againstMove_9 : decode cX4_againstMove 9 = .ok (.ireturn, 1) := by decide +kernel
theorem dX4_againstMove_10 : decode cX4_againstMove 10 = .ok (.aload_n 0, 1) := by decide +kernel
theorem dX4_againstMove_11 : decode cX4_againstMove 11 = .ok (.getfield 102, 3) := by decide +kernel
theorem dX4_againstMove_14 : decode cX4_againstMove 14 = .ok (.aload_n 2, 1) := by decide +kernel
theorem dX4_againstMove_15 : decode cX4_againstMove 15 = .ok (.getfield 102, 3) := by decide +kernel
theorem dX4_againstMove_18 : decode cX4_againstMove 18 = .ok (.if_icmp .eq 19, 3) := by decide +kernel
theorem dX4_againstMove_21 : decode cX4_againstMove 21 = .ok (.aload_n 0, 1) := by decide +kernel
theorem dX4_againstMove_22 : decode cX4_againstMove 22 = .ok (.invokevirtual 148, 3) := by decide +kernel
theorem dX4_againstMove_25 : decode cX4_againstMove 25 = .ok (.ifCond .eq 10, 3) := by decide +kernel
theorem dX4_againstMove_28 : decode cX4_againstMove 28 = .ok (.aload_n 2, 1) := by decide +kernel
theorem dX4_againstMove_29 : decode cX4_againstMove 29 = .ok (.invokevirtual 148, 3) := by decide +kernel
theorem dX4_againstMove_32 : decode cX4_againstMove 32 = .ok (.ifCond .ne 5, 3) := by decide +kernel
theorem dX4_againstMove_35 : decode cX4_againstMove 35 = .ok (.iconst 5, 1) := by decide +kernel
theorem dX4_againstMove_36 : decode cX4_againstMove 36 = .ok (.ireturn, 1) := by decide +kernel
theorem dX4_againstMove_37 : decode cX4_againstMove 37 = .ok (.aload_n 0, 1) := by decide +kernel
theorem dX4_againstMove_38 : decode cX4_againstMove 38 = .ok (.iload_n 1, 1) := by decide +kernel
theorem dX4_againstMove_39 : decode cX4_againstMove 39 = .ok (.iload 4, 2) := by decide +kernel
theorem dX4_againstMove_41 : decode cX4_againstMove 41 = .ok (.invokevirtual 144, 3) := by decide +kernel
theorem dX4_againstMove_44 : decode cX4_againstMove 44 = .ok (.ifCond .eq 17, 3) := by decide +kernel
theorem dX4_againstMove_47 : decode cX4_againstMove 47 = .ok (.aload_n 2, 1) := by decide +kernel
theorem dX4_againstMove_48 : decode cX4_againstMove 48 = .ok (.iload_n 3, 1) := by decide +kernel
theorem dX4_againstMove_49 : decode cX4_againstMove 49 = .ok (.iload 4, 2) := by decide +kernel
theorem dX4_againstMove_51 : decode cX4_againstMove 51 = .ok (.invokevirtual 144, 3) := by decide +kernel
theorem dX4_againstMove_54 : decode cX4_againstMove 54 = .ok (.ifCond .eq 7, 3) := by decide +kernel
theorem dX4_againstMove_57 : decode cX4_againstMove 57 = .ok (.iconst 0, 1) := by decide +kernel
theorem dX4_againstMove_58 : decode cX4_againstMove 58 = .ok (.goto 4, 3) := by decide +kernel
theorem dX4_againstMove_61 : decode cX4_againstMove 61 = .ok (.iconst 3, 1) := by decide +kernel
theorem dX4_againstMove_62 : decode cX4_againstMove 62 = .ok (.ireturn, 1) := by decide +kernel
set_option maxRecDepth 20000 in
theorem ggX4_leavesAhead_X1_isLeafOrNone : GoodIn wsX4_leavesAhead wsX1_isLeafOrNone := goodIn_r _ [7, 8, 9, 10, 6, 11, 12, 13, 14, 15, 16, 17, 18, 19, 27, 28, 29, 30, 31, 32] (by decide +kernel) (by decide +kernel)
set_option maxRecDepth 20000 in
theorem gX4_leavesAhead_X1_isLeafOrNone : GoodIn wsX4_leavesAhead (wsV RX4 109 RX1 yX1_isLeafOrNone wsX1_isLeafOrNone) := goodIn_app (goodIn_of _ (by decide +kernel)) ggX4_leavesAhead_X1_isLeafOrNone
theorem dX4_leavesAhead_0 : decode cX4_leavesAhead 0 = .ok (.iconst 0, 1) := by decide +kernel
theorem dX4_leavesAhead_1 : decode cX4_leavesAhead 1 = .ok (.istore 4, 2) := by decide +kernel
theorem dX4_leavesAhead_3 : decode cX4_leavesAhead 3 = .ok (.iload 4, 2) := by decide +kernel
theorem dX4_leavesAhead_5 : decode cX4_leavesAhead 5 = .ok (.iload_n 3, 1) := by decide +kernel
theorem dX4_leavesAhead_6 : decode cX4_leavesAhead 6 = .ok (.if_icmp .ge 29, 3) := by decide +kernel
theorem dX4_leavesAhead_9 : decode cX4_leavesAhead 9 = .ok (.aload_n 0, 1) := by decide +kernel
theorem dX4_leavesAhead_10 : decode cX4_leavesAhead 10 = .ok (.getfield 10, 3) := by decide +kernel
theorem dX4_leavesAhead_13 : decode cX4_leavesAhead 13 = .ok (.aload_n 1, 1) := by decide +kernel
theorem dX4_leavesAhead_14 : decode cX4_leavesAhead 14 = .ok (.getfield 92, 3) := by decide +kernel
theorem dX4_leavesAhead_17 : decode cX4_leavesAhead 17 = .ok (.iload_n 2, 1) := by decide +kernel
theorem dX4_leavesAhead_18 : decode cX4_leavesAhead 18 = .ok (.iload 4, 2) := by decide +kernel
theorem dX4_leavesAhead_20 : decode cX4_leavesAhead 20 = .ok (.iadd, 1) := by decide +kernel
theorem dX4_leavesAhead_21 : decode cX4_leavesAhead 21 = .ok (.laload, 1) := by decide +kernel
theorem dX4_leavesAhead_22 : decode cX4_leavesAhead 22 = .ok (.l2i, 1) := by decide +kernel
theorem dX4_leavesAhead_23 : decode cX4_leavesAhead 23 = .ok (.invokevirtual 109, 3) := by decide +kernel
theorem dX4_leavesAhead_26 : decode cX4_leavesAhead 26 = .ok (.ifCond .eq 9, 3) := by decide +kernel
theorem dX4_leavesAhead_29 : decode cX4_leavesAhead 29 = .ok (.iinc 4 1, 3) := by decide +kernel
theorem dX4_leavesAhead_32 : decode cX4_leavesAhead 32 = .ok (.goto (-29), 3) := by decide +kernel
theorem dX4_leavesAhead_35 : decode cX4_leavesAhead 35 = .ok (.iload 4, 2) := by decide +kernel
theorem dX4_leavesAhead_37 : decode cX4_leavesAhead 37 = .ok (.ireturn, 1) := by decide +kernel
theorem dX5_init_0 : decode cX5_init 0 = .ok (.aload_n 0, 1) := by decide +kernel
theorem dX5_init_1 : decode cX5_init 1 = .ok (.invokespecial 1, 3) := by decide +kernel
theorem dX5_init_4 : decode cX5_init 4 = .ok (.aload_n 0, 1) := by decide +kernel
theorem dX5_init_5 : decode cX5_init 5 = .ok (.bipush 40, 2) := by decide +kernel
theorem dX5_init_7 : decode cX5_init 7 = .ok (.newarray .int, 2) := by decide +kernel
theorem dX5_init_9 : decode cX5_init 9 = .ok (.putfield 7, 3) := by decide +kernel
theorem dX5_init_12 : decode cX5_init 12 = .ok (.aload_n 0, 1) := by decide +kernel
theorem dX5_init_13 : decode cX5_init 13 = .ok (.bipush 40, 2) := by decide +kernel
theorem dX5_init_15 : decode cX5_init 15 = .ok (.newarray .int, 2) := by decide +kernel
theorem dX5_init_17 : decode cX5_init 17 = .ok (.putfield 13, 3) := by decide +kernel
theorem dX5_init_20 : decode cX5_init 20 = .ok (.aload_n 0, 1) := by decide +kernel
theorem dX5_init_21 : decode cX5_init 21 = .ok (.bipush 40, 2) := by decide +kernel
theorem dX5_init_23 : decode cX5_init 23 = .ok (.newarray .int, 2) := by decide +kernel
theorem dX5_init_25 : decode cX5_init 25 = .ok (.putfield 16, 3) := by decide +kernel
theorem dX5_init_28 : decode cX5_init 28 = .ok (.aload_n 0, 1) := by decide +kernel
theorem dX5_init_29 : decode cX5_init 29 = .ok (.bipush 40, 2) := by decide +kernel
theorem dX5_init_31 : decode cX5_init 31 = .ok (.newarray .int, 2) := by decide +kernel
theorem dX5_init_33 : decode cX5_init 33 = .ok (.putfield 19, 3) := by decide +kernel
theorem dX5_init_36 : decode cX5_init 36 = .ok (.aload_n 0, 1) := by decide +kernel
theorem dX5_init_37 : decode cX5_init 37 = .ok (.sipush 520, 3) := by decide +kernel
theorem dX5_init_40 : decode cX5_init 40 = .ok (.newarray .int, 2) := by decide +kernel
theorem dX5_init_42 : decode cX5_init 42 = .ok (.putfield 22, 3) := by decide +kernel
theorem dX5_init_45 : decode cX5_init 45 = .ok (.aload_n 0, 1) := by decide +kernel
theorem dX5_init_46 : decode cX5_init 46 = .ok (.sipush 520, 3) := by decide +kernel
theorem dX5_init_49 : decode cX5_init 49 = .ok (.newarray .int, 2) := by decide +kernel
theorem dX5_init_51 : decode cX5_init 51 = .ok (.putfield 25, 3) := by decide +kernel
theorem dX5_init_54 : decode cX5_init 54 = .ok (.aload_n 0, 1) := by decide +kernel
theorem dX5_init_55 : decode cX5_init 55 = .ok (.sipush 6240, 3) := by decide +kernel
theorem dX5_init_58 : decode cX5_init 58 = .ok (.newarray .long, 2) := by decide +kernel
theorem dX5_init_60 : decode cX5_init 60 = .ok (.putfield 28, 3) := by decide +kernel
theorem dX5_init_63 : decode cX5_init 63 = .ok (.aload_n 0, 1) := by decide +kernel
theorem dX5_init_64 : decode cX5_init 64 = .ok (.bipush 10, 2) := by decide +kernel
theorem dX5_init_66 : decode cX5_init 66 = .ok (.newarray .int, 2) := by decide +kernel
theorem dX5_init_68 : decode cX5_init 68 = .ok (.putfield 32, 3) := by decide +kernel
theorem dX5_init_71 : decode cX5_init 71 = .ok (.return_, 1) := by decide +kernel
theorem dX5_in_0 : decode cX5_in 0 = .ok (.lload_n 0, 1) := by decide +kernel
theorem dX5_in_1 : decode cX5_in 1 = .ok (.lload_n 2, 1) := by decide +kernel
theorem dX5_in_2 : decode cX5_in 2 = .ok (.lcmp, 1) := by decide +kernel
theorem dX5_in_3 : decode cX5_in 3 = .ok (.ifCond .lt 14, 3) := by decide +kernel
theorem dX5_in_6 : decode cX5_in 6 = .ok (.lload_n 0, 1) := by decide +kernel
theorem dX5_in_7 : decode cX5_in 7 = .ok (.lload 4, 2) := by decide +kernel
theorem dX5_in_9 : decode cX5_in 9 = .ok (.lcmp, 1) := by decide +kernel
theorem dX5_in_10 : decode cX5_in 10 = .ok (.ifCond .gt 7, 3) := by decide +kernel
theorem dX5_in_13 : decode cX5_in 13 = .ok (.iconst 1, 1) := by decide +kernel
theorem dX5_in_14 : decode cX5_in 14 = .ok (.goto 4, 3) := by decide +kernel
theorem dX5_in_17 : decode cX5_in 17 = .ok (.iconst 0, 1) := by decide +kernel
theorem dX5_in_18 : decode cX5_in 18 = .ok (.ireturn, 1) := by decide +kernel
set_option maxRecDepth 20000 in
theorem ggX5_isThing_X5_in : GoodIn wsX5_isThing wsX5_in := goodIn_r _ [5] (by decide +kernel) (by decide +kernel)
set_option maxRecDepth 20000 in
theorem gX5_isThing_X5_in : GoodIn wsX5_isThing (va_wsS RX5 39 yX5_in wsX5_in) := goodIn_app (goodIn_of _ (by decide +kernel)) ggX5_isThing_X5_in
theorem dX5_isThing_0 : decode cX5_isThing 0 = .ok (.iload_n 1, 1) := by decide +kernel
theorem dX5_isThing_1 : decode cX5_isThing 1 = .ok (.i2l, 1) := by decide +kernel
theorem dX5_isThing_2 : decode cX5_isThing 2 = .ok (.lconst 0, 1) := by decide +kernel
theorem dX5_isThing_3 : decode cX5_isThing 3 = .ok (.aload_n 0, 1) := by decide +kernel
theorem dX5_isThing_4 : decode cX5_isThing 4 = .ok (.getfield 35, 3) := by decide +kernel
theorem dX5_isThing_7 : decode cX5_isThing 7 = .ok (.iconst 1, 1) := by decide +kernel
theorem dX5_isThing_8 : decode cX5_isThing 8 = .ok (.isub, 1) := by decide +kernel
theorem dX5_isThing_9 : decode cX5_isThing 9 = .ok (.i2l, 1) := by decide +kernel
theorem dX5_isThing_10 : decode cX5_isThing 10 = .ok (.invokestatic 39, 3) := by decide +kernel
theorem dX5_isThing_13 : decode cX5_isThing 13 = .ok (.ireturn, 1) := by decide +kernel
theorem dX5_isLeaf_0 : decode cX5_isLeaf 0 = .ok (.aload_n 0, 1) := by decide +kernel
theorem dX5_isLeaf_1 : decode cX5_isLeaf 1 = .ok (.getfield 7, 3) := by decide +kernel
theorem dX5_isLeaf_4 : decode cX5_isLeaf 4 = .ok (.iload_n 1, 1) := by decide +kernel
theorem dX5_isLeaf_5 : decode cX5_isLeaf 5 = .ok (.iaload, 1) := by decide +kernel
theorem dX5_isLeaf_6 : decode cX5_isLeaf 6 = .ok (.iconst 2, 1) := by decide +kernel
theorem dX5_isLeaf_7 : decode cX5_isLeaf 7 = .ok (.if_icmp .gt 7, 3) := by decide +kernel
theorem dX5_isLeaf_10 : decode cX5_isLeaf 10 = .ok (.iconst 1, 1) := by decide +kernel
theorem dX5_isLeaf_11 : decode cX5_isLeaf 11 = .ok (.goto 4, 3) := by decide +kernel
theorem dX5_isLeaf_14 : decode cX5_isLeaf 14 = .ok (.iconst 0, 1) := by decide +kernel
theorem dX5_isLeaf_15 : decode cX5_isLeaf 15 = .ok (.ireturn, 1) := by decide +kernel
theorem dX5_tell_0 : decode cX5_tell 0 = .ok (.aload_n 0, 1) := by decide +kernel
theorem dX5_tell_1 : decode cX5_tell 1 = .ok (.iload_n 1, 1) := by decide +kernel
theorem dX5_tell_2 : decode cX5_tell 2 = .ok (.putfield 43, 3) := by decide +kernel
theorem dX5_tell_5 : decode cX5_tell 5 = .ok (.aload_n 0, 1) := by decide +kernel
theorem dX5_tell_6 : decode cX5_tell 6 = .ok (.getfield 32, 3) := by decide +kernel
theorem dX5_tell_9 : decode cX5_tell 9 = .ok (.iload_n 1, 1) := by decide +kernel
theorem dX5_tell_10 : decode cX5_tell 10 = .ok (.dup2, 1) := by decide +kernel
theorem dX5_tell_11 : decode cX5_tell 11 = .ok (.iaload, 1) := by decide +kernel
theorem dX5_tell_12 : decode cX5_tell 12 = .ok (.iconst 1, 1) := by decide +kernel
theorem dX5_tell_13 : decode cX5_tell 13 = .ok (.iadd, 1) := by decide +kernel
theorem dX5_tell_14 : decode cX5_tell 14 = .ok (.iastore, 1) := by decide +kernel
theorem dX5_tell_15 : decode cX5_tell 15 = .ok (.iload_n 1, 1) := by decide +kernel
theorem dX5_tell_16 : decode cX5_tell 16 = .ok (.ireturn, 1) := by decide +kernel
set_option maxRecDepth 20000 in
theorem ggX5_thing_X5_in : GoodIn wsX5_thing wsX5_in := goodIn_r _ [11] (by decide +kernel) (by decide +kernel)
set_option maxRecDepth 20000 in
theorem gX5_thing_X5_in : GoodIn wsX5_thing (va_wsS RX5 39 yX5_in wsX5_in) := goodIn_app (goodIn_of _ (by decide +kernel)) ggX5_thing_X5_in
theorem dX5_thing_0 : decode cX5_thing 0 = .ok (.iload_n 1, 1) := by decide +kernel
theorem dX5_thing_1 : decode cX5_thing 1 = .ok (.i2l, 1) := by decide +kernel
theorem dX5_thing_2 : decode cX5_thing 2 = .ok (.lconst 0, 1) := by decide +kernel
theorem dX5_thing_3 : decode cX5_thing 3 = .ok (.ldc2_w 46, 3) := by decide +kernel
theorem dX5_thing_6 : decode cX5_thing 6 = .ok (.invokestatic 39, 3) := by decide +kernel
theorem dX5_thing_9 : decode cX5_thing 9 = .ok (.ifCond .ne 6, 3) := by decide +kernel
theorem dX5_thing_12 : decode cX5_thing 12 = .ok (.ldc 48, 2) := by decide +kernel
theorem dX5_thing_14 : decode cX5_thing 14 = .ok (.ireturn, 1) := by decide +kernel
theorem dX5_thing_15 : decode cX5_thing 15 = .ok (.aload_n 0, 1) := by decide +kernel
theorem dX5_thing_16 : decode cX5_thing 16 = .ok (.getfield 35, 3) := by decide +kernel
theorem dX5_thing_19 : decode cX5_thing 19 = .ok (.bipush 40, 2) := by decide +kernel
theorem dX5_thing_21 : decode cX5_thing 21 = .ok (.if_icmp .ne 6, 3) := by decide +kernel
theorem dX5_thing_24 : decode cX5_thing 24 = .ok (.bipush (-2), 2) := by decide +kernel
theorem dX5_thing_26 : decode cX5_thing 26 = .ok (.ireturn, 1) := by decide +kernel
theorem dX5_thing_27 : decode cX5_thing 27 = .ok (.aload_n 0, 1) := by decide +kernel
theorem dX5_thing_28 : decode cX5_thing 28 = .ok (.getfield 7, 3) := by decide +kernel
theorem dX5_thing_31 : decode cX5_thing 31 = .ok (.aload_n 0, 1) := by decide +kernel
theorem dX5_thing_32 : decode cX5_thing 32 = .ok (.getfield 35, 3) := by decide +kernel
theorem dX5_thing_35 : decode cX5_thing 35 = .ok (.iload_n 1, 1) := by decide +kernel
theorem dX5_thing_36 : decode cX5_thing 36 = .ok (.iastore, 1) := by decide +kernel
theorem dX5_thing_37 : decode cX5_thing 37 = .ok (.aload_n 0, 1) := by decide +kernel
theorem dX5_thing_38 : decode cX5_thing 38 = .ok (.getfield 13, 3) := by decide +kernel
theorem dX5_thing_41 : decode cX5_thing 41 = .ok (.aload_n 0, 1) := by decide +kernel
theorem dX5_thing_42 : decode cX5_thing 42 = .ok (.getfield 35, 3) := by decide +kernel
theorem dX5_thing_45 : decode cX5_thing 45 = .ok (.iload_n 2, 1) := by decide +kernel
theorem dX5_thing_46 : decode cX5_thing 46 = .ok (.iastore, 1) := by decide +kernel
theorem dX5_thing_47 : decode cX5_thing 47 = .ok (.aload_n 0, 1) := by decide +kernel
theorem dX5_thing_48 : decode cX5_thing 48 = .ok (.getfield 16, 3) := by decide +kernel
theorem dX5_thing_51 : decode cX5_thing 51 = .ok (.aload_n 0, 1) := by decide +kernel
theorem dX5_thing_52 : decode cX5_thing 52 = .ok (.getfield 35, 3) := by decide +kernel
theorem dX5_thing_55 : decode cX5_thing 55 = .ok (.iconst (-1), 1) := by decide +kernel
theorem dX5_thing_56 : decode cX5_thing 56 = .ok (.iastore, 1) := by decide +kernel
theorem dX5_thing_57 : decode cX5_thing 57 = .ok (.aload_n 0, 1) := by decide +kernel
theorem dX5_thing_58 : decode cX5_thing 58 = .ok (.getfield 19, 3) := by decide +kernel
theorem dX5_thing_61 : decode cX5_thing 61 = .ok (.aload_n 0, 1) := by decide +kernel
theorem dX5_thing_62 : decode cX5_thing 62 = .ok (.getfield 35, 3) := by decide +kernel
theorem dX5_thing_65 : decode cX5_thing 65 = .ok (.iconst (-1), 1) := by decide +kernel
theorem dX5_thing_66 : decode cX5_thing 66 = .ok (.iastore, 1) := by decide +kernel
theorem dX5_thing_67 : decode cX5_thing 67 = .ok (.aload_n 0, 1) := by decide +kernel
theorem dX5_thing_68 : decode cX5_thing 68 = .ok (.dup, 1) := by decide +kernel
theorem dX5_thing_69 : decode cX5_thing 69 = .ok (.getfield 35, 3) := by decide +kernel
theorem dX5_thing_72 : decode cX5_thing 72 = .ok (.iconst 1, 1) := by decide +kernel
theorem dX5_thing_73 : decode cX5_thing 73 = .ok (.iadd, 1) := by decide +kernel
theorem dX5_thing_74 : decode cX5_thing 74 = .ok (.putfield 35, 3) := by decide +kernel
theorem dX5_thing_77 : decode cX5_thing 77 = .ok (.aload_n 0, 1) := by decide +kernel
theorem dX5_thing_78 : decode cX5_thing 78 = .ok (.getfield 35, 3) := by decide +kernel
theorem dX5_thing_81 : decode cX5_thing 81 = .ok (.iconst 1, 1) := by decide +kernel
theorem dX5_thing_82 : decode cX5_thing 82 = .ok (.isub, 1) := by decide +kernel
theorem dX5_thing_83 : decode cX5_thing 83 = .ok (.ireturn, 1) := by decide +kernel
theorem dX5_outcome_0 : decode cX5_outcome 0 = .ok (.aload_n 0, 1) := by decide +kernel
theorem dX5_outcome_1 : decode cX5_outcome 1 = .ok (.getfield 43, 3) := by decide +kernel
theorem dX5_outcome_4 : decode cX5_outcome 4 = .ok (.ireturn, 1) := by decide +kernel
theorem dX5_own_0 : decode cX5_own 0 = .ok (.aload_n 0, 1) := by decide +kernel
theorem dX5_own_1 : decode cX5_own 1 = .ok (.getfield 49, 3) := by decide +kernel
theorem dX5_own_4 : decode cX5_own 4 = .ok (.ireturn, 1) := by decide +kernel
theorem dX5_begun_0 : decode cX5_begun 0 = .ok (.aload_n 0, 1) := by decide +kernel
theorem dX5_begun_1 : decode cX5_begun 1 = .ok (.getfield 52, 3) := by decide +kernel
theorem dX5_begun_4 : decode cX5_begun 4 = .ok (.ireturn, 1) := by decide +kernel
theorem dX5_deep_0 : decode cX5_deep 0 = .ok (.aload_n 0, 1) := by decide +kernel
theorem dX5_deep_1 : decode cX5_deep 1 = .ok (.getfield 55, 3) := by decide +kernel
theorem dX5_deep_4 : decode cX5_deep 4 = .ok (.ireturn, 1) := by decide +kernel
set_option maxRecDepth 20000 in
theorem ggX5_told_X5_in : GoodIn wsX5_told wsX5_in := goodIn_r _ [7] (by decide +kernel) (by decide +kernel)
set_option maxRecDepth 20000 in
theorem gX5_told_X5_in : GoodIn wsX5_told (va_wsS RX5 39 yX5_in wsX5_in) := goodIn_app (goodIn_of _ (by decide +kernel)) ggX5_told_X5_in
theorem dX5_told_0 : decode cX5_told 0 = .ok (.iload_n 1, 1) := by decide +kernel
theorem dX5_told_1 : decode cX5_told 1 = .ok (.i2l, 1) := by decide +kernel
theorem dX5_told_2 : decode cX5_told 2 = .ok (.lconst 0, 1) := by decide +kernel
theorem dX5_told_3 : decode cX5_told 3 = .ok (.ldc2_w 58, 3) := by decide +kernel
theorem dX5_told_6 : decode cX5_told 6 = .ok (.invokestatic 39, 3) := by decide +kernel
theorem dX5_told_9 : decode cX5_told 9 = .ok (.ifCond .eq 12, 3) := by decide +kernel
theorem dX5_told_12 : decode cX5_told 12 = .ok (.aload_n 0, 1) := by decide +kernel
theorem dX5_told_13 : decode cX5_told 13 = .ok (.getfield 32, 3) := by decide +kernel
theorem dX5_told_16 : decode cX5_told 16 = .ok (.iload_n 1, 1) := by decide +kernel
theorem dX5_told_17 : decode cX5_told 17 = .ok (.iaload, 1) := by decide +kernel
theorem dX5_told_18 : decode cX5_told 18 = .ok (.goto 5, 3) := by decide +kernel
theorem dX5_told_21 : decode cX5_told 21 = .ok (.ldc 48, 2) := by decide +kernel
theorem dX5_told_23 : decode cX5_told 23 = .ok (.ireturn, 1) := by decide +kernel
set_option maxRecDepth 20000 in
theorem ggX5_cls_X5_isThing : GoodIn wsX5_cls wsX5_isThing := goodIn_r _ [7, 8, 9, 10, 6, 11, 12, 13, 14, 15, 16, 17, 18, 19, 20, 21, 22, 23, 24, 25, 26, 27, 28] (by decide +kernel) (by decide +kernel)
set_option maxRecDepth 20000 in
theorem gX5_cls_X5_isThing : GoodIn wsX5_cls (wsV RX5 60 RX5 yX5_isThing wsX5_isThing) := goodIn_app (goodIn_of _ (by decide +kernel)) ggX5_cls_X5_isThing
theorem dX5_cls_0 : decode cX5_cls 0 = .ok (.aload_n 0, 1) := by decide +kernel
theorem dX5_cls_1 : decode cX5_cls 1 = .ok (.iload_n 1, 1) := by decide +kernel
theorem dX5_cls_2 : decode cX5_cls 2 = .ok (.invokevirtual 60, 3) := by decide +kernel
theorem dX5_cls_5 : decode cX5_cls 5 = .ok (.ifCond .eq 12, 3) := by decide +kernel
theorem dX5_cls_8 : decode cX5_cls 8 = .ok (.aload_n 0, 1) := by decide +kernel
theorem dX5_cls_9 : decode cX5_cls 9 = .ok (.getfield 7, 3) := by decide +kernel
theorem dX5_cls_12 : decode cX5_cls 12 = .ok (.iload_n 1, 1) := by decide +kernel
theorem dX5_cls_13 : decode cX5_cls 13 = .ok (.iaload, 1) := by decide +kernel
theorem dX5_cls_14 : decode cX5_cls 14 = .ok (.goto 5, 3) := by decide +kernel
theorem dX5_cls_17 : decode cX5_cls 17 = .ok (.ldc 48, 2) := by decide +kernel
theorem dX5_cls_19 : decode cX5_cls 19 = .ok (.ireturn, 1) := by decide +kernel
set_option maxRecDepth 20000 in
theorem ggX5_is_X5_isThing : GoodIn wsX5_is wsX5_isThing := goodIn_r _ [8, 9, 10, 11, 7, 12, 13, 14, 15, 16, 17, 18, 19, 20, 21, 22, 23, 24, 25, 26, 27, 28, 29] (by decide +kernel) (by decide +kernel)
set_option maxRecDepth 20000 in
theorem gX5_is_X5_isThing : GoodIn wsX5_is (wsV RX5 60 RX5 yX5_isThing wsX5_isThing) := goodIn_app (goodIn_of _ (by decide +kernel)) ggX5_is_X5_isThing
set_option maxRecDepth 20000 in
theorem ggX5_is_X5_in : GoodIn wsX5_is wsX5_in := goodIn_r _ [12] (by decide +kernel) (by decide +kernel)
set_option maxRecDepth 20000 in
theorem gX5_is_X5_in : GoodIn wsX5_is (va_wsS RX5 39 yX5_in wsX5_in) := goodIn_app (goodIn_of _ (by decide +kernel)) ggX5_is_X5_in
theorem dX5_is_0 : decode cX5_is 0 = .ok (.aload_n 0, 1) := by decide +kernel
theorem dX5_is_1 : decode cX5_is 1 = .ok (.iload_n 1, 1) := by decide +kernel
theorem dX5_is_2 : decode cX5_is 2 = .ok (.invokevirtual 60, 3) := by decide +kernel
theorem dX5_is_5 : decode cX5_is 5 = .ok (.ifCond .eq 15, 3) := by decide +kernel
theorem dX5_is_8 : decode cX5_is 8 = .ok (.iload_n 2, 1) := by decide +kernel
theorem dX5_is_9 : decode cX5_is 9 = .ok (.i2l, 1) := by decide +kernel
theorem dX5_is_10 : decode cX5_is 10 = .ok (.lconst 0, 1) := by decide +kernel
theorem dX5_is_11 : decode cX5_is 11 = .ok (.ldc2_w 46, 3) := by decide +kernel
theorem dX5_is_14 : decode cX5_is 14 = .ok (.invokestatic 39, 3) := by decide +kernel
theorem dX5_is_17 : decode cX5_is 17 = .ok (.ifCond .ne 6, 3) := by decide +kernel
theorem dX5_is_20 : decode cX5_is 20 = .ok (.ldc 48, 2) := by decide +kernel
theorem dX5_is_22 : decode cX5_is 22 = .ok (.ireturn, 1) := by decide +kernel
theorem dX5_is_23 : decode cX5_is 23 = .ok (.aload_n 0, 1) := by decide +kernel
theorem dX5_is_24 : decode cX5_is 24 = .ok (.getfield 7, 3) := by decide +kernel
theorem dX5_is_27 : decode cX5_is 27 = .ok (.iload_n 1, 1) := by decide +kernel
theorem dX5_is_28 : decode cX5_is 28 = .ok (.iaload, 1) := by decide +kernel
theorem dX5_is_29 : decode cX5_is 29 = .ok (.iload_n 2, 1) := by decide +kernel
theorem dX5_is_30 : decode cX5_is 30 = .ok (.if_icmp .eq 23, 3) := by decide +kernel
theorem dX5_is_33 : decode cX5_is 33 = .ok (.iload_n 2, 1) := by decide +kernel
theorem dX5_is_34 : decode cX5_is 34 = .ok (.aload_n 0, 1) := by decide +kernel
theorem dX5_is_35 : decode cX5_is 35 = .ok (.getfield 7, 3) := by decide +kernel
theorem dX5_is_38 : decode cX5_is 38 = .ok (.iload_n 1, 1) := by decide +kernel
theorem dX5_is_39 : decode cX5_is 39 = .ok (.iaload, 1) := by decide +kernel
theorem dX5_is_40 : decode cX5_is 40 = .ok (.if_icmp .ge 17, 3) := by decide +kernel
theorem dX5_is_43 : decode cX5_is 43 = .ok (.aload_n 0, 1) := by decide +kernel
theorem dX5_is_44 : decode cX5_is 44 = .ok (.getfield 7, 3) := by decide +kernel
theorem dX5_is_47 : decode cX5_is 47 = .ok (.iload_n 1, 1) := by decide +kernel
theorem dX5_is_48 : decode cX5_is 48 = .ok (.iaload, 1) := by decide +kernel
theorem dX5_is_49 : decode cX5_is 49 = .ok (.iconst 2, 1) := by decide +kernel
theorem dX5_is_50 : decode cX5_is 50 = .ok (.if_icmp .gt 7, 3) := by decide +kernel
theorem dX5_is_53 : decode cX5_is 53 = .ok (.iconst 1, 1) := by decide +kernel
theorem dX5_is_54 : decode cX5_is 54 = .ok (.goto 4, 3) := by decide +kernel
theorem dX5_is_57 : decode cX5_is 57 = .ok (.iconst 0, 1) := by decide +kernel
theorem dX5_is_58 : decode cX5_is 58 = .ok (.ireturn, 1) := by decide +kernel
set_option maxRecDepth 20000 in
theorem ggX5_v_X5_isThing : GoodIn wsX5_v wsX5_isThing := goodIn_r _ [7, 8, 9, 10, 6, 11, 12, 13, 14, 15, 16, 17, 18, 19, 20, 21, 22, 23, 24, 25, 26, 27, 28] (by decide +kernel) (by decide +kernel)
set_option maxRecDepth 20000 in
theorem gX5_v_X5_isThing : GoodIn wsX5_v (wsV RX5 60 RX5 yX5_isThing wsX5_isThing) := goodIn_app (goodIn_of _ (by decide +kernel)) ggX5_v_X5_isThing
theorem dX5_v_0 : decode cX5_v 0 = .ok (.aload_n 0, 1) := by decide +kernel
theorem dX5_v_1 : decode cX5_v 1 = .ok (.iload_n 1, 1) := by decide +kernel
theorem dX5_v_2 : decode cX5_v 2 = .ok (.invokevirtual 60, 3) := by decide +kernel
theorem dX5_v_5 : decode cX5_v 5 = .ok (.ifCond .eq 12, 3) := by decide +kernel
theorem dX5_v_8 : decode cX5_v 8 = .ok (.aload_n 0, 1) := by decide +kernel
theorem dX5_v_9 : decode cX5_v 9 = .ok (.getfield 13, 3) := by decide +kernel
theorem dX5_v_12 : decode cX5_v 12 = .ok (.iload_n 1, 1) := by decide +kernel
theorem dX5_v_13 : decode cX5_v 13 = .ok (.iaload, 1) := by decide +kernel
theorem dX5_v_14 : decode cX5_v 14 = .ok (.goto 5, 3) := by decide +kernel
theorem dX5_v_17 : decode cX5_v 17 = .ok (.ldc 48, 2) := by decide +kernel
theorem dX5_v_19 : decode cX5_v 19 = .ok (.ireturn, 1) := by decide +kernel
set_option maxRecDepth 20000 in
theorem ggX5_become_X5_isThing : GoodIn wsX5_become wsX5_isThing := goodIn_r _ [7, 8, 9, 10, 6, 11, 12, 13, 14, 15, 16, 17, 18, 19, 20, 21, 22, 23, 24, 25, 26, 27, 28] (by decide +kernel) (by decide +kernel)
set_option maxRecDepth 20000 in
theorem gX5_become_X5_isThing : GoodIn wsX5_become (wsV RX5 60 RX5 yX5_isThing wsX5_isThing) := goodIn_app (goodIn_of _ (by decide +kernel)) ggX5_become_X5_isThing
theorem dX5_become_0 : decode cX5_become 0 = .ok (.aload_n 0, 1) := by decide +kernel
theorem dX5_become_1 : decode cX5_become 1 = .ok (.iload_n 1, 1) := by decide +kernel
theorem dX5_become_2 : decode cX5_become 2 = .ok (.invokevirtual 60, 3) := by decide +kernel
theorem dX5_become_5 : decode cX5_become 5 = .ok (.ifCond .ne 6, 3) := by decide +kernel
theorem dX5_become_8 : decode cX5_become 8 = .ok (.ldc 48, 2) := by decide +kernel
theorem dX5_become_10 : decode cX5_become 10 = .ok (.ireturn, 1) := by decide +kernel
theorem dX5_become_11 : decode cX5_become 11 = .ok (.aload_n 0, 1) := by decide +kernel
theorem dX5_become_12 : decode cX5_become 12 = .ok (.getfield 13, 3) := by decide +kernel
theorem dX5_become_15 : decode cX5_become 15 = .ok (.iload_n 1, 1) := by decide +kernel
theorem dX5_become_16 : decode cX5_become 16 = .ok (.iaload, 1) := by decide +kernel
theorem dX5_become_17 : decode cX5_become 17 = .ok (.istore_n 3, 1) := by decide +kernel
theorem dX5_become_18 : decode cX5_become 18 = .ok (.aload_n 0, 1) := by decide +kernel
theorem dX5_become_19 : decode cX5_become 19 = .ok (.getfield 13, 3) := by decide +kernel
theorem dX5_become_22 : decode cX5_become 22 = .ok (.iload_n 1, 1) := by decide +kernel
theorem dX5_become_23 : decode cX5_become 23 = .ok (.iload_n 2, 1) := by decide +kernel
theorem dX5_become_24 : decode cX5_become 24 = .ok (.iastore, 1) := by decide +kernel
theorem dX5_become_25 : decode cX5_become 25 = .ok (.iload_n 3, 1) := by decide +kernel
theorem dX5_become_26 : decode cX5_become 26 = .ok (.ireturn, 1) := by decide +kernel
set_option maxRecDepth 20000 in
theorem ggX5_link_X5_isThing : GoodIn wsX5_link wsX5_isThing := goodIn_r _ [7, 8, 9, 10, 6, 11, 12, 13, 14, 15, 16, 17, 18, 19, 20, 21, 22, 23, 24, 25, 26, 27, 28] (by decide +kernel) (by decide +kernel)
set_option maxRecDepth 20000 in
theorem gX5_link_X5_isThing : GoodIn wsX5_link (wsV RX5 60 RX5 yX5_isThing wsX5_isThing) := goodIn_app (goodIn_of _ (by decide +kernel)) ggX5_link_X5_isThing
theorem dX5_link_0 : decode cX5_link 0 = .ok (.aload_n 0, 1) := by decide +kernel
theorem dX5_link_1 : decode cX5_link 1 = .ok (.iload_n 1, 1) := by decide +kernel
theorem dX5_link_2 : decode cX5_link 2 = .ok (.invokevirtual 60, 3) := by decide +kernel
theorem dX5_link_5 : decode cX5_link 5 = .ok (.ifCond .eq 16, 3) := by decide +kernel
theorem dX5_link_8 : decode cX5_link 8 = .ok (.iload_n 2, 1) := by decide +kernel
theorem dX5_link_9 : decode cX5_link 9 = .ok (.iconst (-1), 1) := by decide +kernel
theorem dX5_link_10 : decode cX5_link 10 = .ok (.if_icmp .eq 14, 3) := by decide +kernel
theorem dX5_link_13 : decode cX5_link 13 = .ok (.aload_n 0, 1) := by decide +kernel
theorem dX5_link_14 : decode cX5_link 14 = .ok (.iload_n 2, 1) := by decide +kernel
theorem dX5_link_15 : decode cX5_link 15 = .ok (.invokevirtual 60, 3) := by decide +kernel
theorem dX5_link_18 : decode cX5_link 18 = .ok (.ifCond .ne 6, 3) := by decide +kernel
theorem dX5_link_21 : decode cX5_link 21 = .ok (.ldc 48, 2) := by decide +kernel
theorem dX5_link_23 : decode cX5_link 23 = .ok (.ireturn, 1) := by decide +kernel
theorem dX5_link_24 : decode cX5_link 24 = .ok (.aload_n 0, 1) := by decide +kernel
theorem dX5_link_25 : decode cX5_link 25 = .ok (.getfield 16, 3) := by decide +kernel
theorem dX5_link_28 : decode cX5_link 28 = .ok (.iload_n 1, 1) := by decide +kernel
theorem dX5_link_29 : decode cX5_link 29 = .ok (.iaload, 1) := by decide +kernel
theorem dX5_link_30 : decode cX5_link 30 = .ok (.istore_n 3, 1) := by decide +kernel
theorem dX5_link_31 : decode cX5_link 31 = .ok (.aload_n 0, 1) := by decide +kernel
theorem dX5_link_32 : decode cX5_link 32 = .ok (.getfield 16, 3) := by decide +kernel
theorem dX5_link_35 : decode cX5_link 35 = .ok (.iload_n 1, 1) := by decide +kernel
theorem dX5_link_36 : decode cX5_link 36 = .ok (.iload_n 2, 1) := by decide +kernel
theorem dX5_link_37 : decode cX5_link 37 = .ok (.iastore, 1) := by decide +kernel
theorem dX5_link_38 : decode cX5_link 38 = .ok (.iload_n 3, 1) := by decide +kernel
theorem dX5_link_39 : decode cX5_link 39 = .ok (.ireturn, 1) := by decide +kernel
set_option maxRecDepth 20000 in
theorem ggX5_linked_X5_isThing : GoodIn wsX5_linked wsX5_isThing := goodIn_r _ [7, 8, 9, 10, 6, 11, 12, 13, 14, 15, 16, 17, 18, 19, 20, 21, 22, 23, 24, 25, 26, 27, 28] (by decide +kernel) (by decide +kernel)
set_option maxRecDepth 20000 in
theorem gX5_linked_X5_isThing : GoodIn wsX5_linked (wsV RX5 60 RX5 yX5_isThing wsX5_isThing) := goodIn_app (goodIn_of _ (by decide +kernel)) ggX5_linked_X5_isThing
theorem dX5_linked_0 : decode cX5_linked 0 = .ok (.aload_n 0, 1) := by decide +kernel
theorem dX5_linked_1 : decode cX5_linked 1 = .ok (.iload_n 1, 1) := by decide +kernel
theorem dX5_linked_2 : decode cX5_linked 2 = .ok (.invokevirtual 60, 3) := by decide +kernel
theorem dX5_linked_5 : decode cX5_linked 5 = .ok (.ifCond .eq 12, 3) := by decide +kernel
theorem dX5_linked_8 : decode cX5_linked 8 = .ok (.aload_n 0, 1) := by decide +kernel
theorem dX5_linked_9 : decode cX5_linked 9 = .ok (.getfield 16, 3) := by decide +kernel
theorem dX5_linked_12 : decode cX5_linked 12 = .ok (.iload_n 1, 1) := by decide +kernel
theorem dX5_linked_13 : decode cX5_linked 13 = .ok (.iaload, 1) := by decide +kernel
theorem dX5_linked_14 : decode cX5_linked 14 = .ok (.goto 5, 3) := by decide +kernel
theorem dX5_linked_17 : decode cX5_linked 17 = .ok (.ldc 48, 2) := by decide +kernel
theorem dX5_linked_19 : decode cX5_linked 19 = .ok (.ireturn, 1) := by decide +kernel
set_option maxRecDepth 20000 in
theorem ggX5_follow_X5_isThing : GoodIn wsX5_follow wsX5_isThing := goodIn_r _ [7, 8, 9, 10, 6, 11, 18, 19, 20, 21, 22, 23, 24, 25, 26, 27, 28, 29, 30, 31, 32, 33, 34] (by decide +kernel) (by decide +kernel)
set_option maxRecDepth 20000 in
theorem gX5_follow_X5_isThing : GoodIn wsX5_follow (wsV RX5 60 RX5 yX5_isThing wsX5_isThing) := goodIn_app (goodIn_of _ (by decide +kernel)) ggX5_follow_X5_isThing
set_option maxRecDepth 20000 in
theorem ggX5_follow_X5_tell : GoodIn wsX5_follow wsX5_tell := goodIn_r _ [15, 16, 17, 18, 19, 20, 21, 22, 23, 24, 25, 26, 27, 28, 29, 30, 31, 32, 33, 34] (by decide +kernel) (by decide +kernel)
set_option maxRecDepth 20000 in
theorem gX5_follow_X5_tell : GoodIn wsX5_follow (wsV RX5 64 RX5 yX5_tell wsX5_tell) := goodIn_app (goodIn_of _ (by decide +kernel)) ggX5_follow_X5_tell
theorem dX5_follow_0 : decode cX5_follow 0 = .ok (.aload_n 0, 1) := by decide +kernel
theorem dX5_follow_1 : decode cX5_follow 1 = .ok (.iload_n 1, 1) := by decide +kernel
theorem dX5_follow_2 : decode cX5_follow 2 = .ok (.invokevirtual 60, 3) := by decide +kernel
theorem dX5_follow_5 : decode cX5_follow 5 = .ok (.ifCond .ne 6, 3) := by decide +kernel
theorem dX5_follow_8 : decode cX5_follow 8 = .ok (.ldc 48, 2) := by decide +kernel
theorem dX5_follow_10 : decode cX5_follow 10 = .ok (.ireturn, 1) := by decide +kernel
theorem dX5_follow_11 : decode cX5_follow 11 = .ok (.aload_n 0, 1) := by decide +kernel
theorem dX5_follow_12 : decode cX5_follow 12 = .ok (.aload_n 0, 1) := by decide +kernel
theorem dX5_follow_13 : decode cX5_follow 13 = .ok (.getfield 16, 3) := by decide +kernel
theorem dX5_follow_16 : decode cX5_follow 16 = .ok (.iload_n 1, 1) := by decide +kernel
theorem dX5_follow_17 : decode cX5_follow 17 = .ok (.iaload, 1) := by decide +kernel
theorem dX5_follow_18 : decode cX5_follow 18 = .ok (.iconst (-1), 1) := by decide +kernel
theorem dX5_follow_19 : decode cX5_follow 19 = .ok (.if_icmp .ne 7, 3) := by decide +kernel
theorem dX5_follow_22 : decode cX5_follow 22 = .ok (.iconst 1, 1) := by decide +kernel
theorem dX5_follow_23 : decode cX5_follow 23 = .ok (.goto 4, 3) := by decide +kernel
theorem dX5_follow_26 : decode cX5_follow 26 = .ok (.iconst 0, 1) := by decide +kernel
theorem dX5_follow_27 : decode cX5_follow 27 = .ok (.invokevirtual 64, 3) := by decide +kernel
theorem dX5_follow_30 : decode cX5_follow 30 = .ok (.ifCond .eq 5, 3) := by decide +kernel
theorem dX5_follow_33 : decode cX5_follow 33 = .ok (.iconst 0, 1) := by decide +kernel
theorem dX5_follow_34 : decode cX5_follow 34 = .ok (.ireturn, 1) := by decide +kernel
theorem dX5_follow_35 : decode cX5_follow 35 = .ok (.aload_n 0, 1) := by decide +kernel
theorem dX5_follow_36 : decode cX5_follow 36 = .ok (.getfield 16, 3) := by decide +kernel
theorem dX5_follow_39 : decode cX5_follow 39 = .ok (.iload_n 1, 1) := by decide +kernel
theorem dX5_follow_40 : decode cX5_follow 40 = .ok (.aload_n 0, 1) := by decide +kernel
theorem dX5_follow_41 : decode cX5_follow 41 = .ok (.getfield 16, 3) := by decide +kernel
theorem dX5_follow_44 : decode cX5_follow 44 = .ok (.aload_n 0, 1) := by decide +kernel
theorem dX5_follow_45 : decode cX5_follow 45 = .ok (.getfield 16, 3) := by decide +kernel
theorem dX5_follow_48 : decode cX5_follow 48 = .ok (.iload_n 1, 1) := by decide +kernel
theorem dX5_follow_49 : decode cX5_follow 49 = .ok (.iaload, 1) := by decide +kernel
theorem dX5_follow_50 : decode cX5_follow 50 = .ok (.iaload, 1) := by decide +kernel
theorem dX5_follow_51 : decode cX5_follow 51 = .ok (.iastore, 1) := by decide +kernel
theorem dX5_follow_52 : decode cX5_follow 52 = .ok (.aload_n 0, 1) := by decide +kernel
theorem dX5_follow_53 : decode cX5_follow 53 = .ok (.getfield 16, 3) := by decide +kernel
theorem dX5_follow_56 : decode cX5_follow 56 = .ok (.iload_n 1, 1) := by decide +kernel
theorem dX5_follow_57 : decode cX5_follow 57 = .ok (.iaload, 1) := by decide +kernel
theorem dX5_follow_58 : decode cX5_follow 58 = .ok (.ireturn, 1) := by decide +kernel
set_option maxRecDepth 20000 in
theorem ggX5_trade_X5_isThing : GoodIn wsX5_trade wsX5_isThing := goodIn_r _ [8, 9, 10, 11, 7, 12, 19, 20, 21, 22, 23, 24, 25, 26, 27, 28, 29, 30, 31, 32, 33, 34, 35] (by decide +kernel) (by decide +kernel)
set_option maxRecDepth 20000 in
theorem gX5_trade_X5_isThing : GoodIn wsX5_trade (wsV RX5 60 RX5 yX5_isThing wsX5_isThing) := goodIn_app (goodIn_of _ (by decide +kernel)) ggX5_trade_X5_isThing
set_option maxRecDepth 20000 in
theorem ggX5_trade_X5_tell : GoodIn wsX5_trade wsX5_tell := goodIn_r _ [16, 17, 18, 19, 20, 21, 22, 23, 24, 25, 26, 27, 28, 29, 30, 31, 32, 33, 34, 35] (by decide +kernel) (by decide +kernel)
set_option maxRecDepth 20000 in
theorem gX5_trade_X5_tell : GoodIn wsX5_trade (wsV RX5 64 RX5 yX5_tell wsX5_tell) := goodIn_app (goodIn_of _ (by decide +kernel)) ggX5_trade_X5_tell
theorem dX5_trade_0 : decode cX5_trade 0 = .ok (.aload_n 0, 1) := by decide +kernel
theorem dX5_trade_1 : decode cX5_trade 1 = .ok (.iload_n 1, 1) := by decide +kernel
theorem dX5_trade_2 : decode cX5_trade 2 = .ok (.invokevirtual 60, 3) := by decide +kernel
theorem dX5_trade_5 : decode cX5_trade 5 = .ok (.ifCond .ne 6, 3) := by decide +kernel
theorem dX5_trade_8 : decode cX5_trade 8 = .ok (.ldc 48, 2) := by decide +kernel
theorem dX5_trade_10 : decode cX5_trade 10 = .ok (.ireturn, 1) := by decide +kernel
