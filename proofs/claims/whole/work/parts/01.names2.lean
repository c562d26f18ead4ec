theorem dX1_add_41 : decode cX1_add 41 = .ok (.ireturn, 1) := by decide +kernel
theorem dX1_find_0 : decode cX1_find 0 = .ok (.iload_n 1, 1) := by decide +kernel
theorem dX1_find_1 : decode cX1_find 1 = .ok (.ifCond .lt 20, 3) := by decide +kernel
theorem dX1_find_4 : decode cX1_find 4 = .ok (.iload_n 1, 1) := by decide +kernel
theorem dX1_find_5 : decode cX1_find 5 = .ok (.aload_n 0, 1) := by decide +kernel
theorem dX1_find_6 : decode cX1_find 6 = .ok (.getfield 17, 3) := by decide +kernel
theorem dX1_find_9 : decode cX1_find 9 = .ok (.if_icmp .ge 12, 3) := by decide +kernel
theorem dX1_find_12 : decode cX1_find 12 = .ok (.aload_n 0, 1) := by decide +kernel
theorem dX1_find_13 : decode cX1_find 13 = .ok (.getfield 11, 3) := by decide +kernel
theorem dX1_find_16 : decode cX1_find 16 = .ok (.iload_n 1, 1) := by decide +kernel
theorem dX1_find_17 : decode cX1_find 17 = .ok (.aaload, 1) := by decide +kernel
theorem dX1_find_18 : decode cX1_find 18 = .ok (.goto 4, 3) := by decide +kernel
theorem dX1_find_21 : decode cX1_find 21 = .ok (.aconst_null, 1) := by decide +kernel
theorem dX1_find_22 : decode cX1_find 22 = .ok (.areturn, 1) := by decide +kernel
set_option maxRecDepth 20000 in
theorem ggX1_hasOrNone_X1_find : GoodIn wsX1_hasOrNone wsX1_find := goodIn_r _ [5, 6, 7, 8, 9] (by decide +kernel) (by decide +kernel)
set_option maxRecDepth 20000 in
theorem gX1_hasOrNone_X1_find : GoodIn wsX1_hasOrNone (wsV RX1 24 RX1 yX1_find wsX1_find) := goodIn_app (goodIn_of _ (by decide +kernel)) ggX1_hasOrNone_X1_find
theorem dX1_hasOrNone_0 : decode cX1_hasOrNone 0 = .ok (.iload_n 1, 1) := by decide +kernel
theorem dX1_hasOrNone_1 : decode cX1_hasOrNone 1 = .ok (.iconst (-1), 1) := by decide +kernel
theorem dX1_hasOrNone_2 : decode cX1_hasOrNone 2 = .ok (.if_icmp .eq 11, 3) := by decide +kernel
theorem dX1_hasOrNone_5 : decode cX1_hasOrNone 5 = .ok (.aload_n 0, 1) := by decide +kernel
theorem dX1_hasOrNone_6 : decode cX1_hasOrNone 6 = .ok (.iload_n 1, 1) := by decide +kernel
theorem dX1_hasOrNone_7 : decode cX1_hasOrNone 7 = .ok (.invokevirtual 24, 3) := by decide +kernel
theorem dX1_hasOrNone_10 : decode cX1_hasOrNone 10 = .ok (.ifnull 7, 3) := by decide +kernel
theorem dX1_hasOrNone_13 : decode cX1_hasOrNone 13 = .ok (.iconst 1, 1) := by decide +kernel
theorem dX1_hasOrNone_14 : decode cX1_hasOrNone 14 = .ok (.goto 4, 3) := by decide +kernel
theorem dX1_hasOrNone_17 : decode cX1_hasOrNone 17 = .ok (.iconst 0, 1) := by decide +kernel
theorem dX1_hasOrNone_18 : decode cX1_hasOrNone 18 = .ok (.ireturn, 1) := by decide +kernel
set_option maxRecDepth 20000 in
theorem ggX1_isLeafOrNone_X1_find : GoodIn wsX1_isLeafOrNone wsX1_find := goodIn_r _ [5, 6, 7, 14, 15] (by decide +kernel) (by decide +kernel)
set_option maxRecDepth 20000 in
theorem gX1_isLeafOrNone_X1_find : GoodIn wsX1_isLeafOrNone (wsV RX1 24 RX1 yX1_find wsX1_find) := goodIn_app (goodIn_of _ (by decide +kernel)) ggX1_isLeafOrNone_X1_find
set_option maxRecDepth 20000 in
theorem ggX1_isLeafOrNone_X2_isOf : GoodIn wsX1_isLeafOrNone wsX2_isOf := goodIn_r _ [12, 13, 16, 17, 18, 19] (by decide +kernel) (by decide +kernel)
set_option maxRecDepth 20000 in
theorem gX1_isLeafOrNone_X2_isOf : GoodIn wsX1_isLeafOrNone (wsV RX1 28 RX2 yX2_isOf wsX2_isOf) := goodIn_app (goodIn_of _ (by decide +kernel)) ggX1_isLeafOrNone_X2_isOf
theorem dX1_isLeafOrNone_0 : decode cX1_isLeafOrNone 0 = .ok (.aload_n 0, 1) := by decide +kernel
theorem dX1_isLeafOrNone_1 : decode cX1_isLeafOrNone 1 = .ok (.iload_n 1, 1) := by decide +kernel
theorem dX1_isLeafOrNone_2 : decode cX1_isLeafOrNone 2 = .ok (.invokevirtual 24, 3) := by decide +kernel
theorem dX1_isLeafOrNone_5 : decode cX1_isLeafOrNone 5 = .ok (.astore_n 2, 1) := by decide +kernel
theorem dX1_isLeafOrNone_6 : decode cX1_isLeafOrNone 6 = .ok (.aload_n 2, 1) := by decide +kernel
theorem dX1_isLeafOrNone_7 : decode cX1_isLeafOrNone 7 = .ok (.ifnull 11, 3) := by decide +kernel
theorem dX1_isLeafOrNone_10 : decode cX1_isLeafOrNone 10 = .ok (.aload_n 2, 1) := by decide +kernel
theorem dX1_isLeafOrNone_11 : decode cX1_isLeafOrNone 11 = .ok (.iconst 0, 1) := by decide +kernel
theorem dX1_isLeafOrNone_12 : decode cX1_isLeafOrNone 12 = .ok (.invokevirtual 28, 3) := by decide +kernel
theorem dX1_isLeafOrNone_15 : decode cX1_isLeafOrNone 15 = .ok (.ifCond .eq 7, 3) := by decide +kernel
theorem dX1_isLeafOrNone_18 : decode cX1_isLeafOrNone 18 = .ok (.iconst 1, 1) := by decide +kernel
theorem dX1_isLeafOrNone_19 : decode cX1_isLeafOrNone 19 = .ok (.goto 4, 3) := by decide +kernel
theorem dX1_isLeafOrNone_22 : decode cX1_isLeafOrNone 22 = .ok (.iconst 0, 1) := by decide +kernel
theorem dX1_isLeafOrNone_23 : decode cX1_isLeafOrNone 23 = .ok (.ireturn, 1) := by decide +kernel
theorem dX2_init_0 : decode cX2_init 0 = .ok (.aload_n 0, 1) := by decide +kernel
theorem dX2_init_1 : decode cX2_init 1 = .ok (.invokespecial 3, 3) := by decide +kernel
theorem dX2_init_4 : decode cX2_init 4 = .ok (.aload_n 0, 1) := by decide +kernel
theorem dX2_init_5 : decode cX2_init 5 = .ok (.iload_n 1, 1) := by decide +kernel
theorem dX2_init_6 : decode cX2_init 6 = .ok (.putfield 9, 3) := by decide +kernel
theorem dX2_init_9 : decode cX2_init 9 = .ok (.aload_n 0, 1) := by decide +kernel
theorem dX2_init_10 : decode cX2_init 10 = .ok (.iload_n 2, 1) := by decide +kernel
theorem dX2_init_11 : decode cX2_init 11 = .ok (.putfield 15, 3) := by decide +kernel
theorem dX2_init_14 : decode cX2_init 14 = .ok (.aload_n 0, 1) := by decide +kernel
theorem dX2_init_15 : decode cX2_init 15 = .ok (.iconst (-1), 1) := by decide +kernel
theorem dX2_init_16 : decode cX2_init 16 = .ok (.putfield 18, 3) := by decide +kernel
theorem dX2_init_19 : decode cX2_init 19 = .ok (.return_, 1) := by decide +kernel
theorem dX2_isOf_0 : decode cX2_isOf 0 = .ok (.aload_n 0, 1) := by decide +kernel
theorem dX2_isOf_1 : decode cX2_isOf 1 = .ok (.getfield 9, 3) := by decide +kernel
theorem dX2_isOf_4 : decode cX2_isOf 4 = .ok (.iload_n 1, 1) := by decide +kernel
theorem dX2_isOf_5 : decode cX2_isOf 5 = .ok (.if_icmp .eq 19, 3) := by decide +kernel
theorem dX2_isOf_8 : decode cX2_isOf 8 = .ok (.iload_n 1, 1) := by decide +kernel
theorem dX2_isOf_9 : decode cX2_isOf 9 = .ok (.aload_n 0, 1) := by decide +kernel
theorem dX2_isOf_10 : decode cX2_isOf 10 = .ok (.getfield 9, 3) := by decide +kernel
theorem dX2_isOf_13 : decode cX2_isOf 13 = .ok (.if_icmp .ge 15, 3) := by decide +kernel
theorem dX2_isOf_16 : decode cX2_isOf 16 = .ok (.aload_n 0, 1) := by decide +kernel
theorem dX2_isOf_17 : decode cX2_isOf 17 = .ok (.getfield 9, 3) := by decide +kernel
theorem dX2_isOf_20 : decode cX2_isOf 20 = .ok (.iconst 2, 1) := by decide +kernel
theorem dX2_isOf_21 : decode cX2_isOf 21 = .ok (.if_icmp .gt 7, 3) := by decide +kernel
theorem dX2_isOf_24 : decode cX2_isOf 24 = .ok (.iconst 1, 1) := by decide +kernel
theorem dX2_isOf_25 : decode cX2_isOf 25 = .ok (.goto 4, 3) := by decide +kernel
theorem dX2_isOf_28 : decode cX2_isOf 28 = .ok (.iconst 0, 1) := by decide +kernel
theorem dX2_isOf_29 : decode cX2_isOf 29 = .ok (.ireturn, 1) := by decide +kernel
theorem dX2_heldSort_0 : decode cX2_heldSort 0 = .ok (.aload_n 0, 1) := by decide +kernel
theorem dX2_heldSort_1 : decode cX2_heldSort 1 = .ok (.getfield 21, 3) := by decide +kernel
theorem dX2_heldSort_4 : decode cX2_heldSort 4 = .ok (.ifnonnull 7, 3) := by decide +kernel
theorem dX2_heldSort_7 : decode cX2_heldSort 7 = .ok (.iconst (-1), 1) := by decide +kernel
theorem dX2_heldSort_8 : decode cX2_heldSort 8 = .ok (.goto 10, 3) := by decide +kernel
theorem dX2_heldSort_11 : decode cX2_heldSort 11 = .ok (.aload_n 0, 1) := by decide +kernel
theorem dX2_heldSort_12 : decode cX2_heldSort 12 = .ok (.getfield 21, 3) := by decide +kernel
theorem dX2_heldSort_15 : decode cX2_heldSort 15 = .ok (.getfield 25, 3) := by decide +kernel
theorem dX2_heldSort_18 : decode cX2_heldSort 18 = .ok (.ireturn, 1) := by decide +kernel
theorem dX3_init_0 : decode cX3_init 0 = .ok (.aload_n 0, 1) := by decide +kernel
theorem dX3_init_1 : decode cX3_init 1 = .ok (.invokespecial 3, 3) := by decide +kernel
theorem dX3_init_4 : decode cX3_init 4 = .ok (.aload_n 0, 1) := by decide +kernel
theorem dX3_init_5 : decode cX3_init 5 = .ok (.aload_n 1, 1) := by decide +kernel
theorem dX3_init_6 : decode cX3_init 6 = .ok (.putfield 9, 3) := by decide +kernel
theorem dX3_init_9 : decode cX3_init 9 = .ok (.return_, 1) := by decide +kernel
set_option maxRecDepth 20000 in
theorem ggX3_first_X3_next : GoodIn wsX3_first wsX3_next := goodIn_r _ [7, 8, 9, 10, 11, 12, 6, 13, 2, 1, 14, 15, 16, 17, 18, 19, 20, 21, 22, 23, 24, 25, 26, 27, 28, 29, 30, 31, 32, 33, 34, 35, 36, 37, 38, 39, 40, 41, 42, 43, 44, 45, 46, 47, 48, 49, 50, 51, 52, 53, 54, 55, 56, 57, 58, 59, 60, 61, 62, 63, 64, 65, 66, 67, 68, 69, 70, 71, 72, 73, 74, 75, 76, 77] (by decide +kernel) (by decide +kernel)
set_option maxRecDepth 20000 in
theorem gX3_first_X3_next : GoodIn wsX3_first (wsV RX3 22 RX3 yX3_next wsX3_next) := goodIn_app (goodIn_of _ (by decide +kernel)) ggX3_first_X3_next
theorem dX3_first_0 : decode cX3_first 0 = .ok (.aload_n 0, 1) := by decide +kernel
theorem dX3_first_1 : decode cX3_first 1 = .ok (.iload_n 2, 1) := by decide +kernel
theorem dX3_first_2 : decode cX3_first 2 = .ok (.putfield 15, 3) := by decide +kernel
theorem dX3_first_5 : decode cX3_first 5 = .ok (.aload_n 0, 1) := by decide +kernel
theorem dX3_first_6 : decode cX3_first 6 = .ok (.iconst 0, 1) := by decide +kernel
theorem dX3_first_7 : decode cX3_first 7 = .ok (.putfield 19, 3) := by decide +kernel
theorem dX3_first_10 : decode cX3_first 10 = .ok (.aload_n 0, 1) := by decide +kernel
theorem dX3_first_11 : decode cX3_first 11 = .ok (.aload_n 1, 1) := by decide +kernel
theorem dX3_first_12 : decode cX3_first 12 = .ok (.invokevirtual 22, 3) := by decide +kernel
theorem dX3_first_15 : decode cX3_first 15 = .ok (.ireturn, 1) := by decide +kernel
set_option maxRecDepth 20000 in
theorem ggX3_next_X3_begin : GoodIn wsX3_next wsX3_begin := goodIn_r _ [7, 8, 9, 10, 11, 12, 6, 13, 1, 2, 14, 15, 16, 17, 18, 19, 20, 21, 22, 23, 24, 25, 26, 27, 28, 29, 30, 31, 32, 33, 34, 35, 36, 37, 38, 39, 40, 41, 3, 4, 5, 42, 43, 44, 45, 46, 47, 48, 49, 50, 51, 52, 53, 54, 55, 56, 57, 58, 59, 60, 61, 62, 63, 64, 65, 66, 67, 68, 69, 70, 71, 72, 73] (by decide +kernel) (by decide +kernel)
set_option maxRecDepth 20000 in
theorem gX3_next_X3_begin : GoodIn wsX3_next (wsV RX3 32 RX3 yX3_begin wsX3_begin) := goodIn_app (goodIn_of _ (by decide +kernel)) ggX3_next_X3_begin
theorem dX3_next_0 : decode cX3_next 0 = .ok (.aload_n 0, 1) := by decide +kernel
theorem dX3_next_1 : decode cX3_next 1 = .ok (.iconst 0, 1) := by decide +kernel
theorem dX3_next_2 : decode cX3_next 2 = .ok (.putfield 26, 3) := by decide +kernel
theorem dX3_next_5 : decode cX3_next 5 = .ok (.aload_n 0, 1) := by decide +kernel
theorem dX3_next_6 : decode cX3_next 6 = .ok (.iconst 0, 1) := by decide +kernel
theorem dX3_next_7 : decode cX3_next 7 = .ok (.putfield 29, 3) := by decide +kernel
theorem dX3_next_10 : decode cX3_next 10 = .ok (.aload_n 0, 1) := by decide +kernel
theorem dX3_next_11 : decode cX3_next 11 = .ok (.aload_n 1, 1) := by decide +kernel
theorem dX3_next_12 : decode cX3_next 12 = .ok (.iconst 0, 1) := by decide +kernel
theorem dX3_next_13 : decode cX3_next 13 = .ok (.invokevirtual 32, 3) := by decide +kernel
theorem dX3_next_16 : decode cX3_next 16 = .ok (.ireturn, 1) := by decide +kernel
set_option maxRecDepth 20000 in
theorem ggX3_begin_X3_stop : GoodIn wsX3_begin wsX3_stop := goodIn_r _ [7, 8, 9, 59, 60, 61, 62, 63, 64] (by decide +kernel) (by decide +kernel)
set_option maxRecDepth 20000 in
theorem gX3_begin_X3_stop : GoodIn wsX3_begin (wsV RX3 36 RX3 yX3_stop wsX3_stop) := goodIn_app (goodIn_of _ (by decide +kernel)) ggX3_begin_X3_stop
set_option maxRecDepth 20000 in
theorem ggX3_begin_X3_workOut : GoodIn wsX3_begin wsX3_workOut := goodIn_r _ [41, 42, 43, 15, 44, 45, 3, 4, 5, 6, 7, 8, 9, 31, 32, 33, 34, 35, 36, 37, 38, 39, 40, 46, 47, 48, 49, 50, 51, 52, 53, 54, 55, 56, 57, 58, 14, 0, 1, 2, 10, 11, 12, 13, 16, 17, 18, 19, 20, 21, 22, 23, 24, 25, 26, 27, 28, 29, 30, 59, 60, 61, 62, 63, 64, 65, 66, 67, 68, 69, 70, 71, 72] (by decide +kernel) (by decide +kernel)
set_option maxRecDepth 20000 in
theorem gX3_begin_X3_workOut : GoodIn wsX3_begin (wsV RX3 40 RX3 yX3_workOut wsX3_workOut) := goodIn_app (goodIn_of _ (by decide +kernel)) ggX3_begin_X3_workOut
theorem dX3_begin_0 : decode cX3_begin 0 = .ok (.aload_n 1, 1) := by decide +kernel
theorem dX3_begin_1 : decode cX3_begin 1 = .ok (.ifnonnull 10, 3) := by decide +kernel
theorem dX3_begin_4 : decode cX3_begin 4 = .ok (.aload_n 0, 1) := by decide +kernel
theorem dX3_begin_5 : decode cX3_begin 5 = .ok (.iconst 1, 1) := by decide +kernel
theorem dX3_begin_6 : decode cX3_begin 6 = .ok (.iload_n 2, 1) := by decide +kernel
theorem dX3_begin_7 : decode cX3_begin 7 = .ok (.invokevirtual 36, 3) := by decide +kernel
theorem dX3_begin_10 : decode cX3_begin 10 = .ok (.ireturn, 1) := by decide +kernel
theorem dX3_begin_11 : decode cX3_begin 11 = .ok (.aload_n 0, 1) := by decide +kernel
theorem dX3_begin_12 : decode cX3_begin 12 = .ok (.getfield 19, 3) := by decide +kernel
theorem dX3_begin_15 : decode cX3_begin 15 = .ok (.aload_n 0, 1) := by decide +kernel
theorem dX3_begin_16 : decode cX3_begin 16 = .ok (.getfield 15, 3) := by decide +kernel
theorem dX3_begin_19 : decode cX3_begin 19 = .ok (.if_icmp .lt 11, 3) := by decide +kernel
theorem dX3_begin_22 : decode cX3_begin 22 = .ok (.aload_n 0, 1) := by decide +kernel
theorem dX3_begin_23 : decode cX3_begin 23 = .ok (.bipush 9, 2) := by decide +kernel
theorem dX3_begin_25 : decode cX3_begin 25 = .ok (.iload_n 2, 1) := by decide +kernel
theorem dX3_begin_26 : decode cX3_begin 26 = .ok (.invokevirtual 36, 3) := by decide +kernel
theorem dX3_begin_29 : decode cX3_begin 29 = .ok (.ireturn, 1) := by decide +kernel
theorem dX3_begin_30 : decode cX3_begin 30 = .ok (.iload_n 2, 1) := by decide +kernel
theorem dX3_begin_31 : decode cX3_begin 31 = .ok (.bipush 30, 2) := by decide +kernel
theorem dX3_begin_33 : decode cX3_begin 33 = .ok (.if_icmp .lt 11, 3) := by decide +kernel
theorem dX3_begin_36 : decode cX3_begin 36 = .ok (.aload_n 0, 1) := by decide +kernel
theorem dX3_begin_37 : decode cX3_begin 37 = .ok (.bipush 8, 2) := by decide +kernel
theorem dX3_begin_39 : decode cX3_begin 39 = .ok (.iload_n 2, 1) := by decide +kernel
theorem dX3_begin_40 : decode cX3_begin 40 = .ok (.invokevirtual 36, 3) := by decide +kernel
theorem dX3_begin_43 : decode cX3_begin 43 = .ok (.ireturn, 1) := by decide +kernel
theorem dX3_begin_44 : decode cX3_begin 44 = .ok (.aload_n 0, 1) := by decide +kernel
theorem dX3_begin_45 : decode cX3_begin 45 = .ok (.dup, 1) := by decide +kernel
theorem dX3_begin_46 : decode cX3_begin 46 = .ok (.getfield 19, 3) := by decide +kernel
theorem dX3_begin_49 : decode cX3_begin 49 = .ok (.iconst 1, 1) := by decide +kernel
theorem dX3_begin_50 : decode cX3_begin 50 = .ok (.iadd, 1) := by decide +kernel
theorem dX3_begin_51 : decode cX3_begin 51 = .ok (.putfield 19, 3) := by decide +kernel
theorem dX3_begin_54 : decode cX3_begin 54 = .ok (.aload_n 0, 1) := by decide +kernel
theorem dX3_begin_55 : decode cX3_begin 55 = .ok (.aload_n 1, 1) := by decide +kernel
theorem dX3_begin_56 : decode cX3_begin 56 = .ok (.iload_n 2, 1) := by decide +kernel
theorem dX3_begin_57 : decode cX3_begin 57 = .ok (.iconst 1, 1) := by decide +kernel
theorem dX3_begin_58 : decode cX3_begin 58 = .ok (.iadd, 1) := by decide +kernel
theorem dX3_begin_59 : decode cX3_begin 59 = .ok (.invokevirtual 40, 3) := by decide +kernel
theorem dX3_begin_62 : decode cX3_begin 62 = .ok (.ireturn, 1) := by decide +kernel
set_option maxRecDepth 20000 in
theorem ggX3_workOut_X3_stop : GoodIn wsX3_workOut wsX3_stop := goodIn_r _ [10, 11, 12, 59, 60, 61, 62, 63, 64] (by decide +kernel) (by decide +kernel)
set_option maxRecDepth 20000 in
theorem gX3_workOut_X3_stop : GoodIn wsX3_workOut (wsV RX3 36 RX3 yX3_stop wsX3_stop) := goodIn_app (goodIn_of _ (by decide +kernel)) ggX3_workOut_X3_stop
set_option maxRecDepth 20000 in
theorem ggX3_workOut_X1_find : GoodIn wsX3_workOut wsX1_find := goodIn_r _ [17, 18, 19, 67, 68] (by decide +kernel) (by decide +kernel)
set_option maxRecDepth 20000 in
theorem gX3_workOut_X1_find : GoodIn wsX3_workOut (wsV RX3 54 RX1 yX1_find wsX1_find) := goodIn_app (goodIn_of _ (by decide +kernel)) ggX3_workOut_X1_find
set_option maxRecDepth 20000 in
theorem ggX3_workOut_X3_begin : GoodIn wsX3_workOut wsX3_begin := goodIn_r _ [37, 38, 39, 6, 7, 8, 9, 10, 11, 12, 40, 41, 42, 43, 36, 3, 44, 45, 46, 47, 48, 49, 50, 51, 52, 53, 54, 55, 56, 57, 58, 13, 14, 15, 16, 17, 18, 19, 20, 21, 22, 0, 1, 2, 4, 5, 23, 24, 25, 26, 27, 28, 29, 30, 31, 32, 33, 34, 35, 59, 60, 61, 62, 63, 64, 65, 66, 67, 68, 69, 70, 71, 72] (by decide +kernel) (by decide +kernel)
set_option maxRecDepth 20000 in
theorem gX3_workOut_X3_begin : GoodIn wsX3_workOut (wsV RX3 32 RX3 yX3_begin wsX3_begin) := goodIn_app (goodIn_of _ (by decide +kernel)) ggX3_workOut_X3_begin
set_option maxRecDepth 20000 in
theorem ggX3_workOut_X3_throwOwn : GoodIn wsX3_workOut wsX3_throwOwn := goodIn_r _ [26, 27, 6, 7, 8, 9, 10, 11, 12, 59, 60, 61, 62, 63, 64] (by decide +kernel) (by decide +kernel)
set_option maxRecDepth 20000 in
theorem gX3_workOut_X3_throwOwn : GoodIn wsX3_workOut (wsV RX3 60 RX3 yX3_throwOwn wsX3_throwOwn) := goodIn_app (goodIn_of _ (by decide +kernel)) ggX3_workOut_X3_throwOwn
set_option maxRecDepth 20000 in
theorem ggX3_workOut_X3_firstOf : GoodIn wsX3_workOut wsX3_firstOf := goodIn_r _ [43, 36, 3, 44, 45, 46, 47, 48, 49, 50, 51, 52, 53, 6, 7, 8, 9, 10, 11, 12, 54, 55, 56, 57, 58, 13, 14, 15, 16, 17, 18, 19, 20, 21, 22, 37, 38, 39, 40, 41, 42, 0, 1, 2, 4, 5, 23, 24, 25, 26, 27, 28, 29, 30, 31, 32, 33, 34, 35, 59, 60, 61, 62, 63, 64, 65, 66, 67, 68, 69, 70, 71, 72] (by decide +kernel) (by decide +kernel)
set_option maxRecDepth 20000 in
theorem gX3_workOut_X3_firstOf : GoodIn wsX3_workOut (wsV RX3 67 RX3 yX3_firstOf wsX3_firstOf) := goodIn_app (goodIn_of _ (by decide +kernel)) ggX3_workOut_X3_firstOf
set_option maxRecDepth 20000 in
theorem ggX3_workOut_X3_sumOf : GoodIn wsX3_workOut wsX3_sumOf := goodIn_r _ [34, 35, 36, 6, 7, 8, 9, 10, 11, 12, 65, 66, 59, 60, 61, 62, 63, 64] (by decide +kernel) (by decide +kernel)
set_option maxRecDepth 20000 in
theorem gX3_workOut_X3_sumOf : GoodIn wsX3_workOut (wsV RX3 71 RX3 yX3_sumOf wsX3_sumOf) := goodIn_app (goodIn_of _ (by decide +kernel)) ggX3_workOut_X3_sumOf
theorem dX3_workOut_0 : decode cX3_workOut 0 = .ok (.aload_n 1, 1) := by decide +kernel
theorem dX3_workOut_1 : decode cX3_workOut 1 = .ok (.getfield 43, 3) := by decide +kernel
theorem dX3_workOut_4 : decode cX3_workOut 4 = .ok (.tableswitch 133 0 6 #[44, 49, 56, 68, 94, 113, 123], 44) := by decide +kernel
theorem dX3_workOut_48 : decode cX3_workOut 48 = .ok (.aload_n 1, 1) := by decide +kernel
theorem dX3_workOut_49 : decode cX3_workOut 49 = .ok (.getfield 48, 3) := by decide +kernel
theorem dX3_workOut_52 : decode cX3_workOut 52 = .ok (.ireturn, 1) := by decide +kernel
theorem dX3_workOut_53 : decode cX3_workOut 53 = .ok (.iconst 2, 1) := by decide +kernel
theorem dX3_workOut_54 : decode cX3_workOut 54 = .ok (.aload_n 1, 1) := by decide +kernel
theorem dX3_workOut_55 : decode cX3_workOut 55 = .ok (.getfield 48, 3) := by decide +kernel
theorem dX3_workOut_58 : decode cX3_workOut 58 = .ok (.imul, 1) := by decide +kernel
theorem dX3_workOut_59 : decode cX3_workOut 59 = .ok (.ireturn, 1) := by decide +kernel
theorem dX3_workOut_60 : decode cX3_workOut 60 = .ok (.iconst 2, 1) := by decide +kernel
theorem dX3_workOut_61 : decode cX3_workOut 61 = .ok (.aload_n 1, 1) := by decide +kernel
theorem dX3_workOut_62 : decode cX3_workOut 62 = .ok (.getfield 48, 3) := by decide +kernel
theorem dX3_workOut_65 : decode cX3_workOut 65 = .ok (.imul, 1) := by decide +kernel
theorem dX3_workOut_66 : decode cX3_workOut 66 = .ok (.aload_n 1, 1) := by decide +kernel
theorem dX3_workOut_67 : decode cX3_workOut 67 = .ok (.getfield 48, 3) := by decide +kernel
theorem dX3_workOut_70 : decode cX3_workOut 70 = .ok (.iadd, 1) := by decide +kernel
theorem dX3_workOut_71 : decode cX3_workOut 71 = .ok (.ireturn, 1) := by decide +kernel
theorem dX3_workOut_72 : decode cX3_workOut 72 = .ok (.aload_n 1, 1) := by decide +kernel
theorem dX3_workOut_73 : decode cX3_workOut 73 = .ok (.getfield 48, 3) := by decide +kernel
theorem dX3_workOut_76 : decode cX3_workOut 76 = .ok (.ifCond .ne 13, 3) := by decide +kernel
theorem dX3_workOut_79 : decode cX3_workOut 79 = .ok (.aload_n 0, 1) := by decide +kernel
theorem dX3_workOut_80 : decode cX3_workOut 80 = .ok (.bipush 6, 2) := by decide +kernel
theorem dX3_workOut_82 : decode cX3_workOut 82 = .ok (.iload_n 2, 1) := by decide +kernel
theorem dX3_workOut_83 : decode cX3_workOut 83 = .ok (.invokevirtual 36, 3) := by decide +kernel
theorem dX3_workOut_86 : decode cX3_workOut 86 = .ok (.goto 11, 3) := by decide +kernel
theorem dX3_workOut_89 : decode cX3_workOut 89 = .ok (.sipush 1000, 3) := by decide +kernel
theorem dX3_workOut_92 : decode cX3_workOut 92 = .ok (.aload_n 1, 1) := by decide +kernel
theorem dX3_workOut_93 : decode cX3_workOut 93 = .ok (.getfield 48, 3) := by decide +kernel
theorem dX3_workOut_96 : decode cX3_workOut 96 = .ok (.idiv, 1) := by decide +kernel
theorem dX3_workOut_97 : decode cX3_workOut 97 = .ok (.ireturn, 1) := by decide +kernel
theorem dX3_workOut_98 : decode cX3_workOut 98 = .ok (.aload_n 0, 1) := by decide +kernel
theorem dX3_workOut_99 : decode cX3_workOut 99 = .ok (.aload_n 0, 1) := by decide +kernel
theorem dX3_workOut_100 : decode cX3_workOut 100 = .ok (.getfield 9, 3) := by decide +kernel
theorem dX3_workOut_103 : decode cX3_workOut 103 = .ok (.aload_n 1, 1) := by decide +kernel
theorem dX3_workOut_104 : decode cX3_workOut 104 = .ok (.getfield 51, 3) := by decide +kernel
theorem dX3_workOut_107 : decode cX3_workOut 107 = .ok (.invokevirtual 54, 3) := by decide +kernel
theorem dX3_workOut_110 : decode cX3_workOut 110 = .ok (.iload_n 2, 1) := by decide +kernel
theorem dX3_workOut_111 : decode cX3_workOut 111 = .ok (.invokevirtual 32, 3) := by decide +kernel
theorem dX3_workOut_114 : decode cX3_workOut 114 = .ok (.iconst 1, 1) := by decide +kernel
theorem dX3_workOut_115 : decode cX3_workOut 115 = .ok (.iadd, 1) := by decide +kernel
theorem dX3_workOut_116 : decode cX3_workOut 116 = .ok (.ireturn, 1) := by decide +kernel
theorem dX3_workOut_117 : decode cX3_workOut 117 = .ok (.aload_n 0, 1) := by decide +kernel
theorem dX3_workOut_118 : decode cX3_workOut 118 = .ok (.aload_n 1, 1) := by decide +kernel
theorem dX3_workOut_119 : decode cX3_workOut 119 = .ok (.getfield 48, 3) := by decide +kernel
theorem dX3_workOut_122 : decode cX3_workOut 122 = .ok (.iload_n 2, 1) := by decide +kernel
theorem dX3_workOut_123 : decode cX3_workOut 123 = .ok (.invokevirtual 60, 3) := by decide +kernel
theorem dX3_workOut_126 : decode cX3_workOut 126 = .ok (.ireturn, 1) := by decide +kernel
theorem dX3_workOut_127 : decode cX3_workOut 127 = .ok (.aload_n 0, 1) := by decide +kernel
theorem dX3_workOut_128 : decode cX3_workOut 128 = .ok (.aload_n 1, 1) := by decide +kernel
theorem dX3_workOut_129 : decode cX3_workOut 129 = .ok (.getfield 63, 3) := by decide +kernel
theorem dX3_workOut_132 : decode cX3_workOut 132 = .ok (.iload_n 2, 1) := by decide +kernel
theorem dX3_workOut_133 : decode cX3_workOut 133 = .ok (.invokevirtual 67, 3) := by decide +kernel
theorem dX3_workOut_136 : decode cX3_workOut 136 = .ok (.ireturn, 1) := by decide +kernel
theorem dX3_workOut_137 : decode cX3_workOut 137 = .ok (.aload_n 0, 1) := by decide +kernel
theorem dX3_workOut_138 : decode cX3_workOut 138 = .ok (.aload_n 1, 1) := by decide +kernel
theorem dX3_workOut_139 : decode cX3_workOut 139 = .ok (.getfield 63, 3) := by decide +kernel
theorem dX3_workOut_142 : decode cX3_workOut 142 = .ok (.iload_n 2, 1) := by decide +kernel
theorem dX3_workOut_143 : decode cX3_workOut 143 = .ok (.invokevirtual 71, 3) := by decide +kernel
theorem dX3_workOut_146 : decode cX3_workOut 146 = .ok (.ireturn, 1) := by decide +kernel
set_option maxRecDepth 20000 in
theorem ggX3_throwOwn_X3_stop : GoodIn wsX3_throwOwn wsX3_stop := goodIn_r _ [6, 7, 8, 9, 10, 11, 12, 13, 14] (by decide +kernel) (by decide +kernel)
set_option maxRecDepth 20000 in
theorem gX3_throwOwn_X3_stop : GoodIn wsX3_throwOwn (wsV RX3 36 RX3 yX3_stop wsX3_stop) := goodIn_app (goodIn_of _ (by decide +kernel)) ggX3_throwOwn_X3_stop
theorem dX3_throwOwn_0 : decode cX3_throwOwn 0 = .ok (.iload_n 1, 1) := by decide +kernel
theorem dX3_throwOwn_1 : decode cX3_throwOwn 1 = .ok (.ifCond .ne 10, 3) := by decide +kernel
theorem dX3_throwOwn_4 : decode cX3_throwOwn 4 = .ok (.aload_n 0, 1) := by decide +kernel
theorem dX3_throwOwn_5 : decode cX3_throwOwn 5 = .ok (.iconst 1, 1) := by decide +kernel
theorem dX3_throwOwn_6 : decode cX3_throwOwn 6 = .ok (.iload_n 2, 1) := by decide +kernel
theorem dX3_throwOwn_7 : decode cX3_throwOwn 7 = .ok (.invokevirtual 36, 3) := by decide +kernel
theorem dX3_throwOwn_10 : decode cX3_throwOwn 10 = .ok (.ireturn, 1) := by decide +kernel
theorem dX3_throwOwn_11 : decode cX3_throwOwn 11 = .ok (.aload_n 0, 1) := by decide +kernel
theorem dX3_throwOwn_12 : decode cX3_throwOwn 12 = .ok (.iload_n 1, 1) := by decide +kernel
theorem dX3_throwOwn_13 : decode cX3_throwOwn 13 = .ok (.putfield 74, 3) := by decide +kernel
theorem dX3_throwOwn_16 : decode cX3_throwOwn 16 = .ok (.aload_n 0, 1) := by decide +kernel
theorem dX3_throwOwn_17 : decode cX3_throwOwn 17 = .ok (.bipush 7, 2) := by decide +kernel
theorem dX3_throwOwn_19 : decode cX3_throwOwn 19 = .ok (.iload_n 2, 1) := by decide +kernel
theorem dX3_throwOwn_20 : decode cX3_throwOwn 20 = .ok (.invokevirtual 36, 3) := by decide +kernel
theorem dX3_throwOwn_23 : decode cX3_throwOwn 23 = .ok (.ireturn, 1) := by decide +kernel
set_option maxRecDepth 20000 in
theorem ggX3_firstOf_X4_againstItem : GoodIn wsX3_firstOf wsX4_againstItem := goodIn_r _ [5, 6, 7, 8, 9, 10, 11, 12, 65, 66] (by decide +kernel) (by decide +kernel)
set_option maxRecDepth 20000 in
theorem gX3_firstOf_X4_againstItem_n77 : GoodIn wsX3_firstOf (wsX4_againstItem) := ggX3_firstOf_X4_againstItem
set_option maxRecDepth 20000 in
theorem ggX3_firstOf_X3_stop : GoodIn wsX3_firstOf wsX3_stop := goodIn_r _ [17, 18, 19, 59, 60, 61, 62, 63, 64] (by decide +kernel) (by decide +kernel)
set_option maxRecDepth 20000 in
theorem gX3_firstOf_X3_stop : GoodIn wsX3_firstOf (wsV RX3 36 RX3 yX3_stop wsX3_stop) := goodIn_app (goodIn_of _ (by decide +kernel)) ggX3_firstOf_X3_stop
set_option maxRecDepth 20000 in
theorem ggX3_firstOf_X0_isOfThings : GoodIn wsX3_firstOf wsX0_isOfThings := goodIn_r _ [23, 24, 65, 66] (by decide +kernel) (by decide +kernel)
set_option maxRecDepth 20000 in
theorem gX3_firstOf_X0_isOfThings : GoodIn wsX3_firstOf (wsV RX3 87 RX0 yX0_isOfThings wsX0_isOfThings) := goodIn_app (goodIn_of _ (by decide +kernel)) ggX3_firstOf_X0_isOfThings
set_option maxRecDepth 20000 in
theorem ggX3_firstOf_X1_find : GoodIn wsX3_firstOf wsX1_find := goodIn_r _ [29, 30, 31, 67, 68] (by decide +kernel) (by decide +kernel)
set_option maxRecDepth 20000 in
theorem gX3_firstOf_X1_find : GoodIn wsX3_firstOf (wsV RX3 54 RX1 yX1_find wsX1_find) := goodIn_app (goodIn_of _ (by decide +kernel)) ggX3_firstOf_X1_find
set_option maxRecDepth 20000 in
theorem ggX3_firstOf_X3_begin : GoodIn wsX3_firstOf wsX3_begin := goodIn_r _ [35, 36, 37, 13, 14, 15, 16, 17, 18, 19, 38, 39, 40, 0, 1, 2, 3, 4, 5, 6, 7, 8, 9, 10, 11, 12, 20, 21, 22, 23, 24, 25, 26, 27, 28, 29, 30, 31, 32, 33, 34, 41, 42, 43, 44, 45, 46, 47, 48, 49, 50, 51, 52, 53, 54, 55, 56, 57, 58, 59, 60, 61, 62, 63, 64, 65, 66, 67, 68, 69, 70, 71, 72] (by decide +kernel) (by decide +kernel)
set_option maxRecDepth 20000 in
theorem gX3_firstOf_X3_begin : GoodIn wsX3_firstOf (wsV RX3 32 RX3 yX3_begin wsX3_begin) := goodIn_app (goodIn_of _ (by decide +kernel)) ggX3_firstOf_X3_begin
theorem dX3_firstOf_0 : decode cX3_firstOf 0 = .ok (.aload_n 1, 1) := by decide +kernel
theorem dX3_firstOf_1 : decode cX3_firstOf 1 = .ok (.iconst 0, 1) := by decide +kernel
theorem dX3_firstOf_2 : decode cX3_firstOf 2 = .ok (.iconst 3, 1) := by decide +kernel
theorem dX3_firstOf_3 : decode cX3_firstOf 3 = .ok (.iconst 0, 1) := by decide +kernel
theorem dX3_firstOf_4 : decode cX3_firstOf 4 = .ok (.invokestatic 77, 3) := by decide +kernel
theorem dX3_firstOf_7 : decode cX3_firstOf 7 = .ok (.istore_n 3, 1) := by decide +kernel
theorem dX3_firstOf_8 : decode cX3_firstOf 8 = .ok (.iload_n 3, 1) := by decide +kernel
theorem dX3_firstOf_9 : decode cX3_firstOf 9 = .ok (.ifCond .eq 10, 3) := by decide +kernel
theorem dX3_firstOf_12 : decode cX3_firstOf 12 = .ok (.aload_n 0, 1) := by decide +kernel
theorem dX3_firstOf_13 : decode cX3_firstOf 13 = .ok (.iload_n 3, 1) := by decide +kernel
theorem dX3_firstOf_14 : decode cX3_firstOf 14 = .ok (.iload_n 2, 1) := by decide +kernel
theorem dX3_firstOf_15 : decode cX3_firstOf 15 = .ok (.invokevirtual 36, 3) := by decide +kernel
theorem dX3_firstOf_18 : decode cX3_firstOf 18 = .ok (.ireturn, 1) := by decide +kernel
theorem dX3_firstOf_19 : decode cX3_firstOf 19 = .ok (.aload_n 1, 1) := by decide +kernel
theorem dX3_firstOf_20 : decode cX3_firstOf 20 = .ok (.getfield 81, 3) := by decide +kernel
theorem dX3_firstOf_23 : decode cX3_firstOf 23 = .ok (.iconst 0, 1) := by decide +kernel
theorem dX3_firstOf_24 : decode cX3_firstOf 24 = .ok (.laload, 1) := by decide +kernel
theorem dX3_firstOf_25 : decode cX3_firstOf 25 = .ok (.l2i, 1) := by decide +kernel
theorem dX3_firstOf_26 : decode cX3_firstOf 26 = .ok (.istore 4, 2) := by decide +kernel
theorem dX3_firstOf_28 : decode cX3_firstOf 28 = .ok (.aload_n 1, 1) := by decide +kernel
theorem dX3_firstOf_29 : decode cX3_firstOf 29 = .ok (.invokevirtual 87, 3) := by decide +kernel
theorem dX3_firstOf_32 : decode cX3_firstOf 32 = .ok (.ifCond .eq 20, 3) := by decide +kernel
theorem dX3_firstOf_35 : decode cX3_firstOf 35 = .ok (.aload_n 0, 1) := by decide +kernel
theorem dX3_firstOf_36 : decode cX3_firstOf 36 = .ok (.aload_n 0, 1) := by decide +kernel
theorem dX3_firstOf_37 : decode cX3_firstOf 37 = .ok (.getfield 9, 3) := by decide +kernel
theorem dX3_firstOf_40 : decode cX3_firstOf 40 = .ok (.iload 4, 2) := by decide +kernel
theorem dX3_firstOf_42 : decode cX3_firstOf 42 = .ok (.invokevirtual 54, 3) := by decide +kernel
theorem dX3_firstOf_45 : decode cX3_firstOf 45 = .ok (.iload_n 2, 1) := by decide +kernel
theorem dX3_firstOf_46 : decode cX3_firstOf 46 = .ok (.invokevirtual 32, 3) := by decide +kernel
theorem dX3_firstOf_49 : decode cX3_firstOf 49 = .ok (.goto 5, 3) := by decide +kernel
theorem dX3_firstOf_52 : decode cX3_firstOf 52 = .ok (.iload 4, 2) := by decide +kernel
theorem dX3_firstOf_54 : decode cX3_firstOf 54 = .ok (.ireturn, 1) := by decide +kernel
set_option maxRecDepth 20000 in
theorem ggX3_sumOf_X3_stop : GoodIn wsX3_sumOf wsX3_stop := goodIn_r _ [7, 8, 9, 12, 13, 14, 15, 16, 17] (by decide +kernel) (by decide +kernel)
set_option maxRecDepth 20000 in
theorem gX3_sumOf_X3_stop : GoodIn wsX3_sumOf (wsV RX3 36 RX3 yX3_stop wsX3_stop) := goodIn_app (goodIn_of _ (by decide +kernel)) ggX3_sumOf_X3_stop
theorem dX3_sumOf_0 : decode cX3_sumOf 0 = .ok (.aload_n 1, 1) := by decide +kernel
theorem dX3_sumOf_1 : decode cX3_sumOf 1 = .ok (.ifnonnull 10, 3) := by decide +kernel
theorem dX3_sumOf_4 : decode cX3_sumOf 4 = .ok (.aload_n 0, 1) := by decide +kernel
theorem dX3_sumOf_5 : decode cX3_sumOf 5 = .ok (.iconst 1, 1) := by decide +kernel
theorem dX3_sumOf_6 : decode cX3_sumOf 6 = .ok (.iload_n 2, 1) := by decide +kernel
theorem dX3_sumOf_7 : decode cX3_sumOf 7 = .ok (.invokevirtual 36, 3) := by decide +kernel
theorem dX3_sumOf_10 : decode cX3_sumOf 10 = .ok (.ireturn, 1) := by decide +kernel
theorem dX3_sumOf_11 : decode cX3_sumOf 11 = .ok (.aload_n 1, 1) := by decide +kernel
theorem dX3_sumOf_12 : decode cX3_sumOf 12 = .ok (.getfield 91, 3) := by decide +kernel
theorem dX3_sumOf_15 : decode cX3_sumOf 15 = .ok (.ifCond .eq 10, 3) := by decide +kernel
theorem dX3_sumOf_18 : decode cX3_sumOf 18 = .ok (.aload_n 0, 1) := by decide +kernel
theorem dX3_sumOf_19 : decode cX3_sumOf 19 = .ok (.iconst 2, 1) := by decide +kernel
theorem dX3_sumOf_20 : decode cX3_sumOf 20 = .ok (.iload_n 2, 1) := by decide +kernel
theorem dX3_sumOf_21 : decode cX3_sumOf 21 = .ok (.invokevirtual 36, 3) := by decide +kernel
theorem dX3_sumOf_24 : decode cX3_sumOf 24 = .ok (.ireturn, 1) := by decide +kernel
theorem dX3_sumOf_25 : decode cX3_sumOf 25 = .ok (.iconst 0, 1) := by decide +kernel
theorem dX3_sumOf_26 : decode cX3_sumOf 26 = .ok (.istore_n 3, 1) := by decide +kernel
theorem dX3_sumOf_27 : decode cX3_sumOf 27 = .ok (.aload_n 1, 1) := by decide +kernel
theorem dX3_sumOf_28 : decode cX3_sumOf 28 = .ok (.getfield 81, 3) := by decide +kernel
theorem dX3_sumOf_31 : decode cX3_sumOf 31 = .ok (.astore 4, 2) := by decide +kernel
theorem dX3_sumOf_33 : decode cX3_sumOf 33 = .ok (.aload 4, 2) := by decide +kernel
theorem dX3_sumOf_35 : decode cX3_sumOf 35 = .ok (.arraylength, 1) := by decide +kernel
theorem dX3_sumOf_36 : decode cX3_sumOf 36 = .ok (.istore 5, 2) := by decide +kernel
theorem dX3_sumOf_38 : decode cX3_sumOf 38 = .ok (.iconst 0, 1) := by decide +kernel
theorem dX3_sumOf_39 : decode cX3_sumOf 39 = .ok (.istore 6, 2) := by decide +kernel
theorem dX3_sumOf_41 : decode cX3_sumOf 41 = .ok (.iload 6, 2) := by decide +kernel
theorem dX3_sumOf_43 : decode cX3_sumOf 43 = .ok (.iload 5, 2) := by decide +kernel
theorem dX3_sumOf_45 : decode cX3_sumOf 45 = .ok (.if_icmp .ge 22, 3) := by decide +kernel
theorem dX3_sumOf_48 : decode cX3_sumOf 48 = .ok (.aload 4, 2) := by decide +kernel
theorem dX3_sumOf_50 : decode cX3_sumOf 50 = .ok (.iload 6, 2) := by decide +kernel
theorem dX3_sumOf_52 : decode cX3_sumOf 52 = .ok (.laload, 1) := by decide +kernel
theorem dX3_sumOf_53 : decode cX3_sumOf 53 = .ok (.lstore 7, 2) := by decide +kernel
theorem dX3_sumOf_55 : decode cX3_sumOf 55 = .ok (.iload_n 3, 1) := by decide +kernel
theorem dX3_sumOf_56 : decode cX3_sumOf 56 = .ok (.lload 7, 2) := by decide +kernel
theorem dX3_sumOf_58 : decode cX3_sumOf 58 = .ok (.l2i, 1) := by decide +kernel
theorem dX3_sumOf_59 : decode cX3_sumOf 59 = .ok (.iadd, 1) := by decide +kernel
theorem dX3_sumOf_60 : decode cX3_sumOf 60 = .ok (.istore_n 3, 1) := by decide +kernel
theorem dX3_sumOf_61 : decode cX3_sumOf 61 = .ok (.iinc 6 1, 3) := by decide +kernel
theorem dX3_sumOf_64 : decode cX3_sumOf 64 = .ok (.goto (-23), 3) := by decide +kernel
theorem dX3_sumOf_67 : decode cX3_sumOf 67 = .ok (.iload_n 3, 1) := by decide +kernel
theorem dX3_sumOf_68 : decode cX3_sumOf 68 = .ok (.ireturn, 1) := by decide +kernel
theorem dX3_stop_0 : decode cX3_stop 0 = .ok (.aload_n 0, 1) := by decide +kernel
theorem dX3_stop_1 : decode cX3_stop 1 = .ok (.iload_n 1, 1) := by decide +kernel
theorem dX3_stop_2 : decode cX3_stop 2 = .ok (.putfield 26, 3) := by decide +kernel
theorem dX3_stop_5 : decode cX3_stop 5 = .ok (.aload_n 0, 1) := by decide +kernel
theorem dX3_stop_6 : decode cX3_stop 6 = .ok (.iload_n 2, 1) := by decide +kernel
theorem dX3_stop_7 : decode cX3_stop 7 = .ok (.putfield 29, 3) := by decide +kernel
theorem dX3_stop_10 : decode cX3_stop 10 = .ok (.iconst 0, 1) := by decide +kernel
theorem dX3_stop_11 : decode cX3_stop 11 = .ok (.ireturn, 1) := by decide +kernel
set_option maxRecDepth 20000 in
theorem ggX4_init_X1_init : GoodIn wsX4_init wsX1_init := goodIn_r _ [16, 17, 2, 3, 18, 19, 25, 26] (by decide +kernel) (by decide +kernel)
set_option maxRecDepth 20000 in
theorem gX4_init_X1_init : GoodIn wsX4_init (wsX1_init) := ggX4_init_X1_init
set_option maxRecDepth 20000 in
theorem ggX4_init_X3_init : GoodIn wsX4_init wsX3_init := goodIn_r _ [22, 23, 2, 3, 24, 32, 33, 34, 35, 36, 37] (by decide +kernel) (by decide +kernel)
set_option maxRecDepth 20000 in
theorem gX4_init_X3_init : GoodIn wsX4_init (wsX3_init) := ggX4_init_X3_init
theorem dX4_init_0 : decode cX4_init 0 = .ok (.aload_n 0, 1) := by decide +kernel
theorem dX4_init_1 : decode cX4_init 1 = .ok (.invokespecial 1, 3) := by decide +kernel
theorem dX4_init_4 : decode cX4_init 4 = .ok (.aload_n 0, 1) := by decide +kernel
theorem dX4_init_5 : decode cX4_init 5 = .ok (.new 7, 3) := by decide +kernel
theorem dX4_init_8 : decode cX4_init 8 = .ok (.dup, 1) := by decide +kernel
theorem dX4_init_9 : decode cX4_init 9 = .ok (.invokespecial 9, 3) := by decide +kernel
theorem dX4_init_12 : decode cX4_init 12 = .ok (.putfield 10, 3) := by decide +kernel
theorem dX4_init_15 : decode cX4_init 15 = .ok (.aload_n 0, 1) := by decide +kernel
theorem dX4_init_16 : decode cX4_init 16 = .ok (.new 16, 3) := by decide +kernel
theorem dX4_init_19 : decode cX4_init 19 = .ok (.dup, 1) := by decide +kernel
theorem dX4_init_20 : decode cX4_init 20 = .ok (.aload_n 0, 1) := by decide +kernel
theorem dX4_init_21 : decode cX4_init 21 = .ok (.getfield 10, 3) := by decide +kernel
theorem dX4_init_24 : decode cX4_init 24 = .ok (.invokespecial 18, 3) := by decide +kernel
theorem dX4_init_27 : decode cX4_init 27 = .ok (.putfield 21, 3) := by decide +kernel
theorem dX4_init_30 : decode cX4_init 30 = .ok (.aload_n 0, 1) := by decide +kernel
theorem dX4_init_31 : decode cX4_init 31 = .ok (.bipush 10, 2) := by decide +kernel
theorem dX4_init_33 : decode cX4_init 33 = .ok (.newarray .int, 2) := by decide +kernel
theorem dX4_init_35 : decode cX4_init 35 = .ok (.putfield 25, 3) := by decide +kernel
theorem dX4_init_38 : decode cX4_init 38 = .ok (.return_, 1) := by decide +kernel
set_option maxRecDepth 20000 in
theorem ggX4_thing_X4_isClass : GoodIn wsX4_thing wsX4_isClass := goodIn_r _ [6] (by decide +kernel) (by decide +kernel)
set_option maxRecDepth 20000 in
theorem gX4_thing_X4_isClass : GoodIn wsX4_thing (va_wsS RX4 29 yX4_isClass wsX4_isClass) := goodIn_app (goodIn_of _ (by decide +kernel)) ggX4_thing_X4_isClass
set_option maxRecDepth 20000 in
theorem ggX4_thing_X1_add : GoodIn wsX4_thing wsX1_add := goodIn_r _ [11, 12, 13, 14, 15, 16, 17, 18, 19, 20, 21, 22, 23, 24, 25, 31, 32, 33, 34, 35, 36] (by decide +kernel) (by decide +kernel)
set_option maxRecDepth 20000 in
theorem gX4_thing_X1_add : GoodIn wsX4_thing (wsV RX4 34 RX1 yX1_add wsX1_add) := goodIn_app (goodIn_of _ (by decide +kernel)) ggX4_thing_X1_add
theorem dX4_thing_0 : decode cX4_thing 0 = .ok (.iload_n 1, 1) := by decide +kernel
theorem dX4_thing_1 : decode cX4_thing 1 = .ok (.invokestatic 29, 3) := by decide +kernel
theorem dX4_thing_4 : decode cX4_thing 4 = .ok (.ifCond .ne 6, 3) := by decide +kernel
theorem dX4_thing_7 : decode cX4_thing 7 = .ok (.ldc 33, 2) := by decide +kernel
theorem dX4_thing_9 : decode cX4_thing 9 = .ok (.ireturn, 1) := by decide +kernel
theorem dX4_thing_10 : decode cX4_thing 10 = .ok (.aload_n 0, 1) := by decide +kernel
theorem dX4_thing_11 : decode cX4_thing 11 = .ok (.getfield 10, 3) := by decide +kernel
theorem dX4_thing_14 : decode cX4_thing 14 = .ok (.iload_n 1, 1) := by decide +kernel
theorem dX4_thing_15 : decode cX4_thing 15 = .ok (.iload_n 2, 1) := by decide +kernel
theorem dX4_thing_16 : decode cX4_thing 16 = .ok (.invokevirtual 34, 3) := by decide +kernel
theorem dX4_thing_19 : decode cX4_thing 19 = .ok (.ireturn, 1) := by decide +kernel
theorem dX4_outcome_0 : decode cX4_outcome 0 = .ok (.aload_n 0, 1) := by decide +kernel
theorem dX4_outcome_1 : decode cX4_outcome 1 = .ok (.getfield 38, 3) := by decide +kernel
theorem dX4_outcome_4 : decode cX4_outcome 4 = .ok (.ireturn, 1) := by decide +kernel
theorem dX4_own_0 : decode cX4_own 0 = .ok (.aload_n 0, 1) := by decide +kernel
theorem dX4_own_1 : decode cX4_own 1 = .ok (.getfield 42, 3) := by decide +kernel
theorem dX4_own_4 : decode cX4_own 4 = .ok (.ireturn, 1) := by decide +kernel
theorem dX4_begun_0 : decode cX4_begun 0 = .ok (.aload_n 0, 1) := by decide +kernel
theorem dX4_begun_1 : decode cX4_begun 1 = .ok (.getfield 21, 3) := by decide +kernel
theorem dX4_begun_4 : decode cX4_begun 4 = .ok (.getfield 45, 3) := by decide +kernel
theorem dX4_begun_7 : decode cX4_begun 7 = .ok (.ireturn, 1) := by decide +kernel
theorem dX4_deep_0 : decode cX4_deep 0 = .ok (.aload_n 0, 1) := by decide +kernel
theorem dX4_deep_1 : decode cX4_deep 1 = .ok (.getfield 21, 3) := by decide +kernel
theorem dX4_deep_4 : decode cX4_deep 4 = .ok (.getfield 48, 3) := by decide +kernel
theorem dX4_deep_7 : decode cX4_deep 7 = .ok (.ireturn, 1) := by decide +kernel
theorem dX4_told_0 : decode cX4_told 0 = .ok (.iload_n 1, 1) := by decide +kernel
theorem dX4_told_1 : decode cX4_told 1 = .ok (.ifCond .lt 9, 3) := by decide +kernel
theorem dX4_told_4 : decode cX4_told 4 = .ok (.iload_n 1, 1) := by decide +kernel
theorem dX4_told_5 : decode cX4_told 5 = .ok (.bipush 9, 2) := by decide +kernel
theorem dX4_told_7 : decode cX4_told 7 = .ok (.if_icmp .le 6, 3) := by decide +kernel
theorem dX4_told_10 : decode cX4_told 10 = .ok (.ldc 33, 2) := by decide +kernel
theorem dX4_told_12 : decode cX4_told 12 = .ok (.ireturn, 1) := by decide +kernel
theorem dX4_told_13 : decode cX4_told 13 = .ok (.aload_n 0, 1) := by decide +kernel
theorem dX4_told_14 : decode cX4_told 14 = .ok (.getfield 25, 3) := by decide +kernel
theorem dX4_told_17 : decode cX4_told 17 = .ok (.iload_n 1, 1) := by decide +kernel
theorem dX4_told_18 : decode cX4_told 18 = .ok (.iaload, 1) := by decide +kernel
theorem dX4_told_19 : decode cX4_told 19 = .ok (.ireturn, 1) := by decide +kernel
set_option maxRecDepth 20000 in
theorem ggX4_cls_X1_find : GoodIn wsX4_cls wsX1_find := goodIn_r _ [8, 9, 10, 20, 21] (by decide +kernel) (by decide +kernel)
set_option maxRecDepth 20000 in
theorem gX4_cls_X1_find : GoodIn wsX4_cls (wsV RX4 51 RX1 yX1_find wsX1_find) := goodIn_app (goodIn_of _ (by decide +kernel)) ggX4_cls_X1_find
theorem dX4_cls_0 : decode cX4_cls 0 = .ok (.aload_n 0, 1) := by decide +kernel
theorem dX4_cls_1 : decode cX4_cls 1 = .ok (.getfield 10, 3) := by decide +kernel
theorem dX4_cls_4 : decode cX4_cls 4 = .ok (.iload_n 1, 1) := by decide +kernel
theorem dX4_cls_5 : decode cX4_cls 5 = .ok (.invokevirtual 51, 3) := by decide +kernel
theorem dX4_cls_8 : decode cX4_cls 8 = .ok (.astore_n 2, 1) := by decide +kernel
theorem dX4_cls_9 : decode cX4_cls 9 = .ok (.aload_n 2, 1) := by decide +kernel
theorem dX4_cls_10 : decode cX4_cls 10 = .ok (.ifnonnull 8, 3) := by decide +kernel
theorem dX4_cls_13 : decode cX4_cls 13 = .ok (.ldc 33, 2) := by decide +kernel
theorem dX4_cls_15 : decode cX4_cls 15 = .ok (.goto 7, 3) := by decide +kernel
theorem dX4_cls_18 : decode cX4_cls 18 = .ok (.aload_n 2, 1) := by decide +kernel
theorem dX4_cls_19 : decode cX4_cls 19 = .ok (.getfield 55, 3) := by decide +kernel
theorem dX4_cls_22 : decode cX4_cls 22 = .ok (.ireturn, 1) := by decide +kernel
set_option maxRecDepth 20000 in
theorem ggX4_is_X1_find : GoodIn wsX4_is wsX1_find := goodIn_r _ [7, 8, 9, 25, 26] (by decide +kernel) (by decide +kernel)
set_option maxRecDepth 20000 in
theorem gX4_is_X1_find : GoodIn wsX4_is (wsV RX4 51 RX1 yX1_find wsX1_find) := goodIn_app (goodIn_of _ (by decide +kernel)) ggX4_is_X1_find
set_option maxRecDepth 20000 in
theorem ggX4_is_X4_isClass : GoodIn wsX4_is wsX4_isClass := goodIn_r _ [13] (by decide +kernel) (by decide +kernel)
set_option maxRecDepth 20000 in
theorem gX4_is_X4_isClass : GoodIn wsX4_is (va_wsS RX4 29 yX4_isClass wsX4_isClass) := goodIn_app (goodIn_of _ (by decide +kernel)) ggX4_is_X4_isClass
set_option maxRecDepth 20000 in
theorem ggX4_is_X2_isOf : GoodIn wsX4_is wsX2_isOf := goodIn_r _ [18, 19, 27, 28, 29, 30] (by decide +kernel) (by decide +kernel)
set_option maxRecDepth 20000 in
theorem gX4_is_X2_isOf : GoodIn wsX4_is (wsV RX4 60 RX2 yX2_isOf wsX2_isOf) := goodIn_app (goodIn_of _ (by decide +kernel)) ggX4_is_X2_isOf
theorem dX4_is_0 : decode cX4_is 0 = .ok (.aload_n 0, 1) := by decide +kernel
theorem dX4_is_1 : decode cX4_is 1 = .ok (.getfield 10, 3) := by decide +kernel
theorem dX4_is_4 : decode cX4_is 4 = .ok (.iload_n 1, 1) := by decide +kernel
theorem dX4_is_5 : decode cX4_is 5 = .ok (.invokevirtual 51, 3) := by decide +kernel
theorem dX4_is_8 : decode cX4_is 8 = .ok (.astore_n 3, 1) := by decide +kernel
theorem dX4_is_9 : decode cX4_is 9 = .ok (.aload_n 3, 1) := by decide +kernel
theorem dX4_is_10 : decode cX4_is 10 = .ok (.ifnull 10, 3) := by decide +kernel
theorem dX4_is_13 : decode cX4_is 13 = .ok (.iload_n 2, 1) := by decide +kernel
theorem dX4_is_14 : decode cX4_is 14 = .ok (.invokestatic 29, 3) := by decide +kernel
theorem dX4_is_17 : decode cX4_is 17 = .ok (.ifCond .ne 6, 3) := by decide +kernel
theorem dX4_is_20 : decode cX4_is 20 = .ok (.ldc 33, 2) := by decide +kernel
theorem dX4_is_22 : decode cX4_is 22 = .ok (.ireturn, 1) := by decide +kernel
theorem dX4_is_23 : decode cX4_is 23 = .ok (.aload_n 3, 1) := by decide +kernel
theorem dX4_is_24 : decode cX4_is 24 = .ok (.iload_n 2, 1) := by decide +kernel
theorem dX4_is_25 : decode cX4_is 25 = .ok (.invokevirtual 60, 3) := by decide +kernel
theorem dX4_is_28 : decode cX4_is 28 = .ok (.ifCond .eq 7, 3) := by decide +kernel
theorem dX4_is_31 : decode cX4_is 31 = .ok (.iconst 1, 1) := by decide +kernel
theorem dX4_is_32 : decode cX4_is 32 = .ok (.goto 4, 3) := by decide +kernel
theorem dX4_is_35 : decode cX4_is 35 = .ok (.iconst 0, 1) := by decide +kernel
theorem dX4_is_36 : decode cX4_is 36 = .ok (.ireturn, 1) := by decide +kernel
set_option maxRecDepth 20000 in
theorem ggX4_v_X1_find : GoodIn wsX4_v wsX1_find := goodIn_r _ [8, 9, 10, 20, 21] (by decide +kernel) (by decide +kernel)
set_option maxRecDepth 20000 in
theorem gX4_v_X1_find : GoodIn wsX4_v (wsV RX4 51 RX1 yX1_find wsX1_find) := goodIn_app (goodIn_of _ (by decide +kernel)) ggX4_v_X1_find
theorem dX4_v_0 : decode cX4_v 0 = .ok (.aload_n 0, 1) := by decide +kernel
theorem dX4_v_1 : decode cX4_v 1 = .ok (.getfield 10, 3) := by decide +kernel
theorem dX4_v_4 : decode cX4_v 4 = .ok (.iload_n 1, 1) := by decide +kernel
theorem dX4_v_5 : decode cX4_v 5 = .ok (.invokevirtual 51, 3) := by decide +kernel
theorem dX4_v_8 : decode cX4_v 8 = .ok (.astore_n 2, 1) := by decide +kernel
theorem dX4_v_9 : decode cX4_v 9 = .ok (.aload_n 2, 1) := by decide +kernel
theorem dX4_v_10 : decode cX4_v 10 = .ok (.ifnonnull 8, 3) := by decide +kernel
theorem dX4_v_13 : decode cX4_v 13 = .ok (.ldc 33, 2) := by decide +kernel
theorem dX4_v_15 : decode cX4_v 15 = .ok (.goto 7, 3) := by decide +kernel
theorem dX4_v_18 : decode cX4_v 18 = .ok (.aload_n 2, 1) := by decide +kernel
theorem dX4_v_19 : decode cX4_v 19 = .ok (.getfield 63, 3) := by decide +kernel
theorem dX4_v_22 : decode cX4_v 22 = .ok (.ireturn, 1) := by decide +kernel
set_option maxRecDepth 20000 in
theorem ggX4_become_X1_find : GoodIn wsX4_become wsX1_find := goodIn_r _ [8, 9, 10, 20, 21] (by decide +kernel) (by decide +kernel)
set_option maxRecDepth 20000 in
theorem gX4_become_X1_find : GoodIn wsX4_become (wsV RX4 51 RX1 yX1_find wsX1_find) := goodIn_app (goodIn_of _ (by decide +kernel)) ggX4_become_X1_find
theorem dX4_become_0 : decode cX4_become 0 = .ok (.aload_n 0, 1) := by decide +kernel
theorem dX4_become_1 : decode cX4_become 1 = .ok (.getfield 10, 3) := by decide +kernel
theorem dX4_become_4 : decode cX4_become 4 = .ok (.iload_n 1, 1) := by decide +kernel
theorem dX4_become_5 : decode cX4_become 5 = .ok (.invokevirtual 51, 3) := by decide +kernel
theorem dX4_become_8 : decode cX4_become 8 = .ok (.astore_n 3, 1) := by decide +kernel
theorem dX4_become_9 : decode cX4_become 9 = .ok (.aload_n 3, 1) := by decide +kernel
theorem dX4_become_10 : decode cX4_become 10 = .ok (.ifnonnull 6, 3) := by decide +kernel
theorem dX4_become_13 : decode cX4_become 13 = .ok (.ldc 33, 2) := by decide +kernel
theorem dX4_become_15 : decode cX4_become 15 = .ok (.ireturn, 1) := by decide +kernel
theorem dX4_become_16 : decode cX4_become 16 = .ok (.aload_n 3, 1) := by decide +kernel
theorem dX4_become_17 : decode cX4_become 17 = .ok (.getfield 63, 3) := by decide +kernel
theorem dX4_become_20 : decode cX4_become 20 = .ok (.istore 4, 2) := by decide +kernel
theorem dX4_become_22 : decode cX4_become 22 = .ok (.aload_n 3, 1) := by decide +kernel
theorem dX4_become_23 : decode cX4_become 23 = .ok (.iload_n 2, 1) := by decide +kernel
theorem dX4_become_24 : decode cX4_become 24 = .ok (.putfield 63, 3) := by decide +kernel
theorem dX4_become_27 : decode cX4_become 27 = .ok (.iload 4, 2) := by decide +kernel
theorem dX4_become_29 : decode cX4_become 29 = .ok (.ireturn, 1) := by decide +kernel
set_option maxRecDepth 20000 in
theorem ggX4_link_X1_find : GoodIn wsX4_link wsX1_find := goodIn_r _ [8, 9, 10, 25, 26] (by decide +kernel) (by decide +kernel)
set_option maxRecDepth 20000 in
theorem gX4_link_X1_find : GoodIn wsX4_link (wsV RX4 51 RX1 yX1_find wsX1_find) := goodIn_app (goodIn_of _ (by decide +kernel)) ggX4_link_X1_find
set_option maxRecDepth 20000 in
theorem ggX4_link_X1_hasOrNone : GoodIn wsX4_link wsX1_hasOrNone := goodIn_r _ [14, 15, 5, 6, 7, 8, 9, 10, 25, 26] (by decide +kernel) (by decide +kernel)
set_option maxRecDepth 20000 in
theorem gX4_link_X1_hasOrNone : GoodIn wsX4_link (wsV RX4 66 RX1 yX1_hasOrNone wsX1_hasOrNone) := goodIn_app (goodIn_of _ (by decide +kernel)) ggX4_link_X1_hasOrNone
theorem dX4_link_0 : decode cX4_link 0 = .ok (.aload_n 0, 1) := by decide +kernel
theorem dX4_link_1 : decode cX4_link 1 = .ok (.getfield 10, 3) := by decide +kernel
theorem dX4_link_4 : decode cX4_link 4 = .ok (.iload_n 1, 1) := by decide +kernel
theorem dX4_link_5 : decode cX4_link 5 = .ok (.invokevirtual 51, 3) := by decide +kernel
theorem dX4_link_8 : decode cX4_link 8 = .ok (.astore_n 3, 1) := by decide +kernel
theorem dX4_link_9 : decode cX4_link 9 = .ok (.aload_n 3, 1) := by decide +kernel
theorem dX4_link_10 : decode cX4_link 10 = .ok (.ifnull 14, 3) := by decide +kernel
theorem dX4_link_13 : decode cX4_link 13 = .ok (.aload_n 0, 1) := by decide +kernel
theorem dX4_link_14 : decode cX4_link 14 = .ok (.getfield 10, 3) := by decide +kernel
theorem dX4_link_17 : decode cX4_link 17 = .ok (.iload_n 2, 1) := by decide +kernel
theorem dX4_link_18 : decode cX4_link 18 = .ok (.invokevirtual 66, 3) := by decide +kernel
theorem dX4_link_21 : decode cX4_link 21 = .ok (.ifCond .ne 6, 3) := by decide +kernel
theorem dX4_link_24 : decode cX4_link 24 = .ok (.ldc 33, 2) := by decide +kernel
theorem dX4_link_26 : decode cX4_link 26 = .ok (.ireturn, 1) := by decide +kernel
theorem dX4_link_27 : decode cX4_link 27 = .ok (.aload_n 3, 1) := by decide +kernel
theorem dX4_link_28 : decode cX4_link 28 = .ok (.getfield 69, 3) := by decide +kernel
theorem dX4_link_31 : decode cX4_link 31 = .ok (.istore 4, 2) := by decide +kernel
theorem dX4_link_33 : decode cX4_link 33 = .ok (.aload_n 3, 1) := by decide +kernel
theorem dX4_link_34 : decode cX4_link 34 = .ok (.iload_n 2, 1) := by decide +kernel
theorem dX4_link_35 : decode cX4_link 35 = .ok (.putfield 69, 3) := by decide +kernel
theorem dX4_link_38 : decode cX4_link 38 = .ok (.iload 4, 2) := by decide +kernel
theorem dX4_link_40 : decode cX4_link 40 = .ok (.ireturn, 1) := by decide +kernel
set_option maxRecDepth 20000 in
theorem ggX4_linked_X1_find : GoodIn wsX4_linked wsX1_find := goodIn_r _ [8, 9, 10, 20, 21] (by decide +kernel) (by decide +kernel)
set_option maxRecDepth 20000 in
theorem gX4_linked_X1_find : GoodIn wsX4_linked (wsV RX4 51 RX1 yX1_find wsX1_find) := goodIn_app (goodIn_of _ (by decide +kernel)) ggX4_linked_X1_find
theorem dX4_linked_0 : decode cX4_linked 0 = .ok (.aload_n 0, 1) := by decide +kernel
theorem dX4_linked_1 : decode cX4_linked 1 = .ok (.getfield 10, 3) := by decide +kernel
theorem dX4_linked_4 : decode cX4_linked 4 = .ok (.iload_n 1, 1) := by decide +kernel
theorem dX4_linked_5 : decode cX4_linked 5 = .ok (.invokevirtual 51, 3) := by decide +kernel
theorem dX4_linked_8 : decode cX4_linked 8 = .ok (.astore_n 2, 1) := by decide +kernel
theorem dX4_linked_9 : decode cX4_linked 9 = .ok (.aload_n 2, 1) := by decide +kernel
theorem dX4_linked_10 : decode cX4_linked 10 = .ok (.ifnonnull 8, 3) := by decide +kernel
theorem dX4_linked_13 : decode cX4_linked 13 = .ok (.ldc 33, 2) := by decide +kernel
theorem dX4_linked_15 : decode cX4_linked 15 = .ok (.goto 7, 3) := by decide +kernel
theorem dX4_linked_18 : decode cX4_linked 18 = .ok (.aload_n 2, 1) := by decide +kernel
theorem dX4_linked_19 : decode cX4_linked 19 = .ok (.getfield 69, 3) := by decide +kernel
theorem dX4_linked_22 : decode cX4_linked 22 = .ok (.ireturn, 1) := by decide +kernel
set_option maxRecDepth 20000 in
theorem ggX4_follow_X1_find : GoodIn wsX4_follow wsX1_find := goodIn_r _ [8, 9, 10, 34, 35] (by decide +kernel) (by decide +kernel)
set_option maxRecDepth 20000 in
theorem gX4_follow_X1_find : GoodIn wsX4_follow (wsV RX4 51 RX1 yX1_find wsX1_find) := goodIn_app (goodIn_of _ (by decide +kernel)) ggX4_follow_X1_find
set_option maxRecDepth 20000 in
theorem ggX4_follow_X4_refuse : GoodIn wsX4_follow wsX4_refuse := goodIn_r _ [15, 16, 17, 18, 14, 19, 20, 21, 22, 23, 24, 25, 26, 27, 28, 29, 36, 37, 38, 39, 40, 41] (by decide +kernel) (by decide +kernel)
set_option maxRecDepth 20000 in
theorem gX4_follow_X4_refuse : GoodIn wsX4_follow (wsV RX4 72 RX4 yX4_refuse wsX4_refuse) := goodIn_app (goodIn_of _ (by decide +kernel)) ggX4_follow_X4_refuse
set_option maxRecDepth 20000 in
theorem ggX4_follow_X4_tell : GoodIn wsX4_follow wsX4_tell := goodIn_r _ [19, 20, 21, 22, 23, 24, 25, 26, 27, 28, 29, 36, 37, 38, 39, 40, 41] (by decide +kernel) (by decide +kernel)
set_option maxRecDepth 20000 in
theorem gX4_follow_X4_tell : GoodIn wsX4_follow (wsV RX4 76 RX4 yX4_tell wsX4_tell) := goodIn_app (goodIn_of _ (by decide +kernel)) ggX4_follow_X4_tell
theorem dX4_follow_0 : decode cX4_follow 0 = .ok (.aload_n 0, 1) := by decide +kernel
theorem dX4_follow_1 : decode cX4_follow 1 = .ok (.getfield 10, 3) := by decide +kernel
theorem dX4_follow_4 : decode cX4_follow 4 = .ok (.iload_n 1, 1) := by decide +kernel
theorem dX4_follow_5 : decode cX4_follow 5 = .ok (.invokevirtual 51, 3) := by decide +kernel
theorem dX4_follow_8 : decode cX4_follow 8 = .ok (.astore_n 2, 1) := by decide +kernel
theorem dX4_follow_9 : decode cX4_follow 9 = .ok (.aload_n 2, 1) := by decide +kernel
theorem dX4_follow_10 : decode cX4_follow 10 = .ok (.ifnonnull 6, 3) := by decide +kernel
theorem dX4_follow_13 : decode cX4_follow 13 = .ok (.ldc 33, 2) := by decide +kernel
theorem dX4_follow_15 : decode cX4_follow 15 = .ok (.ireturn, 1) := by decide +kernel
theorem dX4_follow_16 : decode cX4_follow 16 = .ok (.aload_n 0, 1) := by decide +kernel
theorem dX4_follow_17 : decode cX4_follow 17 = .ok (.getfield 10, 3) := by decide +kernel
theorem dX4_follow_20 : decode cX4_follow 20 = .ok (.aload_n 2, 1) := by decide +kernel
theorem dX4_follow_21 : decode cX4_follow 21 = .ok (.getfield 69, 3) := by decide +kernel
theorem dX4_follow_24 : decode cX4_follow 24 = .ok (.invokevirtual 51, 3) := by decide +kernel
theorem dX4_follow_27 : decode cX4_follow 27 = .ok (.astore_n 3, 1) := by decide +kernel
theorem dX4_follow_28 : decode cX4_follow 28 = .ok (.aload_n 3, 1) := by decide +kernel
theorem dX4_follow_29 : decode cX4_follow 29 = .ok (.ifnonnull 9, 3) := by decide +kernel
theorem dX4_follow_32 : decode cX4_follow 32 = .ok (.aload_n 0, 1) := by decide +kernel
theorem dX4_follow_33 : decode cX4_follow 33 = .ok (.iconst 1, 1) := by decide +kernel
theorem dX4_follow_34 : decode cX4_follow 34 = .ok (.invokevirtual 72, 3) := by decide +kernel
theorem dX4_follow_37 : decode cX4_follow 37 = .ok (.ireturn, 1) := by decide +kernel
theorem dX4_follow_38 : decode cX4_follow 38 = .ok (.aload_n 0, 1) := by decide +kernel
theorem dX4_follow_39 : decode cX4_follow 39 = .ok (.iconst 0, 1) := by decide +kernel
theorem dX4_follow_40 : decode cX4_follow 40 = .ok (.invokevirtual 76, 3) := by decide +kernel
theorem dX4_follow_43 : decode cX4_follow 43 = .ok (.pop, 1) := by decide +kernel
theorem dX4_follow_44 : decode cX4_follow 44 = .ok (.aload_n 2, 1) := by decide +kernel
theorem dX4_follow_45 : decode cX4_follow 45 = .ok (.aload_n 3, 1) := by decide +kernel
theorem dX4_follow_46 : decode cX4_follow 46 = .ok (.getfield 69, 3) := by decide +kernel
theorem dX4_follow_49 : decode cX4_follow 49 = .ok (.putfield 69, 3) := by decide +kernel
theorem dX4_follow_52 : decode cX4_follow 52 = .ok (.aload_n 2, 1) := by decide +kernel
theorem dX4_follow_53 : decode cX4_follow 53 = .ok (.getfield 69, 3) := by decide +kernel
theorem dX4_follow_56 : decode cX4_follow 56 = .ok (.ireturn, 1) := by decide +kernel
set_option maxRecDepth 20000 in
theorem ggX4_trade_X1_find : GoodIn wsX4_trade wsX1_find := goodIn_r _ [9, 10, 11, 35, 36] (by decide +kernel) (by decide +kernel)
set_option maxRecDepth 20000 in
theorem gX4_trade_X1_find : GoodIn wsX4_trade (wsV RX4 51 RX1 yX1_find wsX1_find) := goodIn_app (goodIn_of _ (by decide +kernel)) ggX4_trade_X1_find
set_option maxRecDepth 20000 in
theorem ggX4_trade_X4_refuse : GoodIn wsX4_trade wsX4_refuse := goodIn_r _ [16, 17, 18, 19, 15, 20, 21, 22, 23, 24, 25, 26, 27, 28, 29, 30, 37, 38, 39, 40, 41, 42] (by decide +kernel) (by decide +kernel)
