set_option maxRecDepth 20000 in
theorem ggX2_init_X1_init : GoodIn wsX2_init wsX1_init := goodIn_r _ [9, 10, 2, 3, 11, 12, 13, 14, 15, 16, 17, 18, 19, 20, 21, 22, 23, 24, 25, 26, 27, 28, 29, 30, 31, 32, 33, 34, 35, 36, 37, 38, 39, 40, 41, 42, 43, 44, 45, 46, 47, 48, 49, 53, 54, 55, 56, 57, 58, 59, 60, 61, 62, 63, 64, 65, 66, 67, 68, 69, 70, 71, 72, 73, 74, 75, 76, 77] (by decide +kernel) (by decide +kernel)
set_option maxRecDepth 20000 in
theorem gX2_init_X1_init_n17 : GoodIn wsX2_init (wsX1_init) := ggX2_init_X1_init
theorem dX2_init_0 : decode cX2_init 0 = .ok (.aload_n 0, 1) := by decide +kernel
theorem dX2_init_1 : decode cX2_init 1 = .ok (.invokespecial 3, 3) := by decide +kernel
theorem dX2_init_4 : decode cX2_init 4 = .ok (.aload_n 0, 1) := by decide +kernel
theorem dX2_init_5 : decode cX2_init 5 = .ok (.bipush 7, 2) := by decide +kernel
theorem dX2_init_7 : decode cX2_init 7 = .ok (.anewarray 9, 3) := by decide +kernel
theorem dX2_init_10 : decode cX2_init 10 = .ok (.putfield 11, 3) := by decide +kernel
theorem dX2_init_13 : decode cX2_init 13 = .ok (.iconst 0, 1) := by decide +kernel
theorem dX2_init_14 : decode cX2_init 14 = .ok (.istore_n 1, 1) := by decide +kernel
theorem dX2_init_15 : decode cX2_init 15 = .ok (.iload_n 1, 1) := by decide +kernel
theorem dX2_init_16 : decode cX2_init 16 = .ok (.aload_n 0, 1) := by decide +kernel
theorem dX2_init_17 : decode cX2_init 17 = .ok (.getfield 11, 3) := by decide +kernel
theorem dX2_init_20 : decode cX2_init 20 = .ok (.arraylength, 1) := by decide +kernel
theorem dX2_init_21 : decode cX2_init 21 = .ok (.if_icmp .ge 22, 3) := by decide +kernel
theorem dX2_init_24 : decode cX2_init 24 = .ok (.aload_n 0, 1) := by decide +kernel
theorem dX2_init_25 : decode cX2_init 25 = .ok (.getfield 11, 3) := by decide +kernel
theorem dX2_init_28 : decode cX2_init 28 = .ok (.iload_n 1, 1) := by decide +kernel
theorem dX2_init_29 : decode cX2_init 29 = .ok (.new 9, 3) := by decide +kernel
theorem dX2_init_32 : decode cX2_init 32 = .ok (.dup, 1) := by decide +kernel
theorem dX2_init_33 : decode cX2_init 33 = .ok (.invokespecial 17, 3) := by decide +kernel
theorem dX2_init_36 : decode cX2_init 36 = .ok (.aastore, 1) := by decide +kernel
theorem dX2_init_37 : decode cX2_init 37 = .ok (.iinc 1 1, 3) := by decide +kernel
theorem dX2_init_40 : decode cX2_init 40 = .ok (.goto (-25), 3) := by decide +kernel
theorem dX2_init_43 : decode cX2_init 43 = .ok (.return_, 1) := by decide +kernel
set_option maxRecDepth 20000 in
theorem ggX2_prepare_X2_stateAt : GoodIn wsX2_prepare wsX2_stateAt := goodIn_r _ [6, 7, 59, 60, 61] (by decide +kernel) (by decide +kernel)
set_option maxRecDepth 20000 in
theorem gX2_prepare_X2_stateAt : GoodIn wsX2_prepare (wsV RX2 22 RX2 yX2_stateAt wsX2_stateAt) := goodIn_app (goodIn_of _ (by decide +kernel)) ggX2_prepare_X2_stateAt
set_option maxRecDepth 20000 in
theorem ggX2_prepare_X1_copyFrom : GoodIn wsX2_prepare wsX1_copyFrom := goodIn_r _ [12, 13, 14, 15, 16, 17, 18, 19, 20, 21, 22, 23, 24, 25, 26, 27, 28, 29, 30, 31, 32, 33, 34, 35, 36, 37, 38, 39, 40, 41, 42, 43, 44, 45, 46, 47, 48, 49, 50, 51, 52, 53, 54, 55, 56, 57, 58, 62, 63, 64, 65, 66, 67, 68, 69, 70, 71, 72, 73, 74, 75, 76, 77, 78, 79, 80, 81, 82, 83, 84, 85, 86] (by decide +kernel) (by decide +kernel)
set_option maxRecDepth 20000 in
theorem gX2_prepare_X1_copyFrom : GoodIn wsX2_prepare (wsV RX2 26 RX1 yX1_copyFrom wsX1_copyFrom) := goodIn_app (goodIn_of _ (by decide +kernel)) ggX2_prepare_X1_copyFrom
theorem dX2_prepare_0 : decode cX2_prepare 0 = .ok (.aload_n 0, 1) := by decide +kernel
theorem dX2_prepare_1 : decode cX2_prepare 1 = .ok (.aload_n 0, 1) := by decide +kernel
theorem dX2_prepare_2 : decode cX2_prepare 2 = .ok (.getfield 18, 3) := by decide +kernel
theorem dX2_prepare_5 : decode cX2_prepare 5 = .ok (.invokevirtual 22, 3) := by decide +kernel
theorem dX2_prepare_8 : decode cX2_prepare 8 = .ok (.astore_n 2, 1) := by decide +kernel
theorem dX2_prepare_9 : decode cX2_prepare 9 = .ok (.aload_n 2, 1) := by decide +kernel
theorem dX2_prepare_10 : decode cX2_prepare 10 = .ok (.ifnull 8, 3) := by decide +kernel
theorem dX2_prepare_13 : decode cX2_prepare 13 = .ok (.aload_n 2, 1) := by decide +kernel
theorem dX2_prepare_14 : decode cX2_prepare 14 = .ok (.aload_n 1, 1) := by decide +kernel
theorem dX2_prepare_15 : decode cX2_prepare 15 = .ok (.invokevirtual 26, 3) := by decide +kernel
theorem dX2_prepare_18 : decode cX2_prepare 18 = .ok (.return_, 1) := by decide +kernel
theorem dX2_settle_0 : decode cX2_settle 0 = .ok (.iload_n 1, 1) := by decide +kernel
theorem dX2_settle_1 : decode cX2_settle 1 = .ok (.ifCond .ge 5, 3) := by decide +kernel
theorem dX2_settle_4 : decode cX2_settle 4 = .ok (.iload_n 1, 1) := by decide +kernel
theorem dX2_settle_5 : decode cX2_settle 5 = .ok (.ireturn, 1) := by decide +kernel
theorem dX2_settle_6 : decode cX2_settle 6 = .ok (.aload_n 0, 1) := by decide +kernel
theorem dX2_settle_7 : decode cX2_settle 7 = .ok (.aload_n 0, 1) := by decide +kernel
theorem dX2_settle_8 : decode cX2_settle 8 = .ok (.getfield 18, 3) := by decide +kernel
theorem dX2_settle_11 : decode cX2_settle 11 = .ok (.iconst 1, 1) := by decide +kernel
theorem dX2_settle_12 : decode cX2_settle 12 = .ok (.iadd, 1) := by decide +kernel
theorem dX2_settle_13 : decode cX2_settle 13 = .ok (.aload_n 0, 1) := by decide +kernel
theorem dX2_settle_14 : decode cX2_settle 14 = .ok (.getfield 11, 3) := by decide +kernel
theorem dX2_settle_17 : decode cX2_settle 17 = .ok (.arraylength, 1) := by decide +kernel
theorem dX2_settle_18 : decode cX2_settle 18 = .ok (.if_icmp .ge 12, 3) := by decide +kernel
theorem dX2_settle_21 : decode cX2_settle 21 = .ok (.aload_n 0, 1) := by decide +kernel
theorem dX2_settle_22 : decode cX2_settle 22 = .ok (.getfield 18, 3) := by decide +kernel
theorem dX2_settle_25 : decode cX2_settle 25 = .ok (.iconst 1, 1) := by decide +kernel
theorem dX2_settle_26 : decode cX2_settle 26 = .ok (.iadd, 1) := by decide +kernel
theorem dX2_settle_27 : decode cX2_settle 27 = .ok (.goto 4, 3) := by decide +kernel
theorem dX2_settle_30 : decode cX2_settle 30 = .ok (.iconst 0, 1) := by decide +kernel
theorem dX2_settle_31 : decode cX2_settle 31 = .ok (.putfield 18, 3) := by decide +kernel
theorem dX2_settle_34 : decode cX2_settle 34 = .ok (.aload_n 0, 1) := by decide +kernel
theorem dX2_settle_35 : decode cX2_settle 35 = .ok (.aload_n 0, 1) := by decide +kernel
theorem dX2_settle_36 : decode cX2_settle 36 = .ok (.getfield 30, 3) := by decide +kernel
theorem dX2_settle_39 : decode cX2_settle 39 = .ok (.iconst 1, 1) := by decide +kernel
theorem dX2_settle_40 : decode cX2_settle 40 = .ok (.iadd, 1) := by decide +kernel
theorem dX2_settle_41 : decode cX2_settle 41 = .ok (.bipush 6, 2) := by decide +kernel
theorem dX2_settle_43 : decode cX2_settle 43 = .ok (.invokestatic 33, 3) := by decide +kernel
theorem dX2_settle_46 : decode cX2_settle 46 = .ok (.putfield 30, 3) := by decide +kernel
theorem dX2_settle_49 : decode cX2_settle 49 = .ok (.iload_n 1, 1) := by decide +kernel
theorem dX2_settle_50 : decode cX2_settle 50 = .ok (.ireturn, 1) := by decide +kernel
set_option maxRecDepth 20000 in
theorem ggX2_stepBack_X2_stateAt : GoodIn wsX2_stepBack wsX2_stateAt := goodIn_r _ [8, 3, 60, 61, 62] (by decide +kernel) (by decide +kernel)
set_option maxRecDepth 20000 in
theorem gX2_stepBack_X2_stateAt : GoodIn wsX2_stepBack (wsV RX2 22 RX2 yX2_stateAt wsX2_stateAt) := goodIn_app (goodIn_of _ (by decide +kernel)) ggX2_stepBack_X2_stateAt
set_option maxRecDepth 20000 in
theorem ggX2_stepBack_X1_copyFrom : GoodIn wsX2_stepBack wsX1_copyFrom := goodIn_r _ [13, 14, 15, 16, 17, 18, 19, 20, 21, 22, 23, 24, 25, 26, 27, 28, 29, 30, 31, 32, 33, 34, 35, 36, 37, 38, 39, 40, 41, 42, 43, 44, 45, 46, 47, 48, 49, 50, 51, 52, 53, 54, 55, 56, 57, 58, 59, 63, 64, 65, 66, 67, 68, 69, 70, 71, 72, 73, 74, 75, 76, 77, 78, 79, 80, 81, 82, 83, 84, 85, 86, 87] (by decide +kernel) (by decide +kernel)
set_option maxRecDepth 20000 in
theorem gX2_stepBack_X1_copyFrom : GoodIn wsX2_stepBack (wsV RX2 26 RX1 yX1_copyFrom wsX1_copyFrom) := goodIn_app (goodIn_of _ (by decide +kernel)) ggX2_stepBack_X1_copyFrom
theorem dX2_stepBack_0 : decode cX2_stepBack 0 = .ok (.aload_n 0, 1) := by decide +kernel
theorem dX2_stepBack_1 : decode cX2_stepBack 1 = .ok (.getfield 30, 3) := by decide +kernel
theorem dX2_stepBack_4 : decode cX2_stepBack 4 = .ok (.ifCond .gt 6, 3) := by decide +kernel
theorem dX2_stepBack_7 : decode cX2_stepBack 7 = .ok (.bipush (-5), 2) := by decide +kernel
theorem dX2_stepBack_9 : decode cX2_stepBack 9 = .ok (.ireturn, 1) := by decide +kernel
theorem dX2_stepBack_10 : decode cX2_stepBack 10 = .ok (.aload_n 0, 1) := by decide +kernel
theorem dX2_stepBack_11 : decode cX2_stepBack 11 = .ok (.aload_n 0, 1) := by decide +kernel
theorem dX2_stepBack_12 : decode cX2_stepBack 12 = .ok (.getfield 18, 3) := by decide +kernel
theorem dX2_stepBack_15 : decode cX2_stepBack 15 = .ok (.ifCond .le 12, 3) := by decide +kernel
theorem dX2_stepBack_18 : decode cX2_stepBack 18 = .ok (.aload_n 0, 1) := by decide +kernel
theorem dX2_stepBack_19 : decode cX2_stepBack 19 = .ok (.getfield 18, 3) := by decide +kernel
theorem dX2_stepBack_22 : decode cX2_stepBack 22 = .ok (.iconst 1, 1) := by decide +kernel
theorem dX2_stepBack_23 : decode cX2_stepBack 23 = .ok (.isub, 1) := by decide +kernel
theorem dX2_stepBack_24 : decode cX2_stepBack 24 = .ok (.goto 10, 3) := by decide +kernel
theorem dX2_stepBack_27 : decode cX2_stepBack 27 = .ok (.aload_n 0, 1) := by decide +kernel
theorem dX2_stepBack_28 : decode cX2_stepBack 28 = .ok (.getfield 11, 3) := by decide +kernel
theorem dX2_stepBack_31 : decode cX2_stepBack 31 = .ok (.arraylength, 1) := by decide +kernel
theorem dX2_stepBack_32 : decode cX2_stepBack 32 = .ok (.iconst 1, 1) := by decide +kernel
theorem dX2_stepBack_33 : decode cX2_stepBack 33 = .ok (.isub, 1) := by decide +kernel
theorem dX2_stepBack_34 : decode cX2_stepBack 34 = .ok (.putfield 18, 3) := by decide +kernel
theorem dX2_stepBack_37 : decode cX2_stepBack 37 = .ok (.aload_n 0, 1) := by decide +kernel
theorem dX2_stepBack_38 : decode cX2_stepBack 38 = .ok (.dup, 1) := by decide +kernel
theorem dX2_stepBack_39 : decode cX2_stepBack 39 = .ok (.getfield 30, 3) := by decide +kernel
theorem dX2_stepBack_42 : decode cX2_stepBack 42 = .ok (.iconst 1, 1) := by decide +kernel
theorem dX2_stepBack_43 : decode cX2_stepBack 43 = .ok (.isub, 1) := by decide +kernel
theorem dX2_stepBack_44 : decode cX2_stepBack 44 = .ok (.putfield 30, 3) := by decide +kernel
theorem dX2_stepBack_47 : decode cX2_stepBack 47 = .ok (.aload_n 0, 1) := by decide +kernel
theorem dX2_stepBack_48 : decode cX2_stepBack 48 = .ok (.aload_n 0, 1) := by decide +kernel
theorem dX2_stepBack_49 : decode cX2_stepBack 49 = .ok (.getfield 18, 3) := by decide +kernel
theorem dX2_stepBack_52 : decode cX2_stepBack 52 = .ok (.invokevirtual 22, 3) := by decide +kernel
theorem dX2_stepBack_55 : decode cX2_stepBack 55 = .ok (.astore_n 2, 1) := by decide +kernel
theorem dX2_stepBack_56 : decode cX2_stepBack 56 = .ok (.aload_n 2, 1) := by decide +kernel
theorem dX2_stepBack_57 : decode cX2_stepBack 57 = .ok (.ifnull 8, 3) := by decide +kernel
theorem dX2_stepBack_60 : decode cX2_stepBack 60 = .ok (.aload_n 1, 1) := by decide +kernel
theorem dX2_stepBack_61 : decode cX2_stepBack 61 = .ok (.aload_n 2, 1) := by decide +kernel
theorem dX2_stepBack_62 : decode cX2_stepBack 62 = .ok (.invokevirtual 26, 3) := by decide +kernel
theorem dX2_stepBack_65 : decode cX2_stepBack 65 = .ok (.aload_n 0, 1) := by decide +kernel
theorem dX2_stepBack_66 : decode cX2_stepBack 66 = .ok (.getfield 30, 3) := by decide +kernel
theorem dX2_stepBack_69 : decode cX2_stepBack 69 = .ok (.ireturn, 1) := by decide +kernel
theorem dX2_stateAt_0 : decode cX2_stateAt 0 = .ok (.iload_n 1, 1) := by decide +kernel
theorem dX2_stateAt_1 : decode cX2_stateAt 1 = .ok (.ifCond .lt 21, 3) := by decide +kernel
theorem dX2_stateAt_4 : decode cX2_stateAt 4 = .ok (.iload_n 1, 1) := by decide +kernel
theorem dX2_stateAt_5 : decode cX2_stateAt 5 = .ok (.aload_n 0, 1) := by decide +kernel
theorem dX2_stateAt_6 : decode cX2_stateAt 6 = .ok (.getfield 11, 3) := by decide +kernel
theorem dX2_stateAt_9 : decode cX2_stateAt 9 = .ok (.arraylength, 1) := by decide +kernel
theorem dX2_stateAt_10 : decode cX2_stateAt 10 = .ok (.if_icmp .ge 12, 3) := by decide +kernel
theorem dX2_stateAt_13 : decode cX2_stateAt 13 = .ok (.aload_n 0, 1) := by decide +kernel
theorem dX2_stateAt_14 : decode cX2_stateAt 14 = .ok (.getfield 11, 3) := by decide +kernel
theorem dX2_stateAt_17 : decode cX2_stateAt 17 = .ok (.iload_n 1, 1) := by decide +kernel
theorem dX2_stateAt_18 : decode cX2_stateAt 18 = .ok (.aaload, 1) := by decide +kernel
theorem dX2_stateAt_19 : decode cX2_stateAt 19 = .ok (.goto 4, 3) := by decide +kernel
theorem dX2_stateAt_22 : decode cX2_stateAt 22 = .ok (.aconst_null, 1) := by decide +kernel
theorem dX2_stateAt_23 : decode cX2_stateAt 23 = .ok (.areturn, 1) := by decide +kernel
set_option maxRecDepth 20000 in
theorem ggX3_init_X4_init : GoodIn wsX3_init wsX4_init := goodIn_r _ [9, 10, 2, 3, 11, 12, 13, 14] (by decide +kernel) (by decide +kernel)
set_option maxRecDepth 20000 in
theorem gX3_init_X4_init_n11 : GoodIn wsX3_init (wsX4_init) := ggX3_init_X4_init
theorem dX3_init_0 : decode cX3_init 0 = .ok (.aload_n 0, 1) := by decide +kernel
theorem dX3_init_1 : decode cX3_init 1 = .ok (.invokespecial 3, 3) := by decide +kernel
theorem dX3_init_4 : decode cX3_init 4 = .ok (.aload_n 0, 1) := by decide +kernel
theorem dX3_init_5 : decode cX3_init 5 = .ok (.new 9, 3) := by decide +kernel
theorem dX3_init_8 : decode cX3_init 8 = .ok (.dup, 1) := by decide +kernel
theorem dX3_init_9 : decode cX3_init 9 = .ok (.invokespecial 11, 3) := by decide +kernel
theorem dX3_init_12 : decode cX3_init 12 = .ok (.putfield 12, 3) := by decide +kernel
theorem dX3_init_15 : decode cX3_init 15 = .ok (.return_, 1) := by decide +kernel
theorem dX3_start_0 : decode cX3_start 0 = .ok (.aload_n 0, 1) := by decide +kernel
theorem dX3_start_1 : decode cX3_start 1 = .ok (.iconst 0, 1) := by decide +kernel
theorem dX3_start_2 : decode cX3_start 2 = .ok (.putfield 18, 3) := by decide +kernel
theorem dX3_start_5 : decode cX3_start 5 = .ok (.aload_n 0, 1) := by decide +kernel
theorem dX3_start_6 : decode cX3_start 6 = .ok (.iconst 0, 1) := by decide +kernel
theorem dX3_start_7 : decode cX3_start 7 = .ok (.putfield 22, 3) := by decide +kernel
theorem dX3_start_10 : decode cX3_start 10 = .ok (.return_, 1) := by decide +kernel
set_option maxRecDepth 20000 in
theorem ggX3_findFault_X3_start : GoodIn wsX3_findFault wsX3_start := goodIn_r _ [8, 2, 1, 44, 45, 46, 47, 48, 49, 50, 51] (by decide +kernel) (by decide +kernel)
set_option maxRecDepth 20000 in
theorem gX3_findFault_X3_start : GoodIn wsX3_findFault (wsV RX3 26 RX3 yX3_start wsX3_start) := goodIn_app (goodIn_of _ (by decide +kernel)) ggX3_findFault_X3_start
set_option maxRecDepth 20000 in
theorem ggX3_findFault_X3_readOrder : GoodIn wsX3_findFault wsX3_readOrder := goodIn_r _ [12, 3, 2, 13, 14, 15, 16, 17, 18, 19, 20, 21, 22, 23, 24, 25, 26, 27, 7, 28, 1, 29, 30, 31, 32, 33, 34, 35, 36, 37, 38, 39, 40, 41, 42, 43, 44, 45, 46, 47, 48, 49, 50, 51, 52, 53] (by decide +kernel) (by decide +kernel)
set_option maxRecDepth 20000 in
theorem gX3_findFault_X3_readOrder : GoodIn wsX3_findFault (wsV RX3 29 RX3 yX3_readOrder wsX3_readOrder) := goodIn_app (goodIn_of _ (by decide +kernel)) ggX3_findFault_X3_readOrder
set_option maxRecDepth 20000 in
theorem ggX3_findFault_X3_take : GoodIn wsX3_findFault wsX3_take := goodIn_r _ [28, 1, 3, 2, 18, 19, 20, 21, 22, 23, 24, 44, 45, 46, 47, 48, 49, 50, 51, 52, 53] (by decide +kernel) (by decide +kernel)
set_option maxRecDepth 20000 in
theorem gX3_findFault_X3_take : GoodIn wsX3_findFault (wsV RX3 32 RX3 yX3_take wsX3_take) := goodIn_app (goodIn_of _ (by decide +kernel)) ggX3_findFault_X3_take
theorem dX3_findFault_0 : decode cX3_findFault 0 = .ok (.aload_n 0, 1) := by decide +kernel
theorem dX3_findFault_1 : decode cX3_findFault 1 = .ok (.invokevirtual 26, 3) := by decide +kernel
theorem dX3_findFault_4 : decode cX3_findFault 4 = .ok (.iconst 1, 1) := by decide +kernel
theorem dX3_findFault_5 : decode cX3_findFault 5 = .ok (.istore_n 1, 1) := by decide +kernel
theorem dX3_findFault_6 : decode cX3_findFault 6 = .ok (.iconst 0, 1) := by decide +kernel
theorem dX3_findFault_7 : decode cX3_findFault 7 = .ok (.istore_n 2, 1) := by decide +kernel
theorem dX3_findFault_8 : decode cX3_findFault 8 = .ok (.iload_n 2, 1) := by decide +kernel
theorem dX3_findFault_9 : decode cX3_findFault 9 = .ok (.bipush 80, 2) := by decide +kernel
theorem dX3_findFault_11 : decode cX3_findFault 11 = .ok (.if_icmp .ge 24, 3) := by decide +kernel
theorem dX3_findFault_14 : decode cX3_findFault 14 = .ok (.iload_n 1, 1) := by decide +kernel
theorem dX3_findFault_15 : decode cX3_findFault 15 = .ok (.ifCond .eq 20, 3) := by decide +kernel
theorem dX3_findFault_18 : decode cX3_findFault 18 = .ok (.aload_n 0, 1) := by decide +kernel
theorem dX3_findFault_19 : decode cX3_findFault 19 = .ok (.invokevirtual 29, 3) := by decide +kernel
theorem dX3_findFault_22 : decode cX3_findFault 22 = .ok (.aload_n 0, 1) := by decide +kernel
theorem dX3_findFault_23 : decode cX3_findFault 23 = .ok (.bipush 59, 2) := by decide +kernel
theorem dX3_findFault_25 : decode cX3_findFault 25 = .ok (.invokevirtual 32, 3) := by decide +kernel
theorem dX3_findFault_28 : decode cX3_findFault 28 = .ok (.istore_n 1, 1) := by decide +kernel
theorem dX3_findFault_29 : decode cX3_findFault 29 = .ok (.iinc 2 1, 3) := by decide +kernel
theorem dX3_findFault_32 : decode cX3_findFault 32 = .ok (.goto (-24), 3) := by decide +kernel
theorem dX3_findFault_35 : decode cX3_findFault 35 = .ok (.aload_n 0, 1) := by decide +kernel
theorem dX3_findFault_36 : decode cX3_findFault 36 = .ok (.getfield 22, 3) := by decide +kernel
theorem dX3_findFault_39 : decode cX3_findFault 39 = .ok (.ifCond .ne 17, 3) := by decide +kernel
theorem dX3_findFault_42 : decode cX3_findFault 42 = .ok (.aload_n 0, 1) := by decide +kernel
theorem dX3_findFault_43 : decode cX3_findFault 43 = .ok (.getfield 18, 3) := by decide +kernel
theorem dX3_findFault_46 : decode cX3_findFault 46 = .ok (.aload_n 0, 1) := by decide +kernel
theorem dX3_findFault_47 : decode cX3_findFault 47 = .ok (.getfield 12, 3) := by decide +kernel
theorem dX3_findFault_50 : decode cX3_findFault 50 = .ok (.getfield 36, 3) := by decide +kernel
theorem dX3_findFault_53 : decode cX3_findFault 53 = .ok (.if_icmp .ge 10, 3) := by decide +kernel
theorem dX3_findFault_56 : decode cX3_findFault 56 = .ok (.aload_n 0, 1) := by decide +kernel
theorem dX3_findFault_57 : decode cX3_findFault 57 = .ok (.getfield 18, 3) := by decide +kernel
theorem dX3_findFault_60 : decode cX3_findFault 60 = .ok (.goto 5, 3) := by decide +kernel
theorem dX3_findFault_63 : decode cX3_findFault 63 = .ok (.bipush (-6), 2) := by decide +kernel
theorem dX3_findFault_65 : decode cX3_findFault 65 = .ok (.ireturn, 1) := by decide +kernel
set_option maxRecDepth 20000 in
theorem ggX3_readOrder_X4_at : GoodIn wsX3_readOrder wsX4_at := goodIn_r _ [12, 13, 14, 44, 45] (by decide +kernel) (by decide +kernel)
set_option maxRecDepth 20000 in
theorem gX3_readOrder_X4_at : GoodIn wsX3_readOrder (wsV RX3 39 RX4 yX4_at wsX4_at) := goodIn_app (goodIn_of _ (by decide +kernel)) ggX3_readOrder_X4_at
set_option maxRecDepth 20000 in
theorem ggX3_readOrder_X3_take : GoodIn wsX3_readOrder wsX3_take := goodIn_r _ [19, 20, 1, 2, 8, 9, 10, 11, 12, 13, 14, 36, 37, 38, 39, 40, 41, 42, 43, 44, 45] (by decide +kernel) (by decide +kernel)
set_option maxRecDepth 20000 in
theorem gX3_readOrder_X3_take : GoodIn wsX3_readOrder (wsV RX3 32 RX3 yX3_take wsX3_take) := goodIn_app (goodIn_of _ (by decide +kernel)) ggX3_readOrder_X3_take
set_option maxRecDepth 20000 in
theorem ggX3_readOrder_X3_readNumber : GoodIn wsX3_readOrder wsX3_readNumber := goodIn_r _ [24, 20, 1, 2, 15, 16, 17, 18, 19, 8, 9, 10, 11, 12, 13, 14, 25, 26, 27, 28, 29, 30, 31, 36, 37, 38, 39, 40, 41, 42, 43, 44, 45] (by decide +kernel) (by decide +kernel)
set_option maxRecDepth 20000 in
theorem gX3_readOrder_X3_readNumber : GoodIn wsX3_readOrder (wsV RX3 48 RX3 yX3_readNumber wsX3_readNumber) := goodIn_app (goodIn_of _ (by decide +kernel)) ggX3_readOrder_X3_readNumber
set_option maxRecDepth 20000 in
theorem ggX3_readOrder_X3_expect : GoodIn wsX3_readOrder wsX3_expect := goodIn_r _ [35, 20, 15, 16, 17, 18, 19, 1, 2, 8, 9, 10, 11, 12, 13, 14, 36, 37, 38, 39, 40, 41, 42, 43, 44, 45] (by decide +kernel) (by decide +kernel)
set_option maxRecDepth 20000 in
theorem gX3_readOrder_X3_expect : GoodIn wsX3_readOrder (wsV RX3 55 RX3 yX3_expect wsX3_expect) := goodIn_app (goodIn_of _ (by decide +kernel)) ggX3_readOrder_X3_expect
set_option maxRecDepth 20000 in
theorem ggX3_readOrder_X3_readDigit : GoodIn wsX3_readOrder wsX3_readDigit := goodIn_r _ [28, 1, 2, 20, 8, 9, 10, 11, 12, 13, 14, 29, 30, 31, 36, 37, 38, 39, 40, 41, 42, 43, 44, 45] (by decide +kernel) (by decide +kernel)
set_option maxRecDepth 20000 in
theorem gX3_readOrder_X3_readDigit : GoodIn wsX3_readOrder (wsV RX3 65 RX3 yX3_readDigit wsX3_readDigit) := goodIn_app (goodIn_of _ (by decide +kernel)) ggX3_readOrder_X3_readDigit
theorem dX3_readOrder_0 : decode cX3_readOrder 0 = .ok (.aload_n 0, 1) := by decide +kernel
theorem dX3_readOrder_1 : decode cX3_readOrder 1 = .ok (.aload_n 0, 1) := by decide +kernel
theorem dX3_readOrder_2 : decode cX3_readOrder 2 = .ok (.getfield 12, 3) := by decide +kernel
theorem dX3_readOrder_5 : decode cX3_readOrder 5 = .ok (.aload_n 0, 1) := by decide +kernel
theorem dX3_readOrder_6 : decode cX3_readOrder 6 = .ok (.getfield 18, 3) := by decide +kernel
theorem dX3_readOrder_9 : decode cX3_readOrder 9 = .ok (.invokevirtual 39, 3) := by decide +kernel
theorem dX3_readOrder_12 : decode cX3_readOrder 12 = .ok (.putfield 42, 3) := by decide +kernel
theorem dX3_readOrder_15 : decode cX3_readOrder 15 = .ok (.aload_n 0, 1) := by decide +kernel
theorem dX3_readOrder_16 : decode cX3_readOrder 16 = .ok (.bipush (-6), 2) := by decide +kernel
theorem dX3_readOrder_18 : decode cX3_readOrder 18 = .ok (.putfield 45, 3) := by decide +kernel
theorem dX3_readOrder_21 : decode cX3_readOrder 21 = .ok (.aload_n 0, 1) := by decide +kernel
theorem dX3_readOrder_22 : decode cX3_readOrder 22 = .ok (.bipush 43, 2) := by decide +kernel
theorem dX3_readOrder_24 : decode cX3_readOrder 24 = .ok (.invokevirtual 32, 3) := by decide +kernel
theorem dX3_readOrder_27 : decode cX3_readOrder 27 = .ok (.ifCond .eq 59, 3) := by decide +kernel
theorem dX3_readOrder_30 : decode cX3_readOrder 30 = .ok (.aload_n 0, 1) := by decide +kernel
theorem dX3_readOrder_31 : decode cX3_readOrder 31 = .ok (.aload_n 0, 1) := by decide +kernel
theorem dX3_readOrder_32 : decode cX3_readOrder 32 = .ok (.invokevirtual 48, 3) := by decide +kernel
theorem dX3_readOrder_35 : decode cX3_readOrder 35 = .ok (.putfield 52, 3) := by decide +kernel
theorem dX3_readOrder_38 : decode cX3_readOrder 38 = .ok (.aload_n 0, 1) := by decide +kernel
theorem dX3_readOrder_39 : decode cX3_readOrder 39 = .ok (.bipush 44, 2) := by decide +kernel
theorem dX3_readOrder_41 : decode cX3_readOrder 41 = .ok (.invokevirtual 55, 3) := by decide +kernel
theorem dX3_readOrder_44 : decode cX3_readOrder 44 = .ok (.aload_n 0, 1) := by decide +kernel
theorem dX3_readOrder_45 : decode cX3_readOrder 45 = .ok (.aload_n 0, 1) := by decide +kernel
theorem dX3_readOrder_46 : decode cX3_readOrder 46 = .ok (.invokevirtual 48, 3) := by decide +kernel
theorem dX3_readOrder_49 : decode cX3_readOrder 49 = .ok (.putfield 59, 3) := by decide +kernel
theorem dX3_readOrder_52 : decode cX3_readOrder 52 = .ok (.aload_n 0, 1) := by decide +kernel
theorem dX3_readOrder_53 : decode cX3_readOrder 53 = .ok (.bipush 44, 2) := by decide +kernel
theorem dX3_readOrder_55 : decode cX3_readOrder 55 = .ok (.invokevirtual 55, 3) := by decide +kernel
theorem dX3_readOrder_58 : decode cX3_readOrder 58 = .ok (.aload_n 0, 1) := by decide +kernel
theorem dX3_readOrder_59 : decode cX3_readOrder 59 = .ok (.aload_n 0, 1) := by decide +kernel
theorem dX3_readOrder_60 : decode cX3_readOrder 60 = .ok (.invokevirtual 48, 3) := by decide +kernel
theorem dX3_readOrder_63 : decode cX3_readOrder 63 = .ok (.putfield 62, 3) := by decide +kernel
theorem dX3_readOrder_66 : decode cX3_readOrder 66 = .ok (.aload_n 0, 1) := by decide +kernel
theorem dX3_readOrder_67 : decode cX3_readOrder 67 = .ok (.bipush 94, 2) := by decide +kernel
theorem dX3_readOrder_69 : decode cX3_readOrder 69 = .ok (.invokevirtual 32, 3) := by decide +kernel
theorem dX3_readOrder_72 : decode cX3_readOrder 72 = .ok (.ifCond .eq 83, 3) := by decide +kernel
theorem dX3_readOrder_75 : decode cX3_readOrder 75 = .ok (.aload_n 0, 1) := by decide +kernel
theorem dX3_readOrder_76 : decode cX3_readOrder 76 = .ok (.aload_n 0, 1) := by decide +kernel
theorem dX3_readOrder_77 : decode cX3_readOrder 77 = .ok (.invokevirtual 48, 3) := by decide +kernel
theorem dX3_readOrder_80 : decode cX3_readOrder 80 = .ok (.putfield 45, 3) := by decide +kernel
theorem dX3_readOrder_83 : decode cX3_readOrder 83 = .ok (.goto 72, 3) := by decide +kernel
theorem dX3_readOrder_86 : decode cX3_readOrder 86 = .ok (.aload_n 0, 1) := by decide +kernel
theorem dX3_readOrder_87 : decode cX3_readOrder 87 = .ok (.bipush 99, 2) := by decide +kernel
theorem dX3_readOrder_89 : decode cX3_readOrder 89 = .ok (.invokevirtual 32, 3) := by decide +kernel
theorem dX3_readOrder_92 : decode cX3_readOrder 92 = .ok (.ifCond .eq 28, 3) := by decide +kernel
theorem dX3_readOrder_95 : decode cX3_readOrder 95 = .ok (.aload_n 0, 1) := by decide +kernel
theorem dX3_readOrder_96 : decode cX3_readOrder 96 = .ok (.aload_n 0, 1) := by decide +kernel
theorem dX3_readOrder_97 : decode cX3_readOrder 97 = .ok (.invokevirtual 65, 3) := by decide +kernel
theorem dX3_readOrder_100 : decode cX3_readOrder 100 = .ok (.putfield 52, 3) := by decide +kernel
theorem dX3_readOrder_103 : decode cX3_readOrder 103 = .ok (.aload_n 0, 1) := by decide +kernel
theorem dX3_readOrder_104 : decode cX3_readOrder 104 = .ok (.bipush 36, 2) := by decide +kernel
theorem dX3_readOrder_106 : decode cX3_readOrder 106 = .ok (.invokevirtual 55, 3) := by decide +kernel
theorem dX3_readOrder_109 : decode cX3_readOrder 109 = .ok (.aload_n 0, 1) := by decide +kernel
theorem dX3_readOrder_110 : decode cX3_readOrder 110 = .ok (.aload_n 0, 1) := by decide +kernel
theorem dX3_readOrder_111 : decode cX3_readOrder 111 = .ok (.invokevirtual 48, 3) := by decide +kernel
theorem dX3_readOrder_114 : decode cX3_readOrder 114 = .ok (.putfield 59, 3) := by decide +kernel
theorem dX3_readOrder_117 : decode cX3_readOrder 117 = .ok (.goto 38, 3) := by decide +kernel
theorem dX3_readOrder_120 : decode cX3_readOrder 120 = .ok (.aload_n 0, 1) := by decide +kernel
theorem dX3_readOrder_121 : decode cX3_readOrder 121 = .ok (.bipush 100, 2) := by decide +kernel
theorem dX3_readOrder_123 : decode cX3_readOrder 123 = .ok (.invokevirtual 32, 3) := by decide +kernel
theorem dX3_readOrder_126 : decode cX3_readOrder 126 = .ok (.ifCond .ne 12, 3) := by decide +kernel
theorem dX3_readOrder_129 : decode cX3_readOrder 129 = .ok (.aload_n 0, 1) := by decide +kernel
theorem dX3_readOrder_130 : decode cX3_readOrder 130 = .ok (.bipush 116, 2) := by decide +kernel
theorem dX3_readOrder_132 : decode cX3_readOrder 132 = .ok (.invokevirtual 32, 3) := by decide +kernel
theorem dX3_readOrder_135 : decode cX3_readOrder 135 = .ok (.ifCond .eq 14, 3) := by decide +kernel
theorem dX3_readOrder_138 : decode cX3_readOrder 138 = .ok (.aload_n 0, 1) := by decide +kernel
theorem dX3_readOrder_139 : decode cX3_readOrder 139 = .ok (.aload_n 0, 1) := by decide +kernel
theorem dX3_readOrder_140 : decode cX3_readOrder 140 = .ok (.invokevirtual 48, 3) := by decide +kernel
theorem dX3_readOrder_143 : decode cX3_readOrder 143 = .ok (.putfield 52, 3) := by decide +kernel
theorem dX3_readOrder_146 : decode cX3_readOrder 146 = .ok (.goto 9, 3) := by decide +kernel
theorem dX3_readOrder_149 : decode cX3_readOrder 149 = .ok (.aload_n 0, 1) := by decide +kernel
theorem dX3_readOrder_150 : decode cX3_readOrder 150 = .ok (.bipush 101, 2) := by decide +kernel
theorem dX3_readOrder_152 : decode cX3_readOrder 152 = .ok (.invokevirtual 55, 3) := by decide +kernel
theorem dX3_readOrder_155 : decode cX3_readOrder 155 = .ok (.return_, 1) := by decide +kernel
set_option maxRecDepth 20000 in
theorem ggX3_take_X4_at : GoodIn wsX3_take wsX4_at := goodIn_r _ [8, 9, 10, 19, 20] (by decide +kernel) (by decide +kernel)
set_option maxRecDepth 20000 in
theorem gX3_take_X4_at : GoodIn wsX3_take (wsV RX3 39 RX4 yX4_at wsX4_at) := goodIn_app (goodIn_of _ (by decide +kernel)) ggX3_take_X4_at
theorem dX3_take_0 : decode cX3_take 0 = .ok (.aload_n 0, 1) := by decide +kernel
theorem dX3_take_1 : decode cX3_take 1 = .ok (.getfield 22, 3) := by decide +kernel
theorem dX3_take_4 : decode cX3_take 4 = .ok (.ifCond .ne 18, 3) := by decide +kernel
theorem dX3_take_7 : decode cX3_take 7 = .ok (.aload_n 0, 1) := by decide +kernel
theorem dX3_take_8 : decode cX3_take 8 = .ok (.getfield 12, 3) := by decide +kernel
theorem dX3_take_11 : decode cX3_take 11 = .ok (.aload_n 0, 1) := by decide +kernel
theorem dX3_take_12 : decode cX3_take 12 = .ok (.getfield 18, 3) := by decide +kernel
theorem dX3_take_15 : decode cX3_take 15 = .ok (.invokevirtual 39, 3) := by decide +kernel
theorem dX3_take_18 : decode cX3_take 18 = .ok (.iload_n 1, 1) := by decide +kernel
theorem dX3_take_19 : decode cX3_take 19 = .ok (.if_icmp .eq 5, 3) := by decide +kernel
theorem dX3_take_22 : decode cX3_take 22 = .ok (.iconst 0, 1) := by decide +kernel
theorem dX3_take_23 : decode cX3_take 23 = .ok (.ireturn, 1) := by decide +kernel
theorem dX3_take_24 : decode cX3_take 24 = .ok (.aload_n 0, 1) := by decide +kernel
theorem dX3_take_25 : decode cX3_take 25 = .ok (.dup, 1) := by decide +kernel
theorem dX3_take_26 : decode cX3_take 26 = .ok (.getfield 18, 3) := by decide +kernel
theorem dX3_take_29 : decode cX3_take 29 = .ok (.iconst 1, 1) := by decide +kernel
theorem dX3_take_30 : decode cX3_take 30 = .ok (.iadd, 1) := by decide +kernel
theorem dX3_take_31 : decode cX3_take 31 = .ok (.putfield 18, 3) := by decide +kernel
theorem dX3_take_34 : decode cX3_take 34 = .ok (.iconst 1, 1) := by decide +kernel
theorem dX3_take_35 : decode cX3_take 35 = .ok (.ireturn, 1) := by decide +kernel
set_option maxRecDepth 20000 in
theorem ggX3_expect_X3_take : GoodIn wsX3_expect wsX3_take := goodIn_r _ [6, 1, 7, 8, 9, 10, 11, 12, 13, 14, 15, 16, 17, 18, 19, 20, 21, 22, 23, 24, 25] (by decide +kernel) (by decide +kernel)
set_option maxRecDepth 20000 in
theorem gX3_expect_X3_take : GoodIn wsX3_expect (wsV RX3 32 RX3 yX3_take wsX3_take) := goodIn_app (goodIn_of _ (by decide +kernel)) ggX3_expect_X3_take
theorem dX3_expect_0 : decode cX3_expect 0 = .ok (.aload_n 0, 1) := by decide +kernel
theorem dX3_expect_1 : decode cX3_expect 1 = .ok (.iload_n 1, 1) := by decide +kernel
theorem dX3_expect_2 : decode cX3_expect 2 = .ok (.invokevirtual 32, 3) := by decide +kernel
theorem dX3_expect_5 : decode cX3_expect 5 = .ok (.ifCond .ne 8, 3) := by decide +kernel
theorem dX3_expect_8 : decode cX3_expect 8 = .ok (.aload_n 0, 1) := by decide +kernel
theorem dX3_expect_9 : decode cX3_expect 9 = .ok (.iconst 1, 1) := by decide +kernel
theorem dX3_expect_10 : decode cX3_expect 10 = .ok (.putfield 22, 3) := by decide +kernel
theorem dX3_expect_13 : decode cX3_expect 13 = .ok (.return_, 1) := by decide +kernel
set_option maxRecDepth 20000 in
theorem ggX3_readNumber_X3_take : GoodIn wsX3_readNumber wsX3_take := goodIn_r _ [8, 1, 2, 3, 9, 10, 11, 12, 13, 14, 15, 23, 24, 25, 26, 27, 28, 29, 30, 31, 32] (by decide +kernel) (by decide +kernel)
set_option maxRecDepth 20000 in
theorem gX3_readNumber_X3_take : GoodIn wsX3_readNumber (wsV RX3 32 RX3 yX3_take wsX3_take) := goodIn_app (goodIn_of _ (by decide +kernel)) ggX3_readNumber_X3_take
set_option maxRecDepth 20000 in
theorem ggX3_readNumber_X3_readDigit : GoodIn wsX3_readNumber wsX3_readDigit := goodIn_r _ [19, 2, 3, 1, 9, 10, 11, 12, 13, 14, 15, 20, 21, 22, 23, 24, 25, 26, 27, 28, 29, 30, 31, 32] (by decide +kernel) (by decide +kernel)
set_option maxRecDepth 20000 in
theorem gX3_readNumber_X3_readDigit : GoodIn wsX3_readNumber (wsV RX3 65 RX3 yX3_readDigit wsX3_readDigit) := goodIn_app (goodIn_of _ (by decide +kernel)) ggX3_readNumber_X3_readDigit
set_option maxRecDepth 20000 in
theorem ggX3_readNumber_X4_at : GoodIn wsX3_readNumber wsX4_at := goodIn_r _ [13, 14, 15, 31, 32] (by decide +kernel) (by decide +kernel)
set_option maxRecDepth 20000 in
theorem gX3_readNumber_X4_at : GoodIn wsX3_readNumber (wsV RX3 39 RX4 yX4_at wsX4_at) := goodIn_app (goodIn_of _ (by decide +kernel)) ggX3_readNumber_X4_at
set_option maxRecDepth 20000 in
theorem ggX3_readNumber_X7_isWithin : GoodIn wsX3_readNumber wsX7_isWithin := goodIn_r _ [22] (by decide +kernel) (by decide +kernel)
set_option maxRecDepth 20000 in
theorem gX3_readNumber_X7_isWithin_n68 : GoodIn wsX3_readNumber (wsX7_isWithin) := ggX3_readNumber_X7_isWithin
theorem dX3_readNumber_0 : decode cX3_readNumber 0 = .ok (.aload_n 0, 1) := by decide +kernel
theorem dX3_readNumber_1 : decode cX3_readNumber 1 = .ok (.bipush 48, 2) := by decide +kernel
theorem dX3_readNumber_3 : decode cX3_readNumber 3 = .ok (.invokevirtual 32, 3) := by decide +kernel
theorem dX3_readNumber_6 : decode cX3_readNumber 6 = .ok (.ifCond .eq 5, 3) := by decide +kernel
theorem dX3_readNumber_9 : decode cX3_readNumber 9 = .ok (.iconst 0, 1) := by decide +kernel
theorem dX3_readNumber_10 : decode cX3_readNumber 10 = .ok (.ireturn, 1) := by decide +kernel
theorem dX3_readNumber_11 : decode cX3_readNumber 11 = .ok (.aload_n 0, 1) := by decide +kernel
theorem dX3_readNumber_12 : decode cX3_readNumber 12 = .ok (.invokevirtual 65, 3) := by decide +kernel
theorem dX3_readNumber_15 : decode cX3_readNumber 15 = .ok (.istore_n 1, 1) := by decide +kernel
theorem dX3_readNumber_16 : decode cX3_readNumber 16 = .ok (.aload_n 0, 1) := by decide +kernel
theorem dX3_readNumber_17 : decode cX3_readNumber 17 = .ok (.getfield 22, 3) := by decide +kernel
theorem dX3_readNumber_20 : decode cX3_readNumber 20 = .ok (.ifCond .ne 54, 3) := by decide +kernel
theorem dX3_readNumber_23 : decode cX3_readNumber 23 = .ok (.aload_n 0, 1) := by decide +kernel
theorem dX3_readNumber_24 : decode cX3_readNumber 24 = .ok (.getfield 12, 3) := by decide +kernel
theorem dX3_readNumber_27 : decode cX3_readNumber 27 = .ok (.aload_n 0, 1) := by decide +kernel
theorem dX3_readNumber_28 : decode cX3_readNumber 28 = .ok (.getfield 18, 3) := by decide +kernel
theorem dX3_readNumber_31 : decode cX3_readNumber 31 = .ok (.invokevirtual 39, 3) := by decide +kernel
theorem dX3_readNumber_34 : decode cX3_readNumber 34 = .ok (.bipush 48, 2) := by decide +kernel
theorem dX3_readNumber_36 : decode cX3_readNumber 36 = .ok (.bipush 57, 2) := by decide +kernel
theorem dX3_readNumber_38 : decode cX3_readNumber 38 = .ok (.invokestatic 68, 3) := by decide +kernel
theorem dX3_readNumber_41 : decode cX3_readNumber 41 = .ok (.ifCond .eq 33, 3) := by decide +kernel
theorem dX3_readNumber_44 : decode cX3_readNumber 44 = .ok (.bipush 10, 2) := by decide +kernel
theorem dX3_readNumber_46 : decode cX3_readNumber 46 = .ok (.iload_n 1, 1) := by decide +kernel
theorem dX3_readNumber_47 : decode cX3_readNumber 47 = .ok (.imul, 1) := by decide +kernel
theorem dX3_readNumber_48 : decode cX3_readNumber 48 = .ok (.aload_n 0, 1) := by decide +kernel
theorem dX3_readNumber_49 : decode cX3_readNumber 49 = .ok (.getfield 12, 3) := by decide +kernel
theorem dX3_readNumber_52 : decode cX3_readNumber 52 = .ok (.aload_n 0, 1) := by decide +kernel
theorem dX3_readNumber_53 : decode cX3_readNumber 53 = .ok (.getfield 18, 3) := by decide +kernel
theorem dX3_readNumber_56 : decode cX3_readNumber 56 = .ok (.invokevirtual 39, 3) := by decide +kernel
theorem dX3_readNumber_59 : decode cX3_readNumber 59 = .ok (.iadd, 1) := by decide +kernel
theorem dX3_readNumber_60 : decode cX3_readNumber 60 = .ok (.bipush 48, 2) := by decide +kernel
theorem dX3_readNumber_62 : decode cX3_readNumber 62 = .ok (.isub, 1) := by decide +kernel
theorem dX3_readNumber_63 : decode cX3_readNumber 63 = .ok (.istore_n 1, 1) := by decide +kernel
theorem dX3_readNumber_64 : decode cX3_readNumber 64 = .ok (.aload_n 0, 1) := by decide +kernel
theorem dX3_readNumber_65 : decode cX3_readNumber 65 = .ok (.dup, 1) := by decide +kernel
theorem dX3_readNumber_66 : decode cX3_readNumber 66 = .ok (.getfield 18, 3) := by decide +kernel
theorem dX3_readNumber_69 : decode cX3_readNumber 69 = .ok (.iconst 1, 1) := by decide +kernel
theorem dX3_readNumber_70 : decode cX3_readNumber 70 = .ok (.iadd, 1) := by decide +kernel
theorem dX3_readNumber_71 : decode cX3_readNumber 71 = .ok (.putfield 18, 3) := by decide +kernel
theorem dX3_readNumber_74 : decode cX3_readNumber 74 = .ok (.iload_n 1, 1) := by decide +kernel
theorem dX3_readNumber_75 : decode cX3_readNumber 75 = .ok (.ireturn, 1) := by decide +kernel
set_option maxRecDepth 20000 in
theorem ggX3_readDigit_X4_at : GoodIn wsX3_readDigit wsX4_at := goodIn_r _ [8, 9, 10, 22, 23] (by decide +kernel) (by decide +kernel)
set_option maxRecDepth 20000 in
theorem gX3_readDigit_X4_at : GoodIn wsX3_readDigit (wsV RX3 39 RX4 yX4_at wsX4_at) := goodIn_app (goodIn_of _ (by decide +kernel)) ggX3_readDigit_X4_at
set_option maxRecDepth 20000 in
theorem ggX3_readDigit_X7_isWithin : GoodIn wsX3_readDigit wsX7_isWithin := goodIn_r _ [13] (by decide +kernel) (by decide +kernel)
set_option maxRecDepth 20000 in
theorem gX3_readDigit_X7_isWithin_n68 : GoodIn wsX3_readDigit (wsX7_isWithin) := ggX3_readDigit_X7_isWithin
theorem dX3_readDigit_0 : decode cX3_readDigit 0 = .ok (.aload_n 0, 1) := by decide +kernel
theorem dX3_readDigit_1 : decode cX3_readDigit 1 = .ok (.getfield 12, 3) := by decide +kernel
theorem dX3_readDigit_4 : decode cX3_readDigit 4 = .ok (.aload_n 0, 1) := by decide +kernel
theorem dX3_readDigit_5 : decode cX3_readDigit 5 = .ok (.getfield 18, 3) := by decide +kernel
theorem dX3_readDigit_8 : decode cX3_readDigit 8 = .ok (.invokevirtual 39, 3) := by decide +kernel
theorem dX3_readDigit_11 : decode cX3_readDigit 11 = .ok (.istore_n 1, 1) := by decide +kernel
theorem dX3_readDigit_12 : decode cX3_readDigit 12 = .ok (.aload_n 0, 1) := by decide +kernel
theorem dX3_readDigit_13 : decode cX3_readDigit 13 = .ok (.getfield 22, 3) := by decide +kernel
theorem dX3_readDigit_16 : decode cX3_readDigit 16 = .ok (.ifCond .ne 14, 3) := by decide +kernel
theorem dX3_readDigit_19 : decode cX3_readDigit 19 = .ok (.iload_n 1, 1) := by decide +kernel
theorem dX3_readDigit_20 : decode cX3_readDigit 20 = .ok (.bipush 49, 2) := by decide +kernel
theorem dX3_readDigit_22 : decode cX3_readDigit 22 = .ok (.bipush 57, 2) := by decide +kernel
theorem dX3_readDigit_24 : decode cX3_readDigit 24 = .ok (.invokestatic 68, 3) := by decide +kernel
theorem dX3_readDigit_27 : decode cX3_readDigit 27 = .ok (.ifCond .ne 10, 3) := by decide +kernel
theorem dX3_readDigit_30 : decode cX3_readDigit 30 = .ok (.aload_n 0, 1) := by decide +kernel
theorem dX3_readDigit_31 : decode cX3_readDigit 31 = .ok (.iconst 1, 1) := by decide +kernel
theorem dX3_readDigit_32 : decode cX3_readDigit 32 = .ok (.putfield 22, 3) := by decide +kernel
theorem dX3_readDigit_35 : decode cX3_readDigit 35 = .ok (.iconst 0, 1) := by decide +kernel
theorem dX3_readDigit_36 : decode cX3_readDigit 36 = .ok (.ireturn, 1) := by decide +kernel
theorem dX3_readDigit_37 : decode cX3_readDigit 37 = .ok (.aload_n 0, 1) := by decide +kernel
theorem dX3_readDigit_38 : decode cX3_readDigit 38 = .ok (.dup, 1) := by decide +kernel
theorem dX3_readDigit_39 : decode cX3_readDigit 39 = .ok (.getfield 18, 3) := by decide +kernel
theorem dX3_readDigit_42 : decode cX3_readDigit 42 = .ok (.iconst 1, 1) := by decide +kernel
theorem dX3_readDigit_43 : decode cX3_readDigit 43 = .ok (.iadd, 1) := by decide +kernel
theorem dX3_readDigit_44 : decode cX3_readDigit 44 = .ok (.putfield 18, 3) := by decide +kernel
theorem dX3_readDigit_47 : decode cX3_readDigit 47 = .ok (.iload_n 1, 1) := by decide +kernel
theorem dX3_readDigit_48 : decode cX3_readDigit 48 = .ok (.bipush 48, 2) := by decide +kernel
theorem dX3_readDigit_50 : decode cX3_readDigit 50 = .ok (.isub, 1) := by decide +kernel
theorem dX3_readDigit_51 : decode cX3_readDigit 51 = .ok (.ireturn, 1) := by decide +kernel
theorem dX4_init_0 : decode cX4_init 0 = .ok (.aload_n 0, 1) := by decide +kernel
theorem dX4_init_1 : decode cX4_init 1 = .ok (.invokespecial 3, 3) := by decide +kernel
theorem dX4_init_4 : decode cX4_init 4 = .ok (.aload_n 0, 1) := by decide +kernel
theorem dX4_init_5 : decode cX4_init 5 = .ok (.bipush 80, 2) := by decide +kernel
theorem dX4_init_7 : decode cX4_init 7 = .ok (.newarray .char, 2) := by decide +kernel
theorem dX4_init_9 : decode cX4_init 9 = .ok (.putfield 9, 3) := by decide +kernel
theorem dX4_init_12 : decode cX4_init 12 = .ok (.return_, 1) := by decide +kernel
theorem dX4_at_0 : decode cX4_at 0 = .ok (.iload_n 1, 1) := by decide +kernel
theorem dX4_at_1 : decode cX4_at 1 = .ok (.ifCond .lt 29, 3) := by decide +kernel
theorem dX4_at_4 : decode cX4_at 4 = .ok (.iload_n 1, 1) := by decide +kernel
theorem dX4_at_5 : decode cX4_at 5 = .ok (.aload_n 0, 1) := by decide +kernel
theorem dX4_at_6 : decode cX4_at 6 = .ok (.getfield 15, 3) := by decide +kernel
theorem dX4_at_9 : decode cX4_at 9 = .ok (.if_icmp .ge 21, 3) := by decide +kernel
theorem dX4_at_12 : decode cX4_at 12 = .ok (.iload_n 1, 1) := by decide +kernel
theorem dX4_at_13 : decode cX4_at 13 = .ok (.aload_n 0, 1) := by decide +kernel
theorem dX4_at_14 : decode cX4_at 14 = .ok (.getfield 9, 3) := by decide +kernel
theorem dX4_at_17 : decode cX4_at 17 = .ok (.arraylength, 1) := by decide +kernel
theorem dX4_at_18 : decode cX4_at 18 = .ok (.if_icmp .ge 12, 3) := by decide +kernel
theorem dX4_at_21 : decode cX4_at 21 = .ok (.aload_n 0, 1) := by decide +kernel
theorem dX4_at_22 : decode cX4_at 22 = .ok (.getfield 9, 3) := by decide +kernel
theorem dX4_at_25 : decode cX4_at 25 = .ok (.iload_n 1, 1) := by decide +kernel
theorem dX4_at_26 : decode cX4_at 26 = .ok (.caload, 1) := by decide +kernel
theorem dX4_at_27 : decode cX4_at 27 = .ok (.goto 4, 3) := by decide +kernel
theorem dX4_at_30 : decode cX4_at 30 = .ok (.iconst 0, 1) := by decide +kernel
theorem dX4_at_31 : decode cX4_at 31 = .ok (.ireturn, 1) := by decide +kernel
set_option maxRecDepth 20000 in
theorem ggX4_append_X4_wellFormed : GoodIn wsX4_append wsX4_wellFormed := goodIn_r _ [7, 3, 8, 9, 10] (by decide +kernel) (by decide +kernel)
set_option maxRecDepth 20000 in
theorem gX4_append_X4_wellFormed : GoodIn wsX4_append (va_wsS RX4 19 yX4_wellFormed wsX4_wellFormed) := goodIn_app (goodIn_of _ (by decide +kernel)) ggX4_append_X4_wellFormed
theorem dX4_append_0 : decode cX4_append 0 = .ok (.lload_n 1, 1) := by decide +kernel
theorem dX4_append_1 : decode cX4_append 1 = .ok (.invokestatic 19, 3) := by decide +kernel
theorem dX4_append_4 : decode cX4_append 4 = .ok (.istore_n 3, 1) := by decide +kernel
theorem dX4_append_5 : decode cX4_append 5 = .ok (.iload_n 3, 1) := by decide +kernel
theorem dX4_append_6 : decode cX4_append 6 = .ok (.ifCond .ne 6, 3) := by decide +kernel
theorem dX4_append_9 : decode cX4_append 9 = .ok (.bipush (-2), 2) := by decide +kernel
theorem dX4_append_11 : decode cX4_append 11 = .ok (.ireturn, 1) := by decide +kernel
theorem dX4_append_12 : decode cX4_append 12 = .ok (.aload_n 0, 1) := by decide +kernel
theorem dX4_append_13 : decode cX4_append 13 = .ok (.getfield 15, 3) := by decide +kernel
theorem dX4_append_16 : decode cX4_append 16 = .ok (.iload_n 3, 1) := by decide +kernel
theorem dX4_append_17 : decode cX4_append 17 = .ok (.iadd, 1) := by decide +kernel
theorem dX4_append_18 : decode cX4_append 18 = .ok (.aload_n 0, 1) := by decide +kernel
theorem dX4_append_19 : decode cX4_append 19 = .ok (.getfield 9, 3) := by decide +kernel
theorem dX4_append_22 : decode cX4_append 22 = .ok (.arraylength, 1) := by decide +kernel
theorem dX4_append_23 : decode cX4_append 23 = .ok (.if_icmp .le 6, 3) := by decide +kernel
theorem dX4_append_26 : decode cX4_append 26 = .ok (.bipush (-4), 2) := by decide +kernel
theorem dX4_append_28 : decode cX4_append 28 = .ok (.ireturn, 1) := by decide +kernel
theorem dX4_append_29 : decode cX4_append 29 = .ok (.iload_n 3, 1) := by decide +kernel
theorem dX4_append_30 : decode cX4_append 30 = .ok (.iconst 1, 1) := by decide +kernel
theorem dX4_append_31 : decode cX4_append 31 = .ok (.isub, 1) := by decide +kernel
theorem dX4_append_32 : decode cX4_append 32 = .ok (.istore 4, 2) := by decide +kernel
theorem dX4_append_34 : decode cX4_append 34 = .ok (.iload 4, 2) := by decide +kernel
theorem dX4_append_36 : decode cX4_append 36 = .ok (.ifCond .lt 41, 3) := by decide +kernel
theorem dX4_append_39 : decode cX4_append 39 = .ok (.aload_n 0, 1) := by decide +kernel
theorem dX4_append_40 : decode cX4_append 40 = .ok (.getfield 9, 3) := by decide +kernel
theorem dX4_append_43 : decode cX4_append 43 = .ok (.aload_n 0, 1) := by decide +kernel
theorem dX4_append_44 : decode cX4_append 44 = .ok (.getfield 15, 3) := by decide +kernel
theorem dX4_append_47 : decode cX4_append 47 = .ok (.lload_n 1, 1) := by decide +kernel
theorem dX4_append_48 : decode cX4_append 48 = .ok (.bipush 8, 2) := by decide +kernel
theorem dX4_append_50 : decode cX4_append 50 = .ok (.iload 4, 2) := by decide +kernel
theorem dX4_append_52 : decode cX4_append 52 = .ok (.imul, 1) := by decide +kernel
theorem dX4_append_53 : decode cX4_append 53 = .ok (.lushr, 1) := by decide +kernel
theorem dX4_append_54 : decode cX4_append 54 = .ok (.ldc2_w 23, 3) := by decide +kernel
theorem dX4_append_57 : decode cX4_append 57 = .ok (.land, 1) := by decide +kernel
theorem dX4_append_58 : decode cX4_append 58 = .ok (.l2i, 1) := by decide +kernel
theorem dX4_append_59 : decode cX4_append 59 = .ok (.i2c, 1) := by decide +kernel
theorem dX4_append_60 : decode cX4_append 60 = .ok (.castore, 1) := by decide +kernel
theorem dX4_append_61 : decode cX4_append 61 = .ok (.aload_n 0, 1) := by decide +kernel
theorem dX4_append_62 : decode cX4_append 62 = .ok (.dup, 1) := by decide +kernel
theorem dX4_append_63 : decode cX4_append 63 = .ok (.getfield 15, 3) := by decide +kernel
theorem dX4_append_66 : decode cX4_append 66 = .ok (.iconst 1, 1) := by decide +kernel
theorem dX4_append_67 : decode cX4_append 67 = .ok (.iadd, 1) := by decide +kernel
theorem dX4_append_68 : decode cX4_append 68 = .ok (.putfield 15, 3) := by decide +kernel
theorem dX4_append_71 : decode cX4_append 71 = .ok (.iinc 4 (-1), 3) := by decide +kernel
theorem dX4_append_74 : decode cX4_append 74 = .ok (.goto (-40), 3) := by decide +kernel
theorem dX4_append_77 : decode cX4_append 77 = .ok (.aload_n 0, 1) := by decide +kernel
theorem dX4_append_78 : decode cX4_append 78 = .ok (.getfield 15, 3) := by decide +kernel
theorem dX4_append_81 : decode cX4_append 81 = .ok (.ireturn, 1) := by decide +kernel
theorem dX4_clear_0 : decode cX4_clear 0 = .ok (.aload_n 0, 1) := by decide +kernel
theorem dX4_clear_1 : decode cX4_clear 1 = .ok (.getfield 15, 3) := by decide +kernel
theorem dX4_clear_4 : decode cX4_clear 4 = .ok (.istore_n 1, 1) := by decide +kernel
theorem dX4_clear_5 : decode cX4_clear 5 = .ok (.aload_n 0, 1) := by decide +kernel
theorem dX4_clear_6 : decode cX4_clear 6 = .ok (.iconst 0, 1) := by decide +kernel
theorem dX4_clear_7 : decode cX4_clear 7 = .ok (.putfield 15, 3) := by decide +kernel
theorem dX4_clear_10 : decode cX4_clear 10 = .ok (.iload_n 1, 1) := by decide +kernel
theorem dX4_clear_11 : decode cX4_clear 11 = .ok (.ireturn, 1) := by decide +kernel
set_option maxRecDepth 20000 in
theorem ggX4_wellFormed_X7_isWithin : GoodIn wsX4_wellFormed wsX7_isWithin := goodIn_r _ [4] (by decide +kernel) (by decide +kernel)
set_option maxRecDepth 20000 in
theorem gX4_wellFormed_X7_isWithin_n25 : GoodIn wsX4_wellFormed (wsX7_isWithin) := ggX4_wellFormed_X7_isWithin
theorem dX4_wellFormed_0 : decode cX4_wellFormed 0 = .ok (.iconst 0, 1) := by decide +kernel
theorem dX4_wellFormed_1 : decode cX4_wellFormed 1 = .ok (.istore_n 2, 1) := by decide +kernel
theorem dX4_wellFormed_2 : decode cX4_wellFormed 2 = .ok (.lload_n 0, 1) := by decide +kernel
theorem dX4_wellFormed_3 : decode cX4_wellFormed 3 = .ok (.lstore_n 3, 1) := by decide +kernel
theorem dX4_wellFormed_4 : decode cX4_wellFormed 4 = .ok (.iconst 0, 1) := by decide +kernel
theorem dX4_wellFormed_5 : decode cX4_wellFormed 5 = .ok (.istore 5, 2) := by decide +kernel
theorem dX4_wellFormed_7 : decode cX4_wellFormed 7 = .ok (.iload 5, 2) := by decide +kernel
theorem dX4_wellFormed_9 : decode cX4_wellFormed 9 = .ok (.bipush 8, 2) := by decide +kernel
theorem dX4_wellFormed_11 : decode cX4_wellFormed 11 = .ok (.if_icmp .ge 45, 3) := by decide +kernel
theorem dX4_wellFormed_14 : decode cX4_wellFormed 14 = .ok (.lload_n 3, 1) := by decide +kernel
theorem dX4_wellFormed_15 : decode cX4_wellFormed 15 = .ok (.lconst 0, 1) := by decide +kernel
theorem dX4_wellFormed_16 : decode cX4_wellFormed 16 = .ok (.lcmp, 1) := by decide +kernel
theorem dX4_wellFormed_17 : decode cX4_wellFormed 17 = .ok (.ifCond .eq 39, 3) := by decide +kernel
theorem dX4_wellFormed_20 : decode cX4_wellFormed 20 = .ok (.lload_n 3, 1) := by decide +kernel
theorem dX4_wellFormed_21 : decode cX4_wellFormed 21 = .ok (.ldc2_w 23, 3) := by decide +kernel
theorem dX4_wellFormed_24 : decode cX4_wellFormed 24 = .ok (.land, 1) := by decide +kernel
theorem dX4_wellFormed_25 : decode cX4_wellFormed 25 = .ok (.l2i, 1) := by decide +kernel
theorem dX4_wellFormed_26 : decode cX4_wellFormed 26 = .ok (.istore 6, 2) := by decide +kernel
theorem dX4_wellFormed_28 : decode cX4_wellFormed 28 = .ok (.iload 6, 2) := by decide +kernel
theorem dX4_wellFormed_30 : decode cX4_wellFormed 30 = .ok (.bipush 33, 2) := by decide +kernel
theorem dX4_wellFormed_32 : decode cX4_wellFormed 32 = .ok (.bipush 126, 2) := by decide +kernel
theorem dX4_wellFormed_34 : decode cX4_wellFormed 34 = .ok (.invokestatic 25, 3) := by decide +kernel
theorem dX4_wellFormed_37 : decode cX4_wellFormed 37 = .ok (.ifCond .ne 5, 3) := by decide +kernel
theorem dX4_wellFormed_40 : decode cX4_wellFormed 40 = .ok (.iconst 0, 1) := by decide +kernel
theorem dX4_wellFormed_41 : decode cX4_wellFormed 41 = .ok (.ireturn, 1) := by decide +kernel
theorem dX4_wellFormed_42 : decode cX4_wellFormed 42 = .ok (.iinc 2 1, 3) := by decide +kernel
theorem dX4_wellFormed_45 : decode cX4_wellFormed 45 = .ok (.lload_n 3, 1) := by decide +kernel
theorem dX4_wellFormed_46 : decode cX4_wellFormed 46 = .ok (.bipush 8, 2) := by decide +kernel
theorem dX4_wellFormed_48 : decode cX4_wellFormed 48 = .ok (.lushr, 1) := by decide +kernel
theorem dX4_wellFormed_49 : decode cX4_wellFormed 49 = .ok (.lstore_n 3, 1) := by decide +kernel
theorem dX4_wellFormed_50 : decode cX4_wellFormed 50 = .ok (.iinc 5 1, 3) := by decide +kernel
theorem dX4_wellFormed_53 : decode cX4_wellFormed 53 = .ok (.goto (-46), 3) := by decide +kernel
theorem dX4_wellFormed_56 : decode cX4_wellFormed 56 = .ok (.iload_n 2, 1) := by decide +kernel
theorem dX4_wellFormed_57 : decode cX4_wellFormed 57 = .ok (.ireturn, 1) := by decide +kernel
set_option maxRecDepth 20000 in
theorem ggX5_init_X1_init : GoodIn wsX5_init wsX1_init := goodIn_r _ [11, 12, 2, 3, 13, 14, 15, 16, 17, 18, 19, 20, 21, 22, 23, 24, 25, 26, 27, 28, 29, 30, 31, 32, 33, 34, 35, 36, 37, 38, 39, 40, 41, 42, 43, 44, 45, 46, 47, 48, 49, 50, 51, 54, 55, 56, 57, 58, 59, 60, 61, 62, 63, 64, 65, 66, 67, 68, 69, 70, 71, 72, 73, 74, 75, 76, 77, 78] (by decide +kernel) (by decide +kernel)
set_option maxRecDepth 20000 in
theorem gX5_init_X1_init_n21 : GoodIn wsX5_init (wsX1_init) := ggX5_init_X1_init
theorem dX5_init_0 : decode cX5_init 0 = .ok (.aload_n 0, 1) := by decide +kernel
theorem dX5_init_1 : decode cX5_init 1 = .ok (.invokespecial 3, 3) := by decide +kernel
theorem dX5_init_4 : decode cX5_init 4 = .ok (.aload_n 0, 1) := by decide +kernel
theorem dX5_init_5 : decode cX5_init 5 = .ok (.iconst 2, 1) := by decide +kernel
theorem dX5_init_6 : decode cX5_init 6 = .ok (.anewarray 9, 3) := by decide +kernel
theorem dX5_init_9 : decode cX5_init 9 = .ok (.putfield 11, 3) := by decide +kernel
theorem dX5_init_12 : decode cX5_init 12 = .ok (.aload_n 0, 1) := by decide +kernel
theorem dX5_init_13 : decode cX5_init 13 = .ok (.iconst 2, 1) := by decide +kernel
theorem dX5_init_14 : decode cX5_init 14 = .ok (.newarray .boolean, 2) := by decide +kernel
theorem dX5_init_16 : decode cX5_init 16 = .ok (.putfield 17, 3) := by decide +kernel
theorem dX5_init_19 : decode cX5_init 19 = .ok (.iconst 0, 1) := by decide +kernel
theorem dX5_init_20 : decode cX5_init 20 = .ok (.istore_n 1, 1) := by decide +kernel
theorem dX5_init_21 : decode cX5_init 21 = .ok (.iload_n 1, 1) := by decide +kernel
theorem dX5_init_22 : decode cX5_init 22 = .ok (.aload_n 0, 1) := by decide +kernel
theorem dX5_init_23 : decode cX5_init 23 = .ok (.getfield 11, 3) := by decide +kernel
theorem dX5_init_26 : decode cX5_init 26 = .ok (.arraylength, 1) := by decide +kernel
theorem dX5_init_27 : decode cX5_init 27 = .ok (.if_icmp .ge 22, 3) := by decide +kernel
theorem dX5_init_30 : decode cX5_init 30 = .ok (.aload_n 0, 1) := by decide +kernel
theorem dX5_init_31 : decode cX5_init 31 = .ok (.getfield 11, 3) := by decide +kernel
theorem dX5_init_34 : decode cX5_init 34 = .ok (.iload_n 1, 1) := by decide +kernel
theorem dX5_init_35 : decode cX5_init 35 = .ok (.new 9, 3) := by decide +kernel
theorem dX5_init_38 : decode cX5_init 38 = .ok (.dup, 1) := by decide +kernel
theorem dX5_init_39 : decode cX5_init 39 = .ok (.invokespecial 21, 3) := by decide +kernel
theorem dX5_init_42 : decode cX5_init 42 = .ok (.aastore, 1) := by decide +kernel
theorem dX5_init_43 : decode cX5_init 43 = .ok (.iinc 1 1, 3) := by decide +kernel
theorem dX5_init_46 : decode cX5_init 46 = .ok (.goto (-25), 3) := by decide +kernel
theorem dX5_init_49 : decode cX5_init 49 = .ok (.return_, 1) := by decide +kernel
set_option maxRecDepth 20000 in
theorem ggX5_keep_X1_copyFrom : GoodIn wsX5_keep wsX1_copyFrom := goodIn_r _ [7, 8, 9, 10, 11, 12, 13, 14, 15, 16, 17, 18, 19, 20, 21, 22, 23, 24, 25, 26, 27, 28, 29, 30, 31, 32, 33, 34, 35, 36, 37, 38, 39, 40, 41, 42, 43, 44, 45, 46, 47, 48, 49, 50, 51, 52, 53, 56, 57, 58, 59, 60, 61, 62, 63, 64, 65, 66, 67, 68, 69, 70, 71, 72, 73, 74, 75, 76, 77, 78, 79, 80] (by decide +kernel) (by decide +kernel)
set_option maxRecDepth 20000 in
theorem gX5_keep_X1_copyFrom : GoodIn wsX5_keep (wsV RX5 22 RX1 yX1_copyFrom wsX1_copyFrom) := goodIn_app (goodIn_of _ (by decide +kernel)) ggX5_keep_X1_copyFrom
theorem dX5_keep_0 : decode cX5_keep 0 = .ok (.iload_n 1, 1) := by decide +kernel
theorem dX5_keep_1 : decode cX5_keep 1 = .ok (.ifCond .lt 21, 3) := by decide +kernel
theorem dX5_keep_4 : decode cX5_keep 4 = .ok (.iload_n 1, 1) := by decide +kernel
theorem dX5_keep_5 : decode cX5_keep 5 = .ok (.aload_n 0, 1) := by decide +kernel
theorem dX5_keep_6 : decode cX5_keep 6 = .ok (.getfield 11, 3) := by decide +kernel
theorem dX5_keep_9 : decode cX5_keep 9 = .ok (.arraylength, 1) := by decide +kernel
theorem dX5_keep_10 : decode cX5_keep 10 = .ok (.if_icmp .ge 12, 3) := by decide +kernel
theorem dX5_keep_13 : decode cX5_keep 13 = .ok (.iload_n 1, 1) := by decide +kernel
theorem dX5_keep_14 : decode cX5_keep 14 = .ok (.aload_n 0, 1) := by decide +kernel
theorem dX5_keep_15 : decode cX5_keep 15 = .ok (.getfield 17, 3) := by decide +kernel
theorem dX5_keep_18 : decode cX5_keep 18 = .ok (.arraylength, 1) := by decide +kernel
theorem dX5_keep_19 : decode cX5_keep 19 = .ok (.if_icmp .lt 6, 3) := by decide +kernel
theorem dX5_keep_22 : decode cX5_keep 22 = .ok (.bipush (-2), 2) := by decide +kernel
theorem dX5_keep_24 : decode cX5_keep 24 = .ok (.ireturn, 1) := by decide +kernel
theorem dX5_keep_25 : decode cX5_keep 25 = .ok (.aload_n 0, 1) := by decide +kernel
theorem dX5_keep_26 : decode cX5_keep 26 = .ok (.getfield 11, 3) := by decide +kernel
theorem dX5_keep_29 : decode cX5_keep 29 = .ok (.iload_n 1, 1) := by decide +kernel
theorem dX5_keep_30 : decode cX5_keep 30 = .ok (.aaload, 1) := by decide +kernel
theorem dX5_keep_31 : decode cX5_keep 31 = .ok (.astore_n 3, 1) := by decide +kernel
theorem dX5_keep_32 : decode cX5_keep 32 = .ok (.aload_n 3, 1) := by decide +kernel
theorem dX5_keep_33 : decode cX5_keep 33 = .ok (.ifnonnull 6, 3) := by decide +kernel
theorem dX5_keep_36 : decode cX5_keep 36 = .ok (.bipush (-2), 2) := by decide +kernel
theorem dX5_keep_38 : decode cX5_keep 38 = .ok (.ireturn, 1) := by decide +kernel
theorem dX5_keep_39 : decode cX5_keep 39 = .ok (.aload_n 3, 1) := by decide +kernel
theorem dX5_keep_40 : decode cX5_keep 40 = .ok (.aload_n 2, 1) := by decide +kernel
theorem dX5_keep_41 : decode cX5_keep 41 = .ok (.invokevirtual 22, 3) := by decide +kernel
theorem dX5_keep_44 : decode cX5_keep 44 = .ok (.aload_n 0, 1) := by decide +kernel
theorem dX5_keep_45 : decode cX5_keep 45 = .ok (.getfield 17, 3) := by decide +kernel
theorem dX5_keep_48 : decode cX5_keep 48 = .ok (.iload_n 1, 1) := by decide +kernel
theorem dX5_keep_49 : decode cX5_keep 49 = .ok (.iconst 1, 1) := by decide +kernel
theorem dX5_keep_50 : decode cX5_keep 50 = .ok (.bastore, 1) := by decide +kernel
theorem dX5_keep_51 : decode cX5_keep 51 = .ok (.aload_n 2, 1) := by decide +kernel
theorem dX5_keep_52 : decode cX5_keep 52 = .ok (.getfield 26, 3) := by decide +kernel
theorem dX5_keep_55 : decode cX5_keep 55 = .ok (.getfield 30, 3) := by decide +kernel
theorem dX5_keep_58 : decode cX5_keep 58 = .ok (.ireturn, 1) := by decide +kernel
set_option maxRecDepth 20000 in
theorem ggX5_giveBack_X1_copyFrom : GoodIn wsX5_giveBack wsX1_copyFrom := goodIn_r _ [7, 8, 9, 10, 11, 12, 13, 14, 15, 16, 17, 18, 19, 20, 21, 22, 23, 24, 25, 26, 27, 28, 29, 30, 31, 32, 33, 34, 35, 36, 37, 38, 39, 40, 41, 42, 43, 44, 45, 46, 47, 48, 49, 50, 51, 52, 53, 56, 57, 58, 59, 60, 61, 62, 63, 64, 65, 66, 67, 68, 69, 70, 71, 72, 73, 74, 75, 76, 77, 78, 79, 80] (by decide +kernel) (by decide +kernel)
set_option maxRecDepth 20000 in
theorem gX5_giveBack_X1_copyFrom : GoodIn wsX5_giveBack (wsV RX5 22 RX1 yX1_copyFrom wsX1_copyFrom) := goodIn_app (goodIn_of _ (by decide +kernel)) ggX5_giveBack_X1_copyFrom
theorem dX5_giveBack_0 : decode cX5_giveBack 0 = .ok (.iload_n 1, 1) := by decide +kernel
theorem dX5_giveBack_1 : decode cX5_giveBack 1 = .ok (.ifCond .lt 21, 3) := by decide +kernel
theorem dX5_giveBack_4 : decode cX5_giveBack 4 = .ok (.iload_n 1, 1) := by decide +kernel
theorem dX5_giveBack_5 : decode cX5_giveBack 5 = .ok (.aload_n 0, 1) := by decide +kernel
theorem dX5_giveBack_6 : decode cX5_giveBack 6 = .ok (.getfield 11, 3) := by decide +kernel
theorem dX5_giveBack_9 : decode cX5_giveBack 9 = .ok (.arraylength, 1) := by decide +kernel
theorem dX5_giveBack_10 : decode cX5_giveBack 10 = .ok (.if_icmp .ge 12, 3) := by decide +kernel
theorem dX5_giveBack_13 : decode cX5_giveBack 13 = .ok (.iload_n 1, 1) := by decide +kernel
theorem dX5_giveBack_14 : decode cX5_giveBack 14 = .ok (.aload_n 0, 1) := by decide +kernel
theorem dX5_giveBack_15 : decode cX5_giveBack 15 = .ok (.getfield 17, 3) := by decide +kernel
theorem dX5_giveBack_18 : decode cX5_giveBack 18 = .ok (.arraylength, 1) := by decide +kernel
theorem dX5_giveBack_19 : decode cX5_giveBack 19 = .ok (.if_icmp .lt 6, 3) := by decide +kernel
theorem dX5_giveBack_22 : decode cX5_giveBack 22 = .ok (.bipush (-2), 2) := by decide +kernel
theorem dX5_giveBack_24 : decode cX5_giveBack 24 = .ok (.ireturn, 1) := by decide +kernel
theorem dX5_giveBack_25 : decode cX5_giveBack 25 = .ok (.aload_n 0, 1) := by decide +kernel
theorem dX5_giveBack_26 : decode cX5_giveBack 26 = .ok (.getfield 11, 3) := by decide +kernel
theorem dX5_giveBack_29 : decode cX5_giveBack 29 = .ok (.iload_n 1, 1) := by decide +kernel
theorem dX5_giveBack_30 : decode cX5_giveBack 30 = .ok (.aaload, 1) := by decide +kernel
theorem dX5_giveBack_31 : decode cX5_giveBack 31 = .ok (.astore_n 3, 1) := by decide +kernel
theorem dX5_giveBack_32 : decode cX5_giveBack 32 = .ok (.aload_n 3, 1) := by decide +kernel
theorem dX5_giveBack_33 : decode cX5_giveBack 33 = .ok (.ifnull 12, 3) := by decide +kernel
theorem dX5_giveBack_36 : decode cX5_giveBack 36 = .ok (.aload_n 0, 1) := by decide +kernel
theorem dX5_giveBack_37 : decode cX5_giveBack 37 = .ok (.getfield 17, 3) := by decide +kernel
theorem dX5_giveBack_40 : decode cX5_giveBack 40 = .ok (.iload_n 1, 1) := by decide +kernel
theorem dX5_giveBack_41 : decode cX5_giveBack 41 = .ok (.baload, 1) := by decide +kernel
theorem dX5_giveBack_42 : decode cX5_giveBack 42 = .ok (.ifCond .ne 6, 3) := by decide +kernel
theorem dX5_giveBack_45 : decode cX5_giveBack 45 = .ok (.bipush (-5), 2) := by decide +kernel
theorem dX5_giveBack_47 : decode cX5_giveBack 47 = .ok (.ireturn, 1) := by decide +kernel
theorem dX5_giveBack_48 : decode cX5_giveBack 48 = .ok (.aload_n 2, 1) := by decide +kernel
theorem dX5_giveBack_49 : decode cX5_giveBack 49 = .ok (.aload_n 3, 1) := by decide +kernel
theorem dX5_giveBack_50 : decode cX5_giveBack 50 = .ok (.invokevirtual 22, 3) := by decide +kernel
theorem dX5_giveBack_53 : decode cX5_giveBack 53 = .ok (.aload_n 2, 1) := by decide +kernel
theorem dX5_giveBack_54 : decode cX5_giveBack 54 = .ok (.getfield 26, 3) := by decide +kernel
theorem dX5_giveBack_57 : decode cX5_giveBack 57 = .ok (.getfield 30, 3) := by decide +kernel
theorem dX5_giveBack_60 : decode cX5_giveBack 60 = .ok (.ireturn, 1) := by decide +kernel
theorem dX6_init_0 : decode cX6_init 0 = .ok (.aload_n 0, 1) := by decide +kernel
theorem dX6_init_1 : decode cX6_init 1 = .ok (.invokespecial 3, 3) := by decide +kernel
theorem dX6_init_4 : decode cX6_init 4 = .ok (.aload_n 0, 1) := by decide +kernel
theorem dX6_init_5 : decode cX6_init 5 = .ok (.bipush 20, 2) := by decide +kernel
theorem dX6_init_7 : decode cX6_init 7 = .ok (.newarray .int, 2) := by decide +kernel
theorem dX6_init_9 : decode cX6_init 9 = .ok (.putfield 9, 3) := by decide +kernel
theorem dX6_init_12 : decode cX6_init 12 = .ok (.aload_n 0, 1) := by decide +kernel
theorem dX6_init_13 : decode cX6_init 13 = .ok (.bipush 20, 2) := by decide +kernel
theorem dX6_init_15 : decode cX6_init 15 = .ok (.newarray .int, 2) := by decide +kernel
theorem dX6_init_17 : decode cX6_init 17 = .ok (.putfield 15, 3) := by decide +kernel
theorem dX6_init_20 : decode cX6_init 20 = .ok (.aload_n 0, 1) := by decide +kernel
theorem dX6_init_21 : decode cX6_init 21 = .ok (.bipush 20, 2) := by decide +kernel
theorem dX6_init_23 : decode cX6_init 23 = .ok (.newarray .int, 2) := by decide +kernel
theorem dX6_init_25 : decode cX6_init 25 = .ok (.putfield 18, 3) := by decide +kernel
theorem dX6_init_28 : decode cX6_init 28 = .ok (.aload_n 0, 1) := by decide +kernel
theorem dX6_init_29 : decode cX6_init 29 = .ok (.bipush 20, 2) := by decide +kernel
theorem dX6_init_31 : decode cX6_init 31 = .ok (.newarray .int, 2) := by decide +kernel
theorem dX6_init_33 : decode cX6_init 33 = .ok (.putfield 21, 3) := by decide +kernel
theorem dX6_init_36 : decode cX6_init 36 = .ok (.aload_n 0, 1) := by decide +kernel
theorem dX6_init_37 : decode cX6_init 37 = .ok (.bipush 20, 2) := by decide +kernel
theorem dX6_init_39 : decode cX6_init 39 = .ok (.newarray .int, 2) := by decide +kernel
theorem dX6_init_41 : decode cX6_init 41 = .ok (.putfield 24, 3) := by decide +kernel
theorem dX6_init_44 : decode cX6_init 44 = .ok (.aload_n 0, 1) := by decide +kernel
theorem dX6_init_45 : decode cX6_init 45 = .ok (.bipush 20, 2) := by decide +kernel
theorem dX6_init_47 : decode cX6_init 47 = .ok (.newarray .int, 2) := by decide +kernel
theorem dX6_init_49 : decode cX6_init 49 = .ok (.putfield 27, 3) := by decide +kernel
theorem dX6_init_52 : decode cX6_init 52 = .ok (.aload_n 0, 1) := by decide +kernel
theorem dX6_init_53 : decode cX6_init 53 = .ok (.bipush 20, 2) := by decide +kernel
theorem dX6_init_55 : decode cX6_init 55 = .ok (.newarray .int, 2) := by decide +kernel
theorem dX6_init_57 : decode cX6_init 57 = .ok (.putfield 30, 3) := by decide +kernel
theorem dX6_init_60 : decode cX6_init 60 = .ok (.aload_n 0, 1) := by decide +kernel
theorem dX6_init_61 : decode cX6_init 61 = .ok (.bipush 20, 2) := by decide +kernel
theorem dX6_init_63 : decode cX6_init 63 = .ok (.newarray .int, 2) := by decide +kernel
theorem dX6_init_65 : decode cX6_init 65 = .ok (.putfield 33, 3) := by decide +kernel
theorem dX6_init_68 : decode cX6_init 68 = .ok (.aload_n 0, 1) := by decide +kernel
theorem dX6_init_69 : decode cX6_init 69 = .ok (.bipush 20, 2) := by decide +kernel
theorem dX6_init_71 : decode cX6_init 71 = .ok (.newarray .int, 2) := by decide +kernel
theorem dX6_init_73 : decode cX6_init 73 = .ok (.putfield 36, 3) := by decide +kernel
theorem dX6_init_76 : decode cX6_init 76 = .ok (.aload_n 0, 1) := by decide +kernel
theorem dX6_init_77 : decode cX6_init 77 = .ok (.bipush 20, 2) := by decide +kernel
theorem dX6_init_79 : decode cX6_init 79 = .ok (.newarray .int, 2) := by decide +kernel
theorem dX6_init_81 : decode cX6_init 81 = .ok (.putfield 39, 3) := by decide +kernel
theorem dX6_init_84 : decode cX6_init 84 = .ok (.return_, 1) := by decide +kernel
set_option maxRecDepth 20000 in
theorem ggX6_copyFrom_X7_copyRow : GoodIn wsX6_copyFrom wsX7_copyRow := goodIn_r _ [14, 15, 16, 17, 18, 19, 20, 21, 22] (by decide +kernel) (by decide +kernel)
set_option maxRecDepth 20000 in
theorem gX6_copyFrom_X7_copyRow_n46 : GoodIn wsX6_copyFrom (wsX7_copyRow) := ggX6_copyFrom_X7_copyRow
theorem dX6_copyFrom_0 : decode cX6_copyFrom 0 = .ok (.aload_n 0, 1) := by decide +kernel
theorem dX6_copyFrom_1 : decode cX6_copyFrom 1 = .ok (.aload_n 1, 1) := by decide +kernel
theorem dX6_copyFrom_2 : decode cX6_copyFrom 2 = .ok (.getfield 42, 3) := by decide +kernel
theorem dX6_copyFrom_5 : decode cX6_copyFrom 5 = .ok (.putfield 42, 3) := by decide +kernel
theorem dX6_copyFrom_8 : decode cX6_copyFrom 8 = .ok (.aload_n 1, 1) := by decide +kernel
theorem dX6_copyFrom_9 : decode cX6_copyFrom 9 = .ok (.getfield 9, 3) := by decide +kernel
theorem dX6_copyFrom_12 : decode cX6_copyFrom 12 = .ok (.aload_n 0, 1) := by decide +kernel
theorem dX6_copyFrom_13 : decode cX6_copyFrom 13 = .ok (.getfield 9, 3) := by decide +kernel
theorem dX6_copyFrom_16 : decode cX6_copyFrom 16 = .ok (.invokestatic 46, 3) := by decide +kernel
theorem dX6_copyFrom_19 : decode cX6_copyFrom 19 = .ok (.aload_n 1, 1) := by decide +kernel
theorem dX6_copyFrom_20 : decode cX6_copyFrom 20 = .ok (.getfield 15, 3) := by decide +kernel
theorem dX6_copyFrom_23 : decode cX6_copyFrom 23 = .ok (.aload_n 0, 1) := by decide +kernel
theorem dX6_copyFrom_24 : decode cX6_copyFrom 24 = .ok (.getfield 15, 3) := by decide +kernel
theorem dX6_copyFrom_27 : decode cX6_copyFrom 27 = .ok (.invokestatic 46, 3) := by decide +kernel
theorem dX6_copyFrom_30 : decode cX6_copyFrom 30 = .ok (.aload_n 1, 1) := by decide +kernel
theorem dX6_copyFrom_31 : decode cX6_copyFrom 31 = .ok (.getfield 18, 3) := by decide +kernel
theorem dX6_copyFrom_34 : decode cX6_copyFrom 34 = .ok (.aload_n 0, 1) := by decide +kernel
theorem dX6_copyFrom_35 : decode cX6_copyFrom 35 = .ok (.getfield 18, 3) := by decide +kernel
theorem dX6_copyFrom_38 : decode cX6_copyFrom 38 = .ok (.invokestatic 46, 3) := by decide +kernel
theorem dX6_copyFrom_41 : decode cX6_copyFrom 41 = .ok (.aload_n 1, 1) := by decide +kernel
theorem dX6_copyFrom_42 : decode cX6_copyFrom 42 = .ok (.getfield 21, 3) := by decide +kernel
theorem dX6_copyFrom_45 : decode cX6_copyFrom 45 = .ok (.aload_n 0, 1) := by decide +kernel
theorem dX6_copyFrom_46 : decode cX6_copyFrom 46 = .ok (.getfield 21, 3) := by decide +kernel
theorem dX6_copyFrom_49 : decode cX6_copyFrom 49 = .ok (.invokestatic 46, 3) := by decide +kernel
theorem dX6_copyFrom_52 : decode cX6_copyFrom 52 = .ok (.aload_n 1, 1) := by decide +kernel
theorem dX6_copyFrom_53 : decode cX6_copyFrom 53 = .ok (.getfield 24, 3) := by decide +kernel
theorem dX6_copyFrom_56 : decode cX6_copyFrom 56 = .ok (.aload_n 0, 1) := by decide +kernel
theorem dX6_copyFrom_57 : decode cX6_copyFrom 57 = .ok (.getfield 24, 3) := by decide +kernel
theorem dX6_copyFrom_60 : decode cX6_copyFrom 60 = .ok (.invokestatic 46, 3) := by decide +kernel
theorem dX6_copyFrom_63 : decode cX6_copyFrom 63 = .ok (.aload_n 1, 1) := by decide +kernel
theorem dX6_copyFrom_64 : decode cX6_copyFrom 64 = .ok (.getfield 27, 3) := by decide +kernel
theorem dX6_copyFrom_67 : decode cX6_copyFrom 67 = .ok (.aload_n 0, 1) := by decide +kernel
theorem dX6_copyFrom_68 : decode cX6_copyFrom 68 = .ok (.getfield 27, 3) := by decide +kernel
theorem dX6_copyFrom_71 : decode cX6_copyFrom 71 = .ok (.invokestatic 46, 3) := by decide +kernel
theorem dX6_copyFrom_74 : decode cX6_copyFrom 74 = .ok (.aload_n 1, 1) := by decide +kernel
theorem dX6_copyFrom_75 : decode cX6_copyFrom 75 = .ok (.getfield 30, 3) := by decide +kernel
theorem dX6_copyFrom_78 : decode cX6_copyFrom 78 = .ok (.aload_n 0, 1) := by decide +kernel
theorem dX6_copyFrom_79 : decode cX6_copyFrom 79 = .ok (.getfield 30, 3) := by decide +kernel
theorem dX6_copyFrom_82 : decode cX6_copyFrom 82 = .ok (.invokestatic 46, 3) := by decide +kernel
theorem dX6_copyFrom_85 : decode cX6_copyFrom 85 = .ok (.aload_n 1, 1) := by decide +kernel
theorem dX6_copyFrom_86 : decode cX6_copyFrom 86 = .ok (.getfield 33, 3) := by decide +kernel
theorem dX6_copyFrom_89 : decode cX6_copyFrom 89 = .ok (.aload_n 0, 1) := by decide +kernel
theorem dX6_copyFrom_90 : decode cX6_copyFrom 90 = .ok (.getfield 33, 3) := by decide +kernel
theorem dX6_copyFrom_93 : decode cX6_copyFrom 93 = .ok (.invokestatic 46, 3) := by decide +kernel
theorem dX6_copyFrom_96 : decode cX6_copyFrom 96 = .ok (.aload_n 1, 1) := by decide +kernel
theorem dX6_copyFrom_97 : decode cX6_copyFrom 97 = .ok (.getfield 36, 3) := by decide +kernel
theorem dX6_copyFrom_100 : decode cX6_copyFrom 100 = .ok (.aload_n 0, 1) := by decide +kernel
theorem dX6_copyFrom_101 : decode cX6_copyFrom 101 = .ok (.getfield 36, 3) := by decide +kernel
theorem dX6_copyFrom_104 : decode cX6_copyFrom 104 = .ok (.invokestatic 46, 3) := by decide +kernel
theorem dX6_copyFrom_107 : decode cX6_copyFrom 107 = .ok (.aload_n 1, 1) := by decide +kernel
theorem dX6_copyFrom_108 : decode cX6_copyFrom 108 = .ok (.getfield 39, 3) := by decide +kernel
theorem dX6_copyFrom_111 : decode cX6_copyFrom 111 = .ok (.aload_n 0, 1) := by decide +kernel
theorem dX6_copyFrom_112 : decode cX6_copyFrom 112 = .ok (.getfield 39, 3) := by decide +kernel
theorem dX6_copyFrom_115 : decode cX6_copyFrom 115 = .ok (.invokestatic 46, 3) := by decide +kernel
theorem dX6_copyFrom_118 : decode cX6_copyFrom 118 = .ok (.return_, 1) := by decide +kernel
theorem dX6_has_0 : decode cX6_has 0 = .ok (.iload_n 1, 1) := by decide +kernel
theorem dX6_has_1 : decode cX6_has 1 = .ok (.ifCond .lt 15, 3) := by decide +kernel
theorem dX6_has_4 : decode cX6_has 4 = .ok (.iload_n 1, 1) := by decide +kernel
theorem dX6_has_5 : decode cX6_has 5 = .ok (.aload_n 0, 1) := by decide +kernel
theorem dX6_has_6 : decode cX6_has 6 = .ok (.getfield 42, 3) := by decide +kernel
theorem dX6_has_9 : decode cX6_has 9 = .ok (.if_icmp .ge 7, 3) := by decide +kernel
theorem dX6_has_12 : decode cX6_has 12 = .ok (.iconst 1, 1) := by decide +kernel
theorem dX6_has_13 : decode cX6_has 13 = .ok (.goto 4, 3) := by decide +kernel
theorem dX6_has_16 : decode cX6_has 16 = .ok (.iconst 0, 1) := by decide +kernel
theorem dX6_has_17 : decode cX6_has 17 = .ok (.ireturn, 1) := by decide +kernel
set_option maxRecDepth 20000 in
theorem ggX6_isGone_X6_has : GoodIn wsX6_isGone wsX6_has := goodIn_r _ [6, 7, 8, 9, 10, 11, 12, 13, 14, 15, 16, 17, 18] (by decide +kernel) (by decide +kernel)
set_option maxRecDepth 20000 in
theorem gX6_isGone_X6_has : GoodIn wsX6_isGone (wsV RX6 50 RX6 yX6_has wsX6_has) := goodIn_app (goodIn_of _ (by decide +kernel)) ggX6_isGone_X6_has
theorem dX6_isGone_0 : decode cX6_isGone 0 = .ok (.aload_n 0, 1) := by decide +kernel
theorem dX6_isGone_1 : decode cX6_isGone 1 = .ok (.iload_n 1, 1) := by decide +kernel
theorem dX6_isGone_2 : decode cX6_isGone 2 = .ok (.invokevirtual 50, 3) := by decide +kernel
theorem dX6_isGone_5 : decode cX6_isGone 5 = .ok (.ifCond .eq 18, 3) := by decide +kernel
theorem dX6_isGone_8 : decode cX6_isGone 8 = .ok (.aload_n 0, 1) := by decide +kernel
theorem dX6_isGone_9 : decode cX6_isGone 9 = .ok (.getfield 24, 3) := by decide +kernel
theorem dX6_isGone_12 : decode cX6_isGone 12 = .ok (.iload_n 1, 1) := by decide +kernel
theorem dX6_isGone_13 : decode cX6_isGone 13 = .ok (.iaload, 1) := by decide +kernel
theorem dX6_isGone_14 : decode cX6_isGone 14 = .ok (.bipush 6, 2) := by decide +kernel
theorem dX6_isGone_16 : decode cX6_isGone 16 = .ok (.if_icmp .ne 7, 3) := by decide +kernel
theorem dX6_isGone_19 : decode cX6_isGone 19 = .ok (.iconst 1, 1) := by decide +kernel
theorem dX6_isGone_20 : decode cX6_isGone 20 = .ok (.goto 4, 3) := by decide +kernel
theorem dX6_isGone_23 : decode cX6_isGone 23 = .ok (.iconst 0, 1) := by decide +kernel
theorem dX6_isGone_24 : decode cX6_isGone 24 = .ok (.ireturn, 1) := by decide +kernel
theorem dX6_append_0 : decode cX6_append 0 = .ok (.aload_n 0, 1) := by decide +kernel
theorem dX6_append_1 : decode cX6_append 1 = .ok (.getfield 42, 3) := by decide +kernel
theorem dX6_append_4 : decode cX6_append 4 = .ok (.istore 5, 2) := by decide +kernel
theorem dX6_append_6 : decode cX6_append 6 = .ok (.iload 5, 2) := by decide +kernel
theorem dX6_append_8 : decode cX6_append 8 = .ok (.bipush 20, 2) := by decide +kernel
theorem dX6_append_10 : decode cX6_append 10 = .ok (.if_icmp .lt 6, 3) := by decide +kernel
theorem dX6_append_13 : decode cX6_append 13 = .ok (.bipush (-4), 2) := by decide +kernel
theorem dX6_append_15 : decode cX6_append 15 = .ok (.ireturn, 1) := by decide +kernel
theorem dX6_append_16 : decode cX6_append 16 = .ok (.aload_n 0, 1) := by decide +kernel
theorem dX6_append_17 : decode cX6_append 17 = .ok (.getfield 9, 3) := by decide +kernel
theorem dX6_append_20 : decode cX6_append 20 = .ok (.iload 5, 2) := by decide +kernel
theorem dX6_append_22 : decode cX6_append 22 = .ok (.iload_n 1, 1) := by decide +kernel
theorem dX6_append_23 : decode cX6_append 23 = .ok (.iastore, 1) := by decide +kernel
theorem dX6_append_24 : decode cX6_append 24 = .ok (.aload_n 0, 1) := by decide +kernel
theorem dX6_append_25 : decode cX6_append 25 = .ok (.getfield 15, 3) := by decide +kernel
theorem dX6_append_28 : decode cX6_append 28 = .ok (.iload 5, 2) := by decide +kernel
theorem dX6_append_30 : decode cX6_append 30 = .ok (.iload_n 2, 1) := by decide +kernel
theorem dX6_append_31 : decode cX6_append 31 = .ok (.iastore, 1) := by decide +kernel
theorem dX6_append_32 : decode cX6_append 32 = .ok (.aload_n 0, 1) := by decide +kernel
theorem dX6_append_33 : decode cX6_append 33 = .ok (.getfield 18, 3) := by decide +kernel
theorem dX6_append_36 : decode cX6_append 36 = .ok (.iload 5, 2) := by decide +kernel
theorem dX6_append_38 : decode cX6_append 38 = .ok (.iload_n 3, 1) := by decide +kernel
theorem dX6_append_39 : decode cX6_append 39 = .ok (.iastore, 1) := by decide +kernel
theorem dX6_append_40 : decode cX6_append 40 = .ok (.aload_n 0, 1) := by decide +kernel
theorem dX6_append_41 : decode cX6_append 41 = .ok (.getfield 21, 3) := by decide +kernel
theorem dX6_append_44 : decode cX6_append 44 = .ok (.iload 5, 2) := by decide +kernel
theorem dX6_append_46 : decode cX6_append 46 = .ok (.iload 4, 2) := by decide +kernel
theorem dX6_append_48 : decode cX6_append 48 = .ok (.iastore, 1) := by decide +kernel
theorem dX6_append_49 : decode cX6_append 49 = .ok (.aload_n 0, 1) := by decide +kernel
theorem dX6_append_50 : decode cX6_append 50 = .ok (.getfield 24, 3) := by decide +kernel
theorem dX6_append_53 : decode cX6_append 53 = .ok (.iload 5, 2) := by decide +kernel
theorem dX6_append_55 : decode cX6_append 55 = .ok (.iconst 0, 1) := by decide +kernel
theorem dX6_append_56 : decode cX6_append 56 = .ok (.iastore, 1) := by decide +kernel
theorem dX6_append_57 : decode cX6_append 57 = .ok (.aload_n 0, 1) := by decide +kernel
theorem dX6_append_58 : decode cX6_append 58 = .ok (.getfield 27, 3) := by decide +kernel
theorem dX6_append_61 : decode cX6_append 61 = .ok (.iload 5, 2) := by decide +kernel
theorem dX6_append_63 : decode cX6_append 63 = .ok (.iload_n 1, 1) := by decide +kernel
theorem dX6_append_64 : decode cX6_append 64 = .ok (.iastore, 1) := by decide +kernel
theorem dX6_append_65 : decode cX6_append 65 = .ok (.aload_n 0, 1) := by decide +kernel
theorem dX6_append_66 : decode cX6_append 66 = .ok (.getfield 30, 3) := by decide +kernel
theorem dX6_append_69 : decode cX6_append 69 = .ok (.iload 5, 2) := by decide +kernel
theorem dX6_append_71 : decode cX6_append 71 = .ok (.bipush (-6), 2) := by decide +kernel
theorem dX6_append_73 : decode cX6_append 73 = .ok (.iastore, 1) := by decide +kernel
theorem dX6_append_74 : decode cX6_append 74 = .ok (.aload_n 0, 1) := by decide +kernel
theorem dX6_append_75 : decode cX6_append 75 = .ok (.getfield 33, 3) := by decide +kernel
theorem dX6_append_78 : decode cX6_append 78 = .ok (.iload 5, 2) := by decide +kernel
theorem dX6_append_80 : decode cX6_append 80 = .ok (.bipush (-6), 2) := by decide +kernel
theorem dX6_append_82 : decode cX6_append 82 = .ok (.iastore, 1) := by decide +kernel
theorem dX6_append_83 : decode cX6_append 83 = .ok (.aload_n 0, 1) := by decide +kernel
theorem dX6_append_84 : decode cX6_append 84 = .ok (.getfield 36, 3) := by decide +kernel
theorem dX6_append_87 : decode cX6_append 87 = .ok (.iload 5, 2) := by decide +kernel
theorem dX6_append_89 : decode cX6_append 89 = .ok (.iconst 0, 1) := by decide +kernel
theorem dX6_append_90 : decode cX6_append 90 = .ok (.iastore, 1) := by decide +kernel
theorem dX6_append_91 : decode cX6_append 91 = .ok (.aload_n 0, 1) := by decide +kernel
theorem dX6_append_92 : decode cX6_append 92 = .ok (.getfield 39, 3) := by decide +kernel
theorem dX6_append_95 : decode cX6_append 95 = .ok (.iload 5, 2) := by decide +kernel
theorem dX6_append_97 : decode cX6_append 97 = .ok (.iconst 0, 1) := by decide +kernel
theorem dX6_append_98 : decode cX6_append 98 = .ok (.iastore, 1) := by decide +kernel
theorem dX6_append_99 : decode cX6_append 99 = .ok (.aload_n 0, 1) := by decide +kernel
theorem dX6_append_100 : decode cX6_append 100 = .ok (.dup, 1) := by decide +kernel
theorem dX6_append_101 : decode cX6_append 101 = .ok (.getfield 42, 3) := by decide +kernel
theorem dX6_append_104 : decode cX6_append 104 = .ok (.iconst 1, 1) := by decide +kernel
theorem dX6_append_105 : decode cX6_append 105 = .ok (.iadd, 1) := by decide +kernel
theorem dX6_append_106 : decode cX6_append 106 = .ok (.putfield 42, 3) := by decide +kernel
theorem dX6_append_109 : decode cX6_append 109 = .ok (.iload 5, 2) := by decide +kernel
theorem dX6_append_111 : decode cX6_append 111 = .ok (.ireturn, 1) := by decide +kernel
set_option maxRecDepth 20000 in
theorem ggX6_tell_X6_has : GoodIn wsX6_tell wsX6_has := goodIn_r _ [14, 15, 20, 21, 22, 23, 24, 25, 26, 27, 28, 29, 30] (by decide +kernel) (by decide +kernel)
set_option maxRecDepth 20000 in
theorem gX6_tell_X6_has : GoodIn wsX6_tell (wsV RX6 50 RX6 yX6_has wsX6_has) := goodIn_app (goodIn_of _ (by decide +kernel)) ggX6_tell_X6_has
set_option maxRecDepth 20000 in
theorem ggX6_tell_X6_standingOn : GoodIn wsX6_tell wsX6_standingOn := goodIn_r _ [19, 15, 4, 5, 20, 21, 22, 23, 24, 25, 26, 27, 28, 29, 30] (by decide +kernel) (by decide +kernel)
set_option maxRecDepth 20000 in
theorem gX6_tell_X6_standingOn : GoodIn wsX6_tell (wsV RX6 54 RX6 yX6_standingOn wsX6_standingOn) := goodIn_app (goodIn_of _ (by decide +kernel)) ggX6_tell_X6_standingOn
theorem dX6_tell_0 : decode cX6_tell 0 = .ok (.aload_n 0, 1) := by decide +kernel
theorem dX6_tell_1 : decode cX6_tell 1 = .ok (.iload_n 1, 1) := by decide +kernel
theorem dX6_tell_2 : decode cX6_tell 2 = .ok (.invokevirtual 50, 3) := by decide +kernel
theorem dX6_tell_5 : decode cX6_tell 5 = .ok (.ifCond .ne 5, 3) := by decide +kernel
theorem dX6_tell_8 : decode cX6_tell 8 = .ok (.iconst (-1), 1) := by decide +kernel
theorem dX6_tell_9 : decode cX6_tell 9 = .ok (.ireturn, 1) := by decide +kernel
theorem dX6_tell_10 : decode cX6_tell 10 = .ok (.iload_n 2, 1) := by decide +kernel
theorem dX6_tell_11 : decode cX6_tell 11 = .ok (.tableswitch 122 0 9 #[53, 60, 67, 74, 81, 88, 95, 102, 109, 115], 53) := by decide +kernel
theorem dX6_tell_64 : decode cX6_tell 64 = .ok (.aload_n 0, 1) := by decide +kernel
theorem dX6_tell_65 : decode cX6_tell 65 = .ok (.getfield 9, 3) := by decide +kernel
theorem dX6_tell_68 : decode cX6_tell 68 = .ok (.iload_n 1, 1) := by decide +kernel
theorem dX6_tell_69 : decode cX6_tell 69 = .ok (.iaload, 1) := by decide +kernel
theorem dX6_tell_70 : decode cX6_tell 70 = .ok (.ireturn, 1) := by decide +kernel
theorem dX6_tell_71 : decode cX6_tell 71 = .ok (.aload_n 0, 1) := by decide +kernel
theorem dX6_tell_72 : decode cX6_tell 72 = .ok (.getfield 15, 3) := by decide +kernel
theorem dX6_tell_75 : decode cX6_tell 75 = .ok (.iload_n 1, 1) := by decide +kernel
theorem dX6_tell_76 : decode cX6_tell 76 = .ok (.iaload, 1) := by decide +kernel
theorem dX6_tell_77 : decode cX6_tell 77 = .ok (.ireturn, 1) := by decide +kernel
theorem dX6_tell_78 : decode cX6_tell 78 = .ok (.aload_n 0, 1) := by decide +kernel
theorem dX6_tell_79 : decode cX6_tell 79 = .ok (.getfield 18, 3) := by decide +kernel
theorem dX6_tell_82 : decode cX6_tell 82 = .ok (.iload_n 1, 1) := by decide +kernel
theorem dX6_tell_83 : decode cX6_tell 83 = .ok (.iaload, 1) := by decide +kernel
theorem dX6_tell_84 : decode cX6_tell 84 = .ok (.ireturn, 1) := by decide +kernel
theorem dX6_tell_85 : decode cX6_tell 85 = .ok (.aload_n 0, 1) := by decide +kernel
theorem dX6_tell_86 : decode cX6_tell 86 = .ok (.getfield 21, 3) := by decide +kernel
theorem dX6_tell_89 : decode cX6_tell 89 = .ok (.iload_n 1, 1) := by decide +kernel
theorem dX6_tell_90 : decode cX6_tell 90 = .ok (.iaload, 1) := by decide +kernel
theorem dX6_tell_91 : decode cX6_tell 91 = .ok (.ireturn, 1) := by decide +kernel
theorem dX6_tell_92 : decode cX6_tell 92 = .ok (.aload_n 0, 1) := by decide +kernel
theorem dX6_tell_93 : decode cX6_tell 93 = .ok (.getfield 24, 3) := by decide +kernel
theorem dX6_tell_96 : decode cX6_tell 96 = .ok (.iload_n 1, 1) := by decide +kernel
theorem dX6_tell_97 : decode cX6_tell 97 = .ok (.iaload, 1) := by decide +kernel
theorem dX6_tell_98 : decode cX6_tell 98 = .ok (.ireturn, 1) := by decide +kernel
theorem dX6_tell_99 : decode cX6_tell 99 = .ok (.aload_n 0, 1) := by decide +kernel
theorem dX6_tell_100 : decode cX6_tell 100 = .ok (.getfield 27, 3) := by decide +kernel
theorem dX6_tell_103 : decode cX6_tell 103 = .ok (.iload_n 1, 1) := by decide +kernel
theorem dX6_tell_104 : decode cX6_tell 104 = .ok (.iaload, 1) := by decide +kernel
theorem dX6_tell_105 : decode cX6_tell 105 = .ok (.ireturn, 1) := by decide +kernel
theorem dX6_tell_106 : decode cX6_tell 106 = .ok (.aload_n 0, 1) := by decide +kernel
theorem dX6_tell_107 : decode cX6_tell 107 = .ok (.getfield 30, 3) := by decide +kernel
theorem dX6_tell_110 : decode cX6_tell 110 = .ok (.iload_n 1, 1) := by decide +kernel
theorem dX6_tell_111 : decode cX6_tell 111 = .ok (.iaload, 1) := by decide +kernel
theorem dX6_tell_112 : decode cX6_tell 112 = .ok (.ireturn, 1) := by decide +kernel
theorem dX6_tell_113 : decode cX6_tell 113 = .ok (.aload_n 0, 1) := by decide +kernel
theorem dX6_tell_114 : decode cX6_tell 114 = .ok (.getfield 33, 3) := by decide +kernel
theorem dX6_tell_117 : decode cX6_tell 117 = .ok (.iload_n 1, 1) := by decide +kernel
theorem dX6_tell_118 : decode cX6_tell 118 = .ok (.iaload, 1) := by decide +kernel
theorem dX6_tell_119 : decode cX6_tell 119 = .ok (.ireturn, 1) := by decide +kernel
theorem dX6_tell_120 : decode cX6_tell 120 = .ok (.aload_n 0, 1) := by decide +kernel
theorem dX6_tell_121 : decode cX6_tell 121 = .ok (.iload_n 1, 1) := by decide +kernel
theorem dX6_tell_122 : decode cX6_tell 122 = .ok (.invokevirtual 54, 3) := by decide +kernel
theorem dX6_tell_125 : decode cX6_tell 125 = .ok (.ireturn, 1) := by decide +kernel
theorem dX6_tell_126 : decode cX6_tell 126 = .ok (.aload_n 0, 1) := by decide +kernel
theorem dX6_tell_127 : decode cX6_tell 127 = .ok (.getfield 36, 3) := by decide +kernel
theorem dX6_tell_130 : decode cX6_tell 130 = .ok (.iload_n 1, 1) := by decide +kernel
theorem dX6_tell_131 : decode cX6_tell 131 = .ok (.iaload, 1) := by decide +kernel
theorem dX6_tell_132 : decode cX6_tell 132 = .ok (.ireturn, 1) := by decide +kernel
theorem dX6_tell_133 : decode cX6_tell 133 = .ok (.bipush (-2), 2) := by decide +kernel
theorem dX6_tell_135 : decode cX6_tell 135 = .ok (.ireturn, 1) := by decide +kernel
theorem dX6_standingOn_0 : decode cX6_standingOn 0 = .ok (.iconst 0, 1) := by decide +kernel
theorem dX6_standingOn_1 : decode cX6_standingOn 1 = .ok (.istore_n 2, 1) := by decide +kernel
theorem dX6_standingOn_2 : decode cX6_standingOn 2 = .ok (.iconst 0, 1) := by decide +kernel
theorem dX6_standingOn_3 : decode cX6_standingOn 3 = .ok (.istore_n 3, 1) := by decide +kernel
theorem dX6_standingOn_4 : decode cX6_standingOn 4 = .ok (.iload_n 3, 1) := by decide +kernel
theorem dX6_standingOn_5 : decode cX6_standingOn 5 = .ok (.aload_n 0, 1) := by decide +kernel
theorem dX6_standingOn_6 : decode cX6_standingOn 6 = .ok (.getfield 42, 3) := by decide +kernel
theorem dX6_standingOn_9 : decode cX6_standingOn 9 = .ok (.if_icmp .ge 36, 3) := by decide +kernel
theorem dX6_standingOn_12 : decode cX6_standingOn 12 = .ok (.aload_n 0, 1) := by decide +kernel
theorem dX6_standingOn_13 : decode cX6_standingOn 13 = .ok (.getfield 21, 3) := by decide +kernel
theorem dX6_standingOn_16 : decode cX6_standingOn 16 = .ok (.iload_n 3, 1) := by decide +kernel
theorem dX6_standingOn_17 : decode cX6_standingOn 17 = .ok (.iaload, 1) := by decide +kernel
theorem dX6_standingOn_18 : decode cX6_standingOn 18 = .ok (.iload_n 1, 1) := by decide +kernel
theorem dX6_standingOn_19 : decode cX6_standingOn 19 = .ok (.if_icmp .ne 20, 3) := by decide +kernel
theorem dX6_standingOn_22 : decode cX6_standingOn 22 = .ok (.aload_n 0, 1) := by decide +kernel
theorem dX6_standingOn_23 : decode cX6_standingOn 23 = .ok (.getfield 24, 3) := by decide +kernel
theorem dX6_standingOn_26 : decode cX6_standingOn 26 = .ok (.iload_n 3, 1) := by decide +kernel
theorem dX6_standingOn_27 : decode cX6_standingOn 27 = .ok (.iaload, 1) := by decide +kernel
theorem dX6_standingOn_28 : decode cX6_standingOn 28 = .ok (.bipush 6, 2) := by decide +kernel
theorem dX6_standingOn_30 : decode cX6_standingOn 30 = .ok (.if_icmp .eq 9, 3) := by decide +kernel
theorem dX6_standingOn_33 : decode cX6_standingOn 33 = .ok (.iload_n 2, 1) := by decide +kernel
theorem dX6_standingOn_34 : decode cX6_standingOn 34 = .ok (.iconst 1, 1) := by decide +kernel
theorem dX6_standingOn_35 : decode cX6_standingOn 35 = .ok (.iload_n 3, 1) := by decide +kernel
theorem dX6_standingOn_36 : decode cX6_standingOn 36 = .ok (.ishl, 1) := by decide +kernel
theorem dX6_standingOn_37 : decode cX6_standingOn 37 = .ok (.ior, 1) := by decide +kernel
theorem dX6_standingOn_38 : decode cX6_standingOn 38 = .ok (.istore_n 2, 1) := by decide +kernel
theorem dX6_standingOn_39 : decode cX6_standingOn 39 = .ok (.iinc 3 1, 3) := by decide +kernel
theorem dX6_standingOn_42 : decode cX6_standingOn 42 = .ok (.goto (-38), 3) := by decide +kernel
theorem dX6_standingOn_45 : decode cX6_standingOn 45 = .ok (.iload_n 2, 1) := by decide +kernel
theorem dX6_standingOn_46 : decode cX6_standingOn 46 = .ok (.ireturn, 1) := by decide +kernel
theorem dX6_countIn_0 : decode cX6_countIn 0 = .ok (.iconst 0, 1) := by decide +kernel
theorem dX6_countIn_1 : decode cX6_countIn 1 = .ok (.istore_n 2, 1) := by decide +kernel
theorem dX6_countIn_2 : decode cX6_countIn 2 = .ok (.iconst 0, 1) := by decide +kernel
theorem dX6_countIn_3 : decode cX6_countIn 3 = .ok (.istore_n 3, 1) := by decide +kernel
theorem dX6_countIn_4 : decode cX6_countIn 4 = .ok (.iload_n 3, 1) := by decide +kernel
theorem dX6_countIn_5 : decode cX6_countIn 5 = .ok (.aload_n 0, 1) := by decide +kernel
theorem dX6_countIn_6 : decode cX6_countIn 6 = .ok (.getfield 42, 3) := by decide +kernel
theorem dX6_countIn_9 : decode cX6_countIn 9 = .ok (.if_icmp .ge 22, 3) := by decide +kernel
theorem dX6_countIn_12 : decode cX6_countIn 12 = .ok (.aload_n 0, 1) := by decide +kernel
theorem dX6_countIn_13 : decode cX6_countIn 13 = .ok (.getfield 24, 3) := by decide +kernel
theorem dX6_countIn_16 : decode cX6_countIn 16 = .ok (.iload_n 3, 1) := by decide +kernel
theorem dX6_countIn_17 : decode cX6_countIn 17 = .ok (.iaload, 1) := by decide +kernel
theorem dX6_countIn_18 : decode cX6_countIn 18 = .ok (.iload_n 1, 1) := by decide +kernel
theorem dX6_countIn_19 : decode cX6_countIn 19 = .ok (.if_icmp .ne 6, 3) := by decide +kernel
theorem dX6_countIn_22 : decode cX6_countIn 22 = .ok (.iinc 2 1, 3) := by decide +kernel
theorem dX6_countIn_25 : decode cX6_countIn 25 = .ok (.iinc 3 1, 3) := by decide +kernel
theorem dX6_countIn_28 : decode cX6_countIn 28 = .ok (.goto (-24), 3) := by decide +kernel
theorem dX6_countIn_31 : decode cX6_countIn 31 = .ok (.iload_n 2, 1) := by decide +kernel
theorem dX6_countIn_32 : decode cX6_countIn 32 = .ok (.ireturn, 1) := by decide +kernel
theorem dX6_metersAtDock_0 : decode cX6_metersAtDock 0 = .ok (.iconst 0, 1) := by decide +kernel
theorem dX6_metersAtDock_1 : decode cX6_metersAtDock 1 = .ok (.istore_n 1, 1) := by decide +kernel
theorem dX6_metersAtDock_2 : decode cX6_metersAtDock 2 = .ok (.iconst 0, 1) := by decide +kernel
theorem dX6_metersAtDock_3 : decode cX6_metersAtDock 3 = .ok (.istore_n 2, 1) := by decide +kernel
theorem dX6_metersAtDock_4 : decode cX6_metersAtDock 4 = .ok (.iload_n 2, 1) := by decide +kernel
theorem dX6_metersAtDock_5 : decode cX6_metersAtDock 5 = .ok (.aload_n 0, 1) := by decide +kernel
theorem dX6_metersAtDock_6 : decode cX6_metersAtDock 6 = .ok (.getfield 42, 3) := by decide +kernel
theorem dX6_metersAtDock_9 : decode cX6_metersAtDock 9 = .ok (.if_icmp .ge 28, 3) := by decide +kernel
theorem dX6_metersAtDock_12 : decode cX6_metersAtDock 12 = .ok (.aload_n 0, 1) := by decide +kernel
theorem dX6_metersAtDock_13 : decode cX6_metersAtDock 13 = .ok (.getfield 24, 3) := by decide +kernel
theorem dX6_metersAtDock_16 : decode cX6_metersAtDock 16 = .ok (.iload_n 2, 1) := by decide +kernel
theorem dX6_metersAtDock_17 : decode cX6_metersAtDock 17 = .ok (.iaload, 1) := by decide +kernel
theorem dX6_metersAtDock_18 : decode cX6_metersAtDock 18 = .ok (.iconst 1, 1) := by decide +kernel
theorem dX6_metersAtDock_19 : decode cX6_metersAtDock 19 = .ok (.if_icmp .ne 12, 3) := by decide +kernel
theorem dX6_metersAtDock_22 : decode cX6_metersAtDock 22 = .ok (.iload_n 1, 1) := by decide +kernel
theorem dX6_metersAtDock_23 : decode cX6_metersAtDock 23 = .ok (.aload_n 0, 1) := by decide +kernel
theorem dX6_metersAtDock_24 : decode cX6_metersAtDock 24 = .ok (.getfield 15, 3) := by decide +kernel
theorem dX6_metersAtDock_27 : decode cX6_metersAtDock 27 = .ok (.iload_n 2, 1) := by decide +kernel
theorem dX6_metersAtDock_28 : decode cX6_metersAtDock 28 = .ok (.iaload, 1) := by decide +kernel
theorem dX6_metersAtDock_29 : decode cX6_metersAtDock 29 = .ok (.iadd, 1) := by decide +kernel
theorem dX6_metersAtDock_30 : decode cX6_metersAtDock 30 = .ok (.istore_n 1, 1) := by decide +kernel
theorem dX6_metersAtDock_31 : decode cX6_metersAtDock 31 = .ok (.iinc 2 1, 3) := by decide +kernel
theorem dX6_metersAtDock_34 : decode cX6_metersAtDock 34 = .ok (.goto (-30), 3) := by decide +kernel
theorem dX6_metersAtDock_37 : decode cX6_metersAtDock 37 = .ok (.iload_n 1, 1) := by decide +kernel
theorem dX6_metersAtDock_38 : decode cX6_metersAtDock 38 = .ok (.ireturn, 1) := by decide +kernel
theorem dX6_builtWithoutPower_0 : decode cX6_builtWithoutPower 0 = .ok (.iconst 0, 1) := by decide +kernel
theorem dX6_builtWithoutPower_1 : decode cX6_builtWithoutPower 1 = .ok (.istore_n 1, 1) := by decide +kernel
theorem dX6_builtWithoutPower_2 : decode cX6_builtWithoutPower 2 = .ok (.iconst 0, 1) := by decide +kernel
theorem dX6_builtWithoutPower_3 : decode cX6_builtWithoutPower 3 = .ok (.istore_n 2, 1) := by decide +kernel
theorem dX6_builtWithoutPower_4 : decode cX6_builtWithoutPower 4 = .ok (.iload_n 2, 1) := by decide +kernel
theorem dX6_builtWithoutPower_5 : decode cX6_builtWithoutPower 5 = .ok (.aload_n 0, 1) := by decide +kernel
theorem dX6_builtWithoutPower_6 : decode cX6_builtWithoutPower 6 = .ok (.getfield 42, 3) := by decide +kernel
theorem dX6_builtWithoutPower_9 : decode cX6_builtWithoutPower 9 = .ok (.if_icmp .ge 42, 3) := by decide +kernel
theorem dX6_builtWithoutPower_12 : decode cX6_builtWithoutPower 12 = .ok (.aload_n 0, 1) := by decide +kernel
theorem dX6_builtWithoutPower_13 : decode cX6_builtWithoutPower 13 = .ok (.getfield 24, 3) := by decide +kernel
theorem dX6_builtWithoutPower_16 : decode cX6_builtWithoutPower 16 = .ok (.iload_n 2, 1) := by decide +kernel
theorem dX6_builtWithoutPower_17 : decode cX6_builtWithoutPower 17 = .ok (.iaload, 1) := by decide +kernel
theorem dX6_builtWithoutPower_18 : decode cX6_builtWithoutPower 18 = .ok (.iconst 4, 1) := by decide +kernel
theorem dX6_builtWithoutPower_19 : decode cX6_builtWithoutPower 19 = .ok (.if_icmp .ne 26, 3) := by decide +kernel
theorem dX6_builtWithoutPower_22 : decode cX6_builtWithoutPower 22 = .ok (.aload_n 0, 1) := by decide +kernel
theorem dX6_builtWithoutPower_23 : decode cX6_builtWithoutPower 23 = .ok (.getfield 18, 3) := by decide +kernel
theorem dX6_builtWithoutPower_26 : decode cX6_builtWithoutPower 26 = .ok (.iload_n 2, 1) := by decide +kernel
theorem dX6_builtWithoutPower_27 : decode cX6_builtWithoutPower 27 = .ok (.iaload, 1) := by decide +kernel
theorem dX6_builtWithoutPower_28 : decode cX6_builtWithoutPower 28 = .ok (.ifCond .le 17, 3) := by decide +kernel
theorem dX6_builtWithoutPower_31 : decode cX6_builtWithoutPower 31 = .ok (.aload_n 0, 1) := by decide +kernel
theorem dX6_builtWithoutPower_32 : decode cX6_builtWithoutPower 32 = .ok (.getfield 30, 3) := by decide +kernel
theorem dX6_builtWithoutPower_35 : decode cX6_builtWithoutPower 35 = .ok (.iload_n 2, 1) := by decide +kernel
theorem dX6_builtWithoutPower_36 : decode cX6_builtWithoutPower 36 = .ok (.iaload, 1) := by decide +kernel
theorem dX6_builtWithoutPower_37 : decode cX6_builtWithoutPower 37 = .ok (.bipush (-6), 2) := by decide +kernel
theorem dX6_builtWithoutPower_39 : decode cX6_builtWithoutPower 39 = .ok (.if_icmp .ne 6, 3) := by decide +kernel
theorem dX6_builtWithoutPower_42 : decode cX6_builtWithoutPower 42 = .ok (.iinc 1 1, 3) := by decide +kernel
theorem dX6_builtWithoutPower_45 : decode cX6_builtWithoutPower 45 = .ok (.iinc 2 1, 3) := by decide +kernel
theorem dX6_builtWithoutPower_48 : decode cX6_builtWithoutPower 48 = .ok (.goto (-44), 3) := by decide +kernel
theorem dX6_builtWithoutPower_51 : decode cX6_builtWithoutPower 51 = .ok (.iload_n 1, 1) := by decide +kernel
theorem dX6_builtWithoutPower_52 : decode cX6_builtWithoutPower 52 = .ok (.ireturn, 1) := by decide +kernel
set_option maxRecDepth 20000 in
theorem ggX6_baseIsBuilt_X6_has : GoodIn wsX6_baseIsBuilt wsX6_has := goodIn_r _ [7, 8, 9, 10, 11, 12, 13, 14, 15, 16, 17, 18, 19] (by decide +kernel) (by decide +kernel)
set_option maxRecDepth 20000 in
theorem gX6_baseIsBuilt_X6_has : GoodIn wsX6_baseIsBuilt (wsV RX6 50 RX6 yX6_has wsX6_has) := goodIn_app (goodIn_of _ (by decide +kernel)) ggX6_baseIsBuilt_X6_has
theorem dX6_baseIsBuilt_0 : decode cX6_baseIsBuilt 0 = .ok (.aload_n 0, 1) := by decide +kernel
theorem dX6_baseIsBuilt_1 : decode cX6_baseIsBuilt 1 = .ok (.iload_n 1, 1) := by decide +kernel
theorem dX6_baseIsBuilt_2 : decode cX6_baseIsBuilt 2 = .ok (.invokevirtual 50, 3) := by decide +kernel
theorem dX6_baseIsBuilt_5 : decode cX6_baseIsBuilt 5 = .ok (.ifCond .ne 5, 3) := by decide +kernel
theorem dX6_baseIsBuilt_8 : decode cX6_baseIsBuilt 8 = .ok (.iconst 0, 1) := by decide +kernel
theorem dX6_baseIsBuilt_9 : decode cX6_baseIsBuilt 9 = .ok (.ireturn, 1) := by decide +kernel
theorem dX6_baseIsBuilt_10 : decode cX6_baseIsBuilt 10 = .ok (.aload_n 0, 1) := by decide +kernel
theorem dX6_baseIsBuilt_11 : decode cX6_baseIsBuilt 11 = .ok (.getfield 21, 3) := by decide +kernel
theorem dX6_baseIsBuilt_14 : decode cX6_baseIsBuilt 14 = .ok (.iload_n 1, 1) := by decide +kernel
theorem dX6_baseIsBuilt_15 : decode cX6_baseIsBuilt 15 = .ok (.iaload, 1) := by decide +kernel
theorem dX6_baseIsBuilt_16 : decode cX6_baseIsBuilt 16 = .ok (.istore_n 2, 1) := by decide +kernel
theorem dX6_baseIsBuilt_17 : decode cX6_baseIsBuilt 17 = .ok (.aload_n 0, 1) := by decide +kernel
theorem dX6_baseIsBuilt_18 : decode cX6_baseIsBuilt 18 = .ok (.iload_n 2, 1) := by decide +kernel
theorem dX6_baseIsBuilt_19 : decode cX6_baseIsBuilt 19 = .ok (.invokevirtual 50, 3) := by decide +kernel
theorem dX6_baseIsBuilt_22 : decode cX6_baseIsBuilt 22 = .ok (.ifCond .eq 13, 3) := by decide +kernel
theorem dX6_baseIsBuilt_25 : decode cX6_baseIsBuilt 25 = .ok (.aload_n 0, 1) := by decide +kernel
theorem dX6_baseIsBuilt_26 : decode cX6_baseIsBuilt 26 = .ok (.getfield 24, 3) := by decide +kernel
theorem dX6_baseIsBuilt_29 : decode cX6_baseIsBuilt 29 = .ok (.iload_n 2, 1) := by decide +kernel
theorem dX6_baseIsBuilt_30 : decode cX6_baseIsBuilt 30 = .ok (.iaload, 1) := by decide +kernel
theorem dX6_baseIsBuilt_31 : decode cX6_baseIsBuilt 31 = .ok (.iconst 4, 1) := by decide +kernel
theorem dX6_baseIsBuilt_32 : decode cX6_baseIsBuilt 32 = .ok (.if_icmp .ne 7, 3) := by decide +kernel
theorem dX6_baseIsBuilt_35 : decode cX6_baseIsBuilt 35 = .ok (.iconst 1, 1) := by decide +kernel
theorem dX6_baseIsBuilt_36 : decode cX6_baseIsBuilt 36 = .ok (.goto 4, 3) := by decide +kernel
theorem dX6_baseIsBuilt_39 : decode cX6_baseIsBuilt 39 = .ok (.iconst 0, 1) := by decide +kernel
theorem dX6_baseIsBuilt_40 : decode cX6_baseIsBuilt 40 = .ok (.ireturn, 1) := by decide +kernel
set_option maxRecDepth 20000 in
theorem ggX6_nextToBuild_X6_baseIsBuilt : GoodIn wsX6_nextToBuild wsX6_baseIsBuilt := goodIn_r _ [7, 8, 2, 9, 10, 11, 6, 12, 1, 13, 14, 15, 16, 17, 18, 19, 20, 21, 22, 23] (by decide +kernel) (by decide +kernel)
set_option maxRecDepth 20000 in
theorem gX6_nextToBuild_X6_baseIsBuilt : GoodIn wsX6_nextToBuild (wsV RX6 58 RX6 yX6_baseIsBuilt wsX6_baseIsBuilt) := goodIn_app (goodIn_of _ (by decide +kernel)) ggX6_nextToBuild_X6_baseIsBuilt
theorem dX6_nextToBuild_0 : decode cX6_nextToBuild 0 = .ok (.iconst 0, 1) := by decide +kernel
theorem dX6_nextToBuild_1 : decode cX6_nextToBuild 1 = .ok (.istore_n 1, 1) := by decide +kernel
theorem dX6_nextToBuild_2 : decode cX6_nextToBuild 2 = .ok (.iload_n 1, 1) := by decide +kernel
theorem dX6_nextToBuild_3 : decode cX6_nextToBuild 3 = .ok (.aload_n 0, 1) := by decide +kernel
theorem dX6_nextToBuild_4 : decode cX6_nextToBuild 4 = .ok (.getfield 42, 3) := by decide +kernel
theorem dX6_nextToBuild_7 : decode cX6_nextToBuild 7 = .ok (.if_icmp .ge 29, 3) := by decide +kernel
theorem dX6_nextToBuild_10 : decode cX6_nextToBuild 10 = .ok (.aload_n 0, 1) := by decide +kernel
theorem dX6_nextToBuild_11 : decode cX6_nextToBuild 11 = .ok (.getfield 24, 3) := by decide +kernel
theorem dX6_nextToBuild_14 : decode cX6_nextToBuild 14 = .ok (.iload_n 1, 1) := by decide +kernel
theorem dX6_nextToBuild_15 : decode cX6_nextToBuild 15 = .ok (.iaload, 1) := by decide +kernel
theorem dX6_nextToBuild_16 : decode cX6_nextToBuild 16 = .ok (.iconst 2, 1) := by decide +kernel
theorem dX6_nextToBuild_17 : decode cX6_nextToBuild 17 = .ok (.if_icmp .ne 13, 3) := by decide +kernel
theorem dX6_nextToBuild_20 : decode cX6_nextToBuild 20 = .ok (.aload_n 0, 1) := by decide +kernel
theorem dX6_nextToBuild_21 : decode cX6_nextToBuild 21 = .ok (.iload_n 1, 1) := by decide +kernel
theorem dX6_nextToBuild_22 : decode cX6_nextToBuild 22 = .ok (.invokevirtual 58, 3) := by decide +kernel
theorem dX6_nextToBuild_25 : decode cX6_nextToBuild 25 = .ok (.ifCond .eq 5, 3) := by decide +kernel
theorem dX6_nextToBuild_28 : decode cX6_nextToBuild 28 = .ok (.iload_n 1, 1) := by decide +kernel
theorem dX6_nextToBuild_29 : decode cX6_nextToBuild 29 = .ok (.ireturn, 1) := by decide +kernel
theorem dX6_nextToBuild_30 : decode cX6_nextToBuild 30 = .ok (.iinc 1 1, 3) := by decide +kernel
theorem dX6_nextToBuild_33 : decode cX6_nextToBuild 33 = .ok (.goto (-31), 3) := by decide +kernel
theorem dX6_nextToBuild_36 : decode cX6_nextToBuild 36 = .ok (.bipush (-6), 2) := by decide +kernel
theorem dX6_nextToBuild_38 : decode cX6_nextToBuild 38 = .ok (.ireturn, 1) := by decide +kernel
set_option maxRecDepth 20000 in
theorem ggX6_nextToDismantle_X6_standingOn : GoodIn wsX6_nextToDismantle wsX6_standingOn := goodIn_r _ [7, 1, 8, 2, 9, 10, 11, 12, 13, 14, 15, 16, 17, 18, 19] (by decide +kernel) (by decide +kernel)
set_option maxRecDepth 20000 in
theorem gX6_nextToDismantle_X6_standingOn : GoodIn wsX6_nextToDismantle (wsV RX6 54 RX6 yX6_standingOn wsX6_standingOn) := goodIn_app (goodIn_of _ (by decide +kernel)) ggX6_nextToDismantle_X6_standingOn
theorem dX6_nextToDismantle_0 : decode cX6_nextToDismantle 0 = .ok (.aload_n 0, 1) := by decide +kernel
theorem dX6_nextToDismantle_1 : decode cX6_nextToDismantle 1 = .ok (.getfield 42, 3) := by decide +kernel
theorem dX6_nextToDismantle_4 : decode cX6_nextToDismantle 4 = .ok (.iconst 1, 1) := by decide +kernel
theorem dX6_nextToDismantle_5 : decode cX6_nextToDismantle 5 = .ok (.isub, 1) := by decide +kernel
theorem dX6_nextToDismantle_6 : decode cX6_nextToDismantle 6 = .ok (.istore_n 1, 1) := by decide +kernel
theorem dX6_nextToDismantle_7 : decode cX6_nextToDismantle 7 = .ok (.iload_n 1, 1) := by decide +kernel
theorem dX6_nextToDismantle_8 : decode cX6_nextToDismantle 8 = .ok (.ifCond .lt 29, 3) := by decide +kernel
theorem dX6_nextToDismantle_11 : decode cX6_nextToDismantle 11 = .ok (.aload_n 0, 1) := by decide +kernel
theorem dX6_nextToDismantle_12 : decode cX6_nextToDismantle 12 = .ok (.getfield 24, 3) := by decide +kernel
theorem dX6_nextToDismantle_15 : decode cX6_nextToDismantle 15 = .ok (.iload_n 1, 1) := by decide +kernel
theorem dX6_nextToDismantle_16 : decode cX6_nextToDismantle 16 = .ok (.iaload, 1) := by decide +kernel
theorem dX6_nextToDismantle_17 : decode cX6_nextToDismantle 17 = .ok (.iconst 4, 1) := by decide +kernel
theorem dX6_nextToDismantle_18 : decode cX6_nextToDismantle 18 = .ok (.if_icmp .ne 13, 3) := by decide +kernel
theorem dX6_nextToDismantle_21 : decode cX6_nextToDismantle 21 = .ok (.aload_n 0, 1) := by decide +kernel
theorem dX6_nextToDismantle_22 : decode cX6_nextToDismantle 22 = .ok (.iload_n 1, 1) := by decide +kernel
theorem dX6_nextToDismantle_23 : decode cX6_nextToDismantle 23 = .ok (.invokevirtual 54, 3) := by decide +kernel
theorem dX6_nextToDismantle_26 : decode cX6_nextToDismantle 26 = .ok (.ifCond .ne 5, 3) := by decide +kernel
theorem dX6_nextToDismantle_29 : decode cX6_nextToDismantle 29 = .ok (.iload_n 1, 1) := by decide +kernel
theorem dX6_nextToDismantle_30 : decode cX6_nextToDismantle 30 = .ok (.ireturn, 1) := by decide +kernel
theorem dX6_nextToDismantle_31 : decode cX6_nextToDismantle 31 = .ok (.iinc 1 (-1), 3) := by decide +kernel
theorem dX6_nextToDismantle_34 : decode cX6_nextToDismantle 34 = .ok (.goto (-27), 3) := by decide +kernel
theorem dX6_nextToDismantle_37 : decode cX6_nextToDismantle 37 = .ok (.bipush (-6), 2) := by decide +kernel
theorem dX6_nextToDismantle_39 : decode cX6_nextToDismantle 39 = .ok (.ireturn, 1) := by decide +kernel
theorem dX6_clearUnbuilt_0 : decode cX6_clearUnbuilt 0 = .ok (.iconst 0, 1) := by decide +kernel
theorem dX6_clearUnbuilt_1 : decode cX6_clearUnbuilt 1 = .ok (.istore_n 1, 1) := by decide +kernel
theorem dX6_clearUnbuilt_2 : decode cX6_clearUnbuilt 2 = .ok (.iconst 0, 1) := by decide +kernel
theorem dX6_clearUnbuilt_3 : decode cX6_clearUnbuilt 3 = .ok (.istore_n 2, 1) := by decide +kernel
theorem dX6_clearUnbuilt_4 : decode cX6_clearUnbuilt 4 = .ok (.iload_n 2, 1) := by decide +kernel
theorem dX6_clearUnbuilt_5 : decode cX6_clearUnbuilt 5 = .ok (.aload_n 0, 1) := by decide +kernel
theorem dX6_clearUnbuilt_6 : decode cX6_clearUnbuilt 6 = .ok (.getfield 42, 3) := by decide +kernel
theorem dX6_clearUnbuilt_9 : decode cX6_clearUnbuilt 9 = .ok (.if_icmp .ge 45, 3) := by decide +kernel
theorem dX6_clearUnbuilt_12 : decode cX6_clearUnbuilt 12 = .ok (.aload_n 0, 1) := by decide +kernel
theorem dX6_clearUnbuilt_13 : decode cX6_clearUnbuilt 13 = .ok (.getfield 24, 3) := by decide +kernel
theorem dX6_clearUnbuilt_16 : decode cX6_clearUnbuilt 16 = .ok (.iload_n 2, 1) := by decide +kernel
theorem dX6_clearUnbuilt_17 : decode cX6_clearUnbuilt 17 = .ok (.iaload, 1) := by decide +kernel
theorem dX6_clearUnbuilt_18 : decode cX6_clearUnbuilt 18 = .ok (.iconst 4, 1) := by decide +kernel
theorem dX6_clearUnbuilt_19 : decode cX6_clearUnbuilt 19 = .ok (.if_icmp .ge 29, 3) := by decide +kernel
theorem dX6_clearUnbuilt_22 : decode cX6_clearUnbuilt 22 = .ok (.aload_n 0, 1) := by decide +kernel
theorem dX6_clearUnbuilt_23 : decode cX6_clearUnbuilt 23 = .ok (.getfield 24, 3) := by decide +kernel
theorem dX6_clearUnbuilt_26 : decode cX6_clearUnbuilt 26 = .ok (.iload_n 2, 1) := by decide +kernel
theorem dX6_clearUnbuilt_27 : decode cX6_clearUnbuilt 27 = .ok (.bipush 6, 2) := by decide +kernel
theorem dX6_clearUnbuilt_29 : decode cX6_clearUnbuilt 29 = .ok (.iastore, 1) := by decide +kernel
theorem dX6_clearUnbuilt_30 : decode cX6_clearUnbuilt 30 = .ok (.aload_n 0, 1) := by decide +kernel
theorem dX6_clearUnbuilt_31 : decode cX6_clearUnbuilt 31 = .ok (.getfield 27, 3) := by decide +kernel
theorem dX6_clearUnbuilt_34 : decode cX6_clearUnbuilt 34 = .ok (.iload_n 2, 1) := by decide +kernel
theorem dX6_clearUnbuilt_35 : decode cX6_clearUnbuilt 35 = .ok (.iconst 0, 1) := by decide +kernel
theorem dX6_clearUnbuilt_36 : decode cX6_clearUnbuilt 36 = .ok (.iastore, 1) := by decide +kernel
theorem dX6_clearUnbuilt_37 : decode cX6_clearUnbuilt 37 = .ok (.aload_n 0, 1) := by decide +kernel
theorem dX6_clearUnbuilt_38 : decode cX6_clearUnbuilt 38 = .ok (.getfield 33, 3) := by decide +kernel
theorem dX6_clearUnbuilt_41 : decode cX6_clearUnbuilt 41 = .ok (.iload_n 2, 1) := by decide +kernel
theorem dX6_clearUnbuilt_42 : decode cX6_clearUnbuilt 42 = .ok (.bipush (-6), 2) := by decide +kernel
theorem dX6_clearUnbuilt_44 : decode cX6_clearUnbuilt 44 = .ok (.iastore, 1) := by decide +kernel
theorem dX6_clearUnbuilt_45 : decode cX6_clearUnbuilt 45 = .ok (.iinc 1 1, 3) := by decide +kernel
theorem dX6_clearUnbuilt_48 : decode cX6_clearUnbuilt 48 = .ok (.iinc 2 1, 3) := by decide +kernel
theorem dX6_clearUnbuilt_51 : decode cX6_clearUnbuilt 51 = .ok (.goto (-47), 3) := by decide +kernel
theorem dX6_clearUnbuilt_54 : decode cX6_clearUnbuilt 54 = .ok (.iload_n 1, 1) := by decide +kernel
theorem dX6_clearUnbuilt_55 : decode cX6_clearUnbuilt 55 = .ok (.ireturn, 1) := by decide +kernel
