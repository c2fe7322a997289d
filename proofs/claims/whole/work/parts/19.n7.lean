set_option maxRecDepth 20000 in
theorem ggX7_init_X1_init : GoodIn wsX7_init wsX1_init := goodIn_r _ [23, 24, 2, 3, 25, 26, 27, 28, 29, 30, 31, 32, 33, 34, 35, 36, 37, 38, 39, 40, 41, 42, 43, 44, 45, 46, 47, 48, 49, 50, 51, 52, 53, 54, 55, 56, 57, 58, 59, 60, 61, 62, 63, 90, 91, 92, 93, 94, 95, 96, 116, 117, 118, 119, 120, 121, 122, 123, 124, 125, 126, 127, 128, 129, 130, 131, 132, 133] (by decide +kernel) (by decide +kernel)
set_option maxRecDepth 20000 in
theorem gX7_init_X1_init_n9 : GoodIn wsX7_init (wsX1_init) := ggX7_init_X1_init
set_option maxRecDepth 20000 in
theorem ggX7_init_X2_init : GoodIn wsX7_init wsX2_init := goodIn_r _ [66, 67, 2, 3, 68, 69, 5, 6, 22, 23, 24, 25, 26, 27, 28, 29, 30, 31, 32, 33, 34, 35, 36, 37, 38, 39, 40, 41, 42, 43, 44, 45, 46, 47, 48, 49, 50, 51, 52, 53, 54, 55, 56, 57, 58, 59, 60, 61, 62, 63, 103, 104, 105, 90, 91, 92, 93, 94, 95, 96, 116, 117, 118, 119, 120, 121, 122, 123, 124, 125, 126, 127, 128, 129, 130, 131, 132, 133] (by decide +kernel) (by decide +kernel)
set_option maxRecDepth 20000 in
theorem gX7_init_X2_init : GoodIn wsX7_init (wsX2_init) := ggX7_init_X2_init
set_option maxRecDepth 20000 in
theorem ggX7_init_X5_init : GoodIn wsX7_init wsX5_init := goodIn_r _ [72, 73, 2, 3, 74, 75, 76, 77, 5, 6, 22, 23, 24, 25, 26, 27, 28, 29, 30, 31, 32, 33, 34, 35, 36, 37, 38, 39, 40, 41, 42, 43, 44, 45, 46, 47, 48, 49, 50, 51, 52, 53, 54, 55, 56, 57, 58, 59, 60, 61, 62, 63, 106, 107, 90, 91, 92, 93, 94, 95, 96, 116, 117, 118, 119, 120, 121, 122, 123, 124, 125, 126, 127, 128, 129, 130, 131, 132, 133] (by decide +kernel) (by decide +kernel)
set_option maxRecDepth 20000 in
theorem gX7_init_X5_init : GoodIn wsX7_init (wsX5_init) := ggX7_init_X5_init
set_option maxRecDepth 20000 in
theorem ggX7_init_X3_init : GoodIn wsX7_init wsX3_init := goodIn_r _ [79, 80, 2, 3, 81, 82, 83, 84, 85, 86, 87, 88, 89, 134, 135, 108, 109, 110, 111, 112, 113, 114, 115] (by decide +kernel) (by decide +kernel)
set_option maxRecDepth 20000 in
theorem gX7_init_X3_init_n35 : GoodIn wsX7_init (wsX3_init) := ggX7_init_X3_init
theorem dX7_init_0 : decode cX7_init 0 = .ok (.aload_n 0, 1) := by decide +kernel
theorem dX7_init_1 : decode cX7_init 1 = .ok (.invokespecial 1, 3) := by decide +kernel
theorem dX7_init_4 : decode cX7_init 4 = .ok (.aload_n 0, 1) := by decide +kernel
theorem dX7_init_5 : decode cX7_init 5 = .ok (.new 7, 3) := by decide +kernel
theorem dX7_init_8 : decode cX7_init 8 = .ok (.dup, 1) := by decide +kernel
theorem dX7_init_9 : decode cX7_init 9 = .ok (.invokespecial 9, 3) := by decide +kernel
theorem dX7_init_12 : decode cX7_init 12 = .ok (.putfield 10, 3) := by decide +kernel
theorem dX7_init_15 : decode cX7_init 15 = .ok (.aload_n 0, 1) := by decide +kernel
theorem dX7_init_16 : decode cX7_init 16 = .ok (.new 7, 3) := by decide +kernel
theorem dX7_init_19 : decode cX7_init 19 = .ok (.dup, 1) := by decide +kernel
theorem dX7_init_20 : decode cX7_init 20 = .ok (.invokespecial 9, 3) := by decide +kernel
theorem dX7_init_23 : decode cX7_init 23 = .ok (.putfield 16, 3) := by decide +kernel
theorem dX7_init_26 : decode cX7_init 26 = .ok (.aload_n 0, 1) := by decide +kernel
theorem dX7_init_27 : decode cX7_init 27 = .ok (.new 19, 3) := by decide +kernel
theorem dX7_init_30 : decode cX7_init 30 = .ok (.dup, 1) := by decide +kernel
theorem dX7_init_31 : decode cX7_init 31 = .ok (.invokespecial 21, 3) := by decide +kernel
theorem dX7_init_34 : decode cX7_init 34 = .ok (.putfield 22, 3) := by decide +kernel
theorem dX7_init_37 : decode cX7_init 37 = .ok (.aload_n 0, 1) := by decide +kernel
theorem dX7_init_38 : decode cX7_init 38 = .ok (.new 26, 3) := by decide +kernel
theorem dX7_init_41 : decode cX7_init 41 = .ok (.dup, 1) := by decide +kernel
theorem dX7_init_42 : decode cX7_init 42 = .ok (.invokespecial 28, 3) := by decide +kernel
theorem dX7_init_45 : decode cX7_init 45 = .ok (.putfield 29, 3) := by decide +kernel
theorem dX7_init_48 : decode cX7_init 48 = .ok (.aload_n 0, 1) := by decide +kernel
theorem dX7_init_49 : decode cX7_init 49 = .ok (.new 33, 3) := by decide +kernel
theorem dX7_init_52 : decode cX7_init 52 = .ok (.dup, 1) := by decide +kernel
theorem dX7_init_53 : decode cX7_init 53 = .ok (.invokespecial 35, 3) := by decide +kernel
theorem dX7_init_56 : decode cX7_init 56 = .ok (.putfield 36, 3) := by decide +kernel
theorem dX7_init_59 : decode cX7_init 59 = .ok (.aload_n 0, 1) := by decide +kernel
theorem dX7_init_60 : decode cX7_init 60 = .ok (.aload_n 0, 1) := by decide +kernel
theorem dX7_init_61 : decode cX7_init 61 = .ok (.getfield 36, 3) := by decide +kernel
theorem dX7_init_64 : decode cX7_init 64 = .ok (.getfield 40, 3) := by decide +kernel
theorem dX7_init_67 : decode cX7_init 67 = .ok (.putfield 44, 3) := by decide +kernel
theorem dX7_init_70 : decode cX7_init 70 = .ok (.return_, 1) := by decide +kernel
set_option maxRecDepth 20000 in
theorem ggX7_set_X2_prepare : GoodIn wsX7_set wsX2_prepare := goodIn_r _ [7, 8, 9, 10, 11, 6, 12, 13, 14, 15, 16, 17, 18, 19, 20, 21, 22, 23, 24, 25, 26, 27, 28, 29, 30, 31, 32, 33, 34, 35, 36, 37, 38, 39, 40, 41, 42, 43, 44, 45, 46, 47, 48, 49, 50, 51, 52, 53, 54, 55, 56, 57, 58, 59, 60, 61, 62, 63, 64, 83, 84, 85, 86, 87, 88, 89, 90, 91, 92, 93, 94, 95, 96, 97, 98, 99, 100, 101, 102, 103, 104, 105, 106, 107, 108, 109, 110] (by decide +kernel) (by decide +kernel)
set_option maxRecDepth 20000 in
theorem gX7_set_X2_prepare : GoodIn wsX7_set (wsV RX7 45 RX2 yX2_prepare wsX2_prepare) := goodIn_app (goodIn_of _ (by decide +kernel)) ggX7_set_X2_prepare
set_option maxRecDepth 20000 in
theorem ggX7_set_X1_changeSetting : GoodIn wsX7_set wsX1_changeSetting := goodIn_r _ [68, 19, 69, 27, 70, 86, 87, 88, 89, 90, 91, 92] (by decide +kernel) (by decide +kernel)
set_option maxRecDepth 20000 in
theorem gX7_set_X1_changeSetting : GoodIn wsX7_set (wsV RX7 49 RX1 yX1_changeSetting wsX1_changeSetting) := goodIn_app (goodIn_of _ (by decide +kernel)) ggX7_set_X1_changeSetting
set_option maxRecDepth 20000 in
theorem ggX7_set_X2_settle : GoodIn wsX7_set wsX2_settle := goodIn_r _ [74, 8, 13, 75, 76, 30, 31, 32, 83, 84, 85] (by decide +kernel) (by decide +kernel)
set_option maxRecDepth 20000 in
theorem gX7_set_X2_settle : GoodIn wsX7_set (wsV RX7 53 RX2 yX2_settle wsX2_settle) := goodIn_app (goodIn_of _ (by decide +kernel)) ggX7_set_X2_settle
theorem dX7_set_0 : decode cX7_set 0 = .ok (.aload_n 0, 1) := by decide +kernel
theorem dX7_set_1 : decode cX7_set 1 = .ok (.getfield 22, 3) := by decide +kernel
theorem dX7_set_4 : decode cX7_set 4 = .ok (.aload_n 0, 1) := by decide +kernel
theorem dX7_set_5 : decode cX7_set 5 = .ok (.getfield 10, 3) := by decide +kernel
theorem dX7_set_8 : decode cX7_set 8 = .ok (.invokevirtual 45, 3) := by decide +kernel
theorem dX7_set_11 : decode cX7_set 11 = .ok (.aload_n 0, 1) := by decide +kernel
theorem dX7_set_12 : decode cX7_set 12 = .ok (.getfield 22, 3) := by decide +kernel
theorem dX7_set_15 : decode cX7_set 15 = .ok (.aload_n 0, 1) := by decide +kernel
theorem dX7_set_16 : decode cX7_set 16 = .ok (.getfield 10, 3) := by decide +kernel
theorem dX7_set_19 : decode cX7_set 19 = .ok (.iload_n 1, 1) := by decide +kernel
theorem dX7_set_20 : decode cX7_set 20 = .ok (.iload_n 2, 1) := by decide +kernel
theorem dX7_set_21 : decode cX7_set 21 = .ok (.invokevirtual 49, 3) := by decide +kernel
theorem dX7_set_24 : decode cX7_set 24 = .ok (.invokevirtual 53, 3) := by decide +kernel
theorem dX7_set_27 : decode cX7_set 27 = .ok (.ireturn, 1) := by decide +kernel
set_option maxRecDepth 20000 in
theorem ggX7_stand_X2_prepare : GoodIn wsX7_stand wsX2_prepare := goodIn_r _ [7, 8, 9, 10, 11, 6, 12, 13, 14, 15, 16, 17, 18, 19, 20, 21, 22, 23, 24, 25, 26, 27, 28, 29, 30, 31, 32, 33, 34, 35, 36, 37, 38, 39, 40, 41, 42, 43, 44, 45, 46, 47, 48, 49, 50, 51, 52, 53, 54, 55, 56, 57, 58, 59, 60, 61, 62, 63, 64, 96, 97, 98, 99, 100, 101, 102, 103, 104, 105, 106, 107, 108, 109, 110, 111, 112, 113, 114, 115, 116, 117, 118, 119, 120, 121, 122, 123] (by decide +kernel) (by decide +kernel)
set_option maxRecDepth 20000 in
theorem gX7_stand_X2_prepare : GoodIn wsX7_stand (wsV RX7 45 RX2 yX2_prepare wsX2_prepare) := goodIn_app (goodIn_of _ (by decide +kernel)) ggX7_stand_X2_prepare
set_option maxRecDepth 20000 in
theorem ggX7_stand_X1_addStand : GoodIn wsX7_stand wsX1_addStand := goodIn_r _ [68, 21, 24, 69, 27, 70, 71, 72, 73, 40, 74, 42, 75, 76, 77, 78, 47, 79, 80, 81, 82, 83, 43, 44, 45, 46, 48, 49, 50, 51, 52, 99, 100, 101, 102, 103, 104, 105, 106, 107, 108, 109, 110, 111, 112, 113, 114, 115, 116] (by decide +kernel) (by decide +kernel)
set_option maxRecDepth 20000 in
theorem gX7_stand_X1_addStand : GoodIn wsX7_stand (wsV RX7 57 RX1 yX1_addStand wsX1_addStand) := goodIn_app (goodIn_of _ (by decide +kernel)) ggX7_stand_X1_addStand
set_option maxRecDepth 20000 in
theorem ggX7_stand_X2_settle : GoodIn wsX7_stand wsX2_settle := goodIn_r _ [87, 8, 13, 88, 89, 30, 31, 32, 96, 97, 98] (by decide +kernel) (by decide +kernel)
set_option maxRecDepth 20000 in
theorem gX7_stand_X2_settle : GoodIn wsX7_stand (wsV RX7 53 RX2 yX2_settle wsX2_settle) := goodIn_app (goodIn_of _ (by decide +kernel)) ggX7_stand_X2_settle
theorem dX7_stand_0 : decode cX7_stand 0 = .ok (.aload_n 0, 1) := by decide +kernel
theorem dX7_stand_1 : decode cX7_stand 1 = .ok (.getfield 22, 3) := by decide +kernel
theorem dX7_stand_4 : decode cX7_stand 4 = .ok (.aload_n 0, 1) := by decide +kernel
theorem dX7_stand_5 : decode cX7_stand 5 = .ok (.getfield 10, 3) := by decide +kernel
theorem dX7_stand_8 : decode cX7_stand 8 = .ok (.invokevirtual 45, 3) := by decide +kernel
theorem dX7_stand_11 : decode cX7_stand 11 = .ok (.aload_n 0, 1) := by decide +kernel
theorem dX7_stand_12 : decode cX7_stand 12 = .ok (.getfield 22, 3) := by decide +kernel
theorem dX7_stand_15 : decode cX7_stand 15 = .ok (.aload_n 0, 1) := by decide +kernel
theorem dX7_stand_16 : decode cX7_stand 16 = .ok (.getfield 10, 3) := by decide +kernel
theorem dX7_stand_19 : decode cX7_stand 19 = .ok (.iload_n 1, 1) := by decide +kernel
theorem dX7_stand_20 : decode cX7_stand 20 = .ok (.iload_n 2, 1) := by decide +kernel
theorem dX7_stand_21 : decode cX7_stand 21 = .ok (.iload_n 3, 1) := by decide +kernel
theorem dX7_stand_22 : decode cX7_stand 22 = .ok (.iload 4, 2) := by decide +kernel
theorem dX7_stand_24 : decode cX7_stand 24 = .ok (.invokevirtual 57, 3) := by decide +kernel
theorem dX7_stand_27 : decode cX7_stand 27 = .ok (.invokevirtual 53, 3) := by decide +kernel
theorem dX7_stand_30 : decode cX7_stand 30 = .ok (.ireturn, 1) := by decide +kernel
set_option maxRecDepth 20000 in
theorem ggX7_crew_X2_prepare : GoodIn wsX7_crew wsX2_prepare := goodIn_r _ [7, 8, 9, 10, 11, 6, 12, 13, 14, 15, 16, 17, 18, 19, 20, 21, 22, 23, 24, 25, 26, 27, 28, 29, 30, 31, 32, 33, 34, 35, 36, 37, 38, 39, 40, 41, 42, 43, 44, 45, 46, 47, 48, 49, 50, 51, 52, 53, 54, 55, 56, 57, 58, 59, 60, 61, 62, 63, 64, 87, 88, 89, 90, 91, 92, 93, 94, 95, 96, 97, 98, 99, 100, 101, 102, 103, 104, 105, 106, 107, 108, 109, 110, 111, 112, 113, 114] (by decide +kernel) (by decide +kernel)
set_option maxRecDepth 20000 in
theorem gX7_crew_X2_prepare : GoodIn wsX7_crew (wsV RX7 45 RX2 yX2_prepare wsX2_prepare) := goodIn_app (goodIn_of _ (by decide +kernel)) ggX7_crew_X2_prepare
set_option maxRecDepth 20000 in
theorem ggX7_crew_X1_addCrew : GoodIn wsX7_crew wsX1_addCrew := goodIn_r _ [68, 22, 69, 27, 70, 71, 72, 73, 56, 74, 58, 59, 60, 61, 62, 63, 64, 90, 91, 92, 93, 94, 95, 96, 108, 109, 110, 111, 112, 113, 114] (by decide +kernel) (by decide +kernel)
set_option maxRecDepth 20000 in
theorem gX7_crew_X1_addCrew : GoodIn wsX7_crew (wsV RX7 61 RX1 yX1_addCrew wsX1_addCrew) := goodIn_app (goodIn_of _ (by decide +kernel)) ggX7_crew_X1_addCrew
set_option maxRecDepth 20000 in
theorem ggX7_crew_X2_settle : GoodIn wsX7_crew wsX2_settle := goodIn_r _ [78, 8, 13, 79, 80, 30, 31, 32, 87, 88, 89] (by decide +kernel) (by decide +kernel)
set_option maxRecDepth 20000 in
theorem gX7_crew_X2_settle : GoodIn wsX7_crew (wsV RX7 53 RX2 yX2_settle wsX2_settle) := goodIn_app (goodIn_of _ (by decide +kernel)) ggX7_crew_X2_settle
theorem dX7_crew_0 : decode cX7_crew 0 = .ok (.aload_n 0, 1) := by decide +kernel
theorem dX7_crew_1 : decode cX7_crew 1 = .ok (.getfield 22, 3) := by decide +kernel
theorem dX7_crew_4 : decode cX7_crew 4 = .ok (.aload_n 0, 1) := by decide +kernel
theorem dX7_crew_5 : decode cX7_crew 5 = .ok (.getfield 10, 3) := by decide +kernel
theorem dX7_crew_8 : decode cX7_crew 8 = .ok (.invokevirtual 45, 3) := by decide +kernel
theorem dX7_crew_11 : decode cX7_crew 11 = .ok (.aload_n 0, 1) := by decide +kernel
theorem dX7_crew_12 : decode cX7_crew 12 = .ok (.getfield 22, 3) := by decide +kernel
theorem dX7_crew_15 : decode cX7_crew 15 = .ok (.aload_n 0, 1) := by decide +kernel
theorem dX7_crew_16 : decode cX7_crew 16 = .ok (.getfield 10, 3) := by decide +kernel
theorem dX7_crew_19 : decode cX7_crew 19 = .ok (.iload_n 1, 1) := by decide +kernel
theorem dX7_crew_20 : decode cX7_crew 20 = .ok (.iload_n 2, 1) := by decide +kernel
theorem dX7_crew_21 : decode cX7_crew 21 = .ok (.invokevirtual 61, 3) := by decide +kernel
theorem dX7_crew_24 : decode cX7_crew 24 = .ok (.invokevirtual 53, 3) := by decide +kernel
theorem dX7_crew_27 : decode cX7_crew 27 = .ok (.ireturn, 1) := by decide +kernel
set_option maxRecDepth 20000 in
theorem ggX7_end_X2_prepare : GoodIn wsX7_end wsX2_prepare := goodIn_r _ [7, 8, 9, 10, 11, 6, 12, 13, 14, 15, 16, 17, 18, 19, 20, 21, 22, 23, 24, 25, 26, 27, 28, 29, 30, 31, 32, 33, 34, 35, 36, 37, 38, 39, 40, 41, 42, 43, 44, 45, 46, 47, 48, 49, 50, 51, 52, 53, 54, 55, 56, 57, 58, 59, 60, 61, 62, 63, 64, 89, 90, 91, 92, 93, 94, 95, 96, 97, 98, 99, 100, 101, 102, 103, 104, 105, 106, 107, 108, 109, 110, 111, 112, 113, 114, 115, 116] (by decide +kernel) (by decide +kernel)
set_option maxRecDepth 20000 in
theorem gX7_end_X2_prepare : GoodIn wsX7_end (wsV RX7 45 RX2 yX2_prepare wsX2_prepare) := goodIn_app (goodIn_of _ (by decide +kernel)) ggX7_end_X2_prepare
set_option maxRecDepth 20000 in
theorem ggX7_end_X1_endFair : GoodIn wsX7_end wsX1_endFair := goodIn_r _ [68, 24, 22, 21, 69, 70, 71, 56, 72, 58, 61, 73, 74, 75, 40, 76, 42, 47, 48, 50, 92, 93, 94, 95, 96, 97, 98, 110, 111, 112, 113, 114, 115, 116, 99, 100, 101, 102, 103, 104, 105, 106, 107, 108, 109] (by decide +kernel) (by decide +kernel)
set_option maxRecDepth 20000 in
theorem gX7_end_X1_endFair : GoodIn wsX7_end (wsV RX7 64 RX1 yX1_endFair wsX1_endFair) := goodIn_app (goodIn_of _ (by decide +kernel)) ggX7_end_X1_endFair
set_option maxRecDepth 20000 in
theorem ggX7_end_X2_settle : GoodIn wsX7_end wsX2_settle := goodIn_r _ [80, 8, 13, 81, 82, 30, 31, 32, 89, 90, 91] (by decide +kernel) (by decide +kernel)
set_option maxRecDepth 20000 in
theorem gX7_end_X2_settle : GoodIn wsX7_end (wsV RX7 53 RX2 yX2_settle wsX2_settle) := goodIn_app (goodIn_of _ (by decide +kernel)) ggX7_end_X2_settle
theorem dX7_end_0 : decode cX7_end 0 = .ok (.aload_n 0, 1) := by decide +kernel
theorem dX7_end_1 : decode cX7_end 1 = .ok (.getfield 22, 3) := by decide +kernel
theorem dX7_end_4 : decode cX7_end 4 = .ok (.aload_n 0, 1) := by decide +kernel
theorem dX7_end_5 : decode cX7_end 5 = .ok (.getfield 10, 3) := by decide +kernel
theorem dX7_end_8 : decode cX7_end 8 = .ok (.invokevirtual 45, 3) := by decide +kernel
theorem dX7_end_11 : decode cX7_end 11 = .ok (.aload_n 0, 1) := by decide +kernel
theorem dX7_end_12 : decode cX7_end 12 = .ok (.getfield 22, 3) := by decide +kernel
theorem dX7_end_15 : decode cX7_end 15 = .ok (.aload_n 0, 1) := by decide +kernel
theorem dX7_end_16 : decode cX7_end 16 = .ok (.getfield 10, 3) := by decide +kernel
theorem dX7_end_19 : decode cX7_end 19 = .ok (.invokevirtual 64, 3) := by decide +kernel
theorem dX7_end_22 : decode cX7_end 22 = .ok (.invokevirtual 53, 3) := by decide +kernel
theorem dX7_end_25 : decode cX7_end 25 = .ok (.ireturn, 1) := by decide +kernel
set_option maxRecDepth 20000 in
theorem ggX7_find_X2_prepare : GoodIn wsX7_find wsX2_prepare := goodIn_r _ [7, 8, 9, 10, 11, 6, 12, 13, 14, 15, 16, 17, 18, 19, 20, 21, 22, 23, 24, 25, 26, 27, 28, 29, 30, 31, 32, 33, 34, 35, 36, 37, 38, 39, 40, 41, 42, 43, 44, 45, 46, 47, 48, 49, 50, 51, 52, 53, 54, 55, 56, 57, 58, 59, 60, 61, 62, 63, 64, 81, 82, 83, 84, 85, 86, 87, 88, 89, 90, 91, 92, 93, 94, 95, 96, 97, 98, 99, 100, 101, 102, 103, 104, 105, 106, 107, 108] (by decide +kernel) (by decide +kernel)
set_option maxRecDepth 20000 in
theorem gX7_find_X2_prepare : GoodIn wsX7_find (wsV RX7 45 RX2 yX2_prepare wsX2_prepare) := goodIn_app (goodIn_of _ (by decide +kernel)) ggX7_find_X2_prepare
set_option maxRecDepth 20000 in
theorem ggX7_find_X1_findLost : GoodIn wsX7_find wsX1_findLost := goodIn_r _ [68, 25, 84, 85, 86, 87, 88, 89, 90] (by decide +kernel) (by decide +kernel)
set_option maxRecDepth 20000 in
theorem gX7_find_X1_findLost : GoodIn wsX7_find (wsV RX7 68 RX1 yX1_findLost wsX1_findLost) := goodIn_app (goodIn_of _ (by decide +kernel)) ggX7_find_X1_findLost
set_option maxRecDepth 20000 in
theorem ggX7_find_X2_settle : GoodIn wsX7_find wsX2_settle := goodIn_r _ [72, 8, 13, 73, 74, 30, 31, 32, 81, 82, 83] (by decide +kernel) (by decide +kernel)
set_option maxRecDepth 20000 in
theorem gX7_find_X2_settle : GoodIn wsX7_find (wsV RX7 53 RX2 yX2_settle wsX2_settle) := goodIn_app (goodIn_of _ (by decide +kernel)) ggX7_find_X2_settle
theorem dX7_find_0 : decode cX7_find 0 = .ok (.aload_n 0, 1) := by decide +kernel
theorem dX7_find_1 : decode cX7_find 1 = .ok (.getfield 22, 3) := by decide +kernel
theorem dX7_find_4 : decode cX7_find 4 = .ok (.aload_n 0, 1) := by decide +kernel
theorem dX7_find_5 : decode cX7_find 5 = .ok (.getfield 10, 3) := by decide +kernel
theorem dX7_find_8 : decode cX7_find 8 = .ok (.invokevirtual 45, 3) := by decide +kernel
theorem dX7_find_11 : decode cX7_find 11 = .ok (.aload_n 0, 1) := by decide +kernel
theorem dX7_find_12 : decode cX7_find 12 = .ok (.getfield 22, 3) := by decide +kernel
theorem dX7_find_15 : decode cX7_find 15 = .ok (.aload_n 0, 1) := by decide +kernel
theorem dX7_find_16 : decode cX7_find 16 = .ok (.getfield 10, 3) := by decide +kernel
theorem dX7_find_19 : decode cX7_find 19 = .ok (.invokevirtual 68, 3) := by decide +kernel
theorem dX7_find_22 : decode cX7_find 22 = .ok (.invokevirtual 53, 3) := by decide +kernel
theorem dX7_find_25 : decode cX7_find 25 = .ok (.ireturn, 1) := by decide +kernel
set_option maxRecDepth 20000 in
theorem ggX7_pass_X2_prepare : GoodIn wsX7_pass wsX2_prepare := goodIn_r _ [7, 8, 9, 10, 11, 6, 12, 13, 14, 15, 16, 17, 18, 19, 20, 21, 22, 23, 24, 25, 26, 27, 28, 29, 30, 31, 32, 33, 34, 35, 36, 37, 38, 39, 40, 41, 42, 43, 44, 45, 46, 47, 48, 49, 50, 51, 52, 53, 54, 55, 56, 57, 58, 59, 60, 61, 62, 63, 64, 147, 148, 149, 150, 151, 152, 153, 154, 155, 156, 157, 158, 159, 160, 161, 162, 163, 164, 165, 166, 167, 168, 169, 170, 171, 172, 173, 174] (by decide +kernel) (by decide +kernel)
set_option maxRecDepth 20000 in
theorem gX7_pass_X2_prepare : GoodIn wsX7_pass (wsV RX7 45 RX2 yX2_prepare wsX2_prepare) := goodIn_app (goodIn_of _ (by decide +kernel)) ggX7_pass_X2_prepare
set_option maxRecDepth 20000 in
theorem ggX7_pass_X1_passHours : GoodIn wsX7_pass wsX1_passHours := goodIn_r _ [68, 23, 69, 27, 70, 71, 72, 73, 17, 74, 75, 76, 77, 78, 21, 79, 80, 81, 82, 19, 83, 84, 85, 40, 86, 42, 47, 44, 87, 88, 89, 90, 22, 24, 91, 92, 93, 94, 95, 96, 97, 98, 46, 99, 100, 101, 102, 103, 104, 105, 106, 107, 108, 109, 110, 111, 112, 113, 114, 115, 116, 117, 118, 119, 20, 120, 121, 122, 123, 124, 125, 31, 126, 127, 128, 129, 130, 25, 131, 132, 133, 134, 150, 151, 152, 153, 154, 155, 156, 157, 158, 159, 160, 161, 162, 163, 164, 165, 166, 167, 168, 169, 170, 171, 172, 173, 174] (by decide +kernel) (by decide +kernel)
set_option maxRecDepth 20000 in
theorem gX7_pass_X1_passHours : GoodIn wsX7_pass (wsV RX7 71 RX1 yX1_passHours wsX1_passHours) := goodIn_app (goodIn_of _ (by decide +kernel)) ggX7_pass_X1_passHours
set_option maxRecDepth 20000 in
theorem ggX7_pass_X2_settle : GoodIn wsX7_pass wsX2_settle := goodIn_r _ [138, 8, 13, 139, 140, 30, 31, 32, 147, 148, 149] (by decide +kernel) (by decide +kernel)
set_option maxRecDepth 20000 in
theorem gX7_pass_X2_settle : GoodIn wsX7_pass (wsV RX7 53 RX2 yX2_settle wsX2_settle) := goodIn_app (goodIn_of _ (by decide +kernel)) ggX7_pass_X2_settle
theorem dX7_pass_0 : decode cX7_pass 0 = .ok (.aload_n 0, 1) := by decide +kernel
theorem dX7_pass_1 : decode cX7_pass 1 = .ok (.getfield 22, 3) := by decide +kernel
theorem dX7_pass_4 : decode cX7_pass 4 = .ok (.aload_n 0, 1) := by decide +kernel
theorem dX7_pass_5 : decode cX7_pass 5 = .ok (.getfield 10, 3) := by decide +kernel
theorem dX7_pass_8 : decode cX7_pass 8 = .ok (.invokevirtual 45, 3) := by decide +kernel
theorem dX7_pass_11 : decode cX7_pass 11 = .ok (.aload_n 0, 1) := by decide +kernel
theorem dX7_pass_12 : decode cX7_pass 12 = .ok (.getfield 22, 3) := by decide +kernel
theorem dX7_pass_15 : decode cX7_pass 15 = .ok (.aload_n 0, 1) := by decide +kernel
theorem dX7_pass_16 : decode cX7_pass 16 = .ok (.getfield 10, 3) := by decide +kernel
theorem dX7_pass_19 : decode cX7_pass 19 = .ok (.iload_n 1, 1) := by decide +kernel
theorem dX7_pass_20 : decode cX7_pass 20 = .ok (.invokevirtual 71, 3) := by decide +kernel
theorem dX7_pass_23 : decode cX7_pass 23 = .ok (.invokevirtual 53, 3) := by decide +kernel
theorem dX7_pass_26 : decode cX7_pass 26 = .ok (.ireturn, 1) := by decide +kernel
set_option maxRecDepth 20000 in
theorem ggX7_ofStand_X6_tell : GoodIn wsX7_ofStand wsX6_tell := goodIn_r _ [6, 7, 8, 9, 10, 11, 12, 13, 14, 15, 16, 17, 18, 5, 19, 20, 21, 22, 23, 24, 38, 39, 40, 41, 42, 43, 44, 45, 46, 47, 48] (by decide +kernel) (by decide +kernel)
set_option maxRecDepth 20000 in
theorem gX7_ofStand_X6_tell : GoodIn wsX7_ofStand (wsV RX7 78 RX6 yX6_tell wsX6_tell) := goodIn_app (goodIn_of _ (by decide +kernel)) ggX7_ofStand_X6_tell
theorem dX7_ofStand_0 : decode cX7_ofStand 0 = .ok (.aload_n 0, 1) := by decide +kernel
theorem dX7_ofStand_1 : decode cX7_ofStand 1 = .ok (.getfield 10, 3) := by decide +kernel
theorem dX7_ofStand_4 : decode cX7_ofStand 4 = .ok (.getfield 74, 3) := by decide +kernel
theorem dX7_ofStand_7 : decode cX7_ofStand 7 = .ok (.iload_n 1, 1) := by decide +kernel
theorem dX7_ofStand_8 : decode cX7_ofStand 8 = .ok (.iload_n 2, 1) := by decide +kernel
theorem dX7_ofStand_9 : decode cX7_ofStand 9 = .ok (.invokevirtual 78, 3) := by decide +kernel
theorem dX7_ofStand_12 : decode cX7_ofStand 12 = .ok (.ireturn, 1) := by decide +kernel
set_option maxRecDepth 20000 in
theorem ggX7_ofCrew_X0_tell : GoodIn wsX7_ofCrew wsX0_tell := goodIn_r _ [6, 7, 8, 9, 10, 11, 12, 13, 27, 28, 29, 30, 31, 32, 33] (by decide +kernel) (by decide +kernel)
set_option maxRecDepth 20000 in
theorem gX7_ofCrew_X0_tell : GoodIn wsX7_ofCrew (wsV RX7 87 RX0 yX0_tell wsX0_tell) := goodIn_app (goodIn_of _ (by decide +kernel)) ggX7_ofCrew_X0_tell
theorem dX7_ofCrew_0 : decode cX7_ofCrew 0 = .ok (.aload_n 0, 1) := by decide +kernel
theorem dX7_ofCrew_1 : decode cX7_ofCrew 1 = .ok (.getfield 10, 3) := by decide +kernel
theorem dX7_ofCrew_4 : decode cX7_ofCrew 4 = .ok (.getfield 83, 3) := by decide +kernel
theorem dX7_ofCrew_7 : decode cX7_ofCrew 7 = .ok (.iload_n 1, 1) := by decide +kernel
theorem dX7_ofCrew_8 : decode cX7_ofCrew 8 = .ok (.iload_n 2, 1) := by decide +kernel
theorem dX7_ofCrew_9 : decode cX7_ofCrew 9 = .ok (.invokevirtual 87, 3) := by decide +kernel
theorem dX7_ofCrew_12 : decode cX7_ofCrew 12 = .ok (.ireturn, 1) := by decide +kernel
set_option maxRecDepth 20000 in
theorem ggX7_load_X1_loadOf : GoodIn wsX7_load wsX1_loadOf := goodIn_r _ [6, 7, 14, 15, 16, 17, 18, 19, 20] (by decide +kernel) (by decide +kernel)
set_option maxRecDepth 20000 in
theorem gX7_load_X1_loadOf : GoodIn wsX7_load (wsV RX7 90 RX1 yX1_loadOf wsX1_loadOf) := goodIn_app (goodIn_of _ (by decide +kernel)) ggX7_load_X1_loadOf
theorem dX7_load_0 : decode cX7_load 0 = .ok (.aload_n 0, 1) := by decide +kernel
theorem dX7_load_1 : decode cX7_load 1 = .ok (.getfield 10, 3) := by decide +kernel
theorem dX7_load_4 : decode cX7_load 4 = .ok (.iload_n 1, 1) := by decide +kernel
theorem dX7_load_5 : decode cX7_load 5 = .ok (.invokevirtual 90, 3) := by decide +kernel
theorem dX7_load_8 : decode cX7_load 8 = .ok (.ireturn, 1) := by decide +kernel
set_option maxRecDepth 20000 in
theorem ggX7_count_X1_number : GoodIn wsX7_count wsX1_number := goodIn_r _ [8, 9, 10, 11, 12, 13, 14, 15, 16, 17, 18, 19, 20, 21, 22, 23, 24, 25, 26, 27, 28, 29, 30, 31, 32, 33, 34, 35, 36, 37, 38, 39, 40, 52, 53, 54, 55, 56, 57, 58, 59, 60, 61, 62, 63, 64, 65, 66, 67, 68, 69, 70, 71, 72, 73, 74, 75, 76] (by decide +kernel) (by decide +kernel)
set_option maxRecDepth 20000 in
theorem gX7_count_X1_number : GoodIn wsX7_count (wsV RX7 102 RX1 yX1_number wsX1_number) := goodIn_app (goodIn_of _ (by decide +kernel)) ggX7_count_X1_number
theorem dX7_count_0 : decode cX7_count 0 = .ok (.iload_n 1, 1) := by decide +kernel
theorem dX7_count_1 : decode cX7_count 1 = .ok (.lookupswitch 43 #[(18, 27), (19, 35)], 27) := by decide +kernel
theorem dX7_count_28 : decode cX7_count 28 = .ok (.aload_n 0, 1) := by decide +kernel
theorem dX7_count_29 : decode cX7_count 29 = .ok (.getfield 44, 3) := by decide +kernel
theorem dX7_count_32 : decode cX7_count 32 = .ok (.getfield 93, 3) := by decide +kernel
theorem dX7_count_35 : decode cX7_count 35 = .ok (.ireturn, 1) := by decide +kernel
theorem dX7_count_36 : decode cX7_count 36 = .ok (.aload_n 0, 1) := by decide +kernel
theorem dX7_count_37 : decode cX7_count 37 = .ok (.getfield 22, 3) := by decide +kernel
theorem dX7_count_40 : decode cX7_count 40 = .ok (.getfield 99, 3) := by decide +kernel
theorem dX7_count_43 : decode cX7_count 43 = .ok (.ireturn, 1) := by decide +kernel
theorem dX7_count_44 : decode cX7_count 44 = .ok (.aload_n 0, 1) := by decide +kernel
theorem dX7_count_45 : decode cX7_count 45 = .ok (.getfield 10, 3) := by decide +kernel
theorem dX7_count_48 : decode cX7_count 48 = .ok (.iload_n 1, 1) := by decide +kernel
theorem dX7_count_49 : decode cX7_count 49 = .ok (.invokevirtual 102, 3) := by decide +kernel
theorem dX7_count_52 : decode cX7_count 52 = .ok (.ireturn, 1) := by decide +kernel
set_option maxRecDepth 20000 in
theorem ggX7_waitsFor_X1_reasonToWait : GoodIn wsX7_waitsFor wsX1_reasonToWait := goodIn_r _ [6, 7, 8, 9, 10, 11, 12, 13, 14, 15, 16, 17, 18, 19, 20, 21, 22, 23, 24, 25, 32, 33, 34, 35, 36, 37, 38, 39, 40, 41, 42, 43, 44, 45, 46, 47, 48, 49] (by decide +kernel) (by decide +kernel)
set_option maxRecDepth 20000 in
theorem gX7_waitsFor_X1_reasonToWait : GoodIn wsX7_waitsFor (wsV RX7 105 RX1 yX1_reasonToWait wsX1_reasonToWait) := goodIn_app (goodIn_of _ (by decide +kernel)) ggX7_waitsFor_X1_reasonToWait
theorem dX7_waitsFor_0 : decode cX7_waitsFor 0 = .ok (.aload_n 0, 1) := by decide +kernel
theorem dX7_waitsFor_1 : decode cX7_waitsFor 1 = .ok (.getfield 10, 3) := by decide +kernel
theorem dX7_waitsFor_4 : decode cX7_waitsFor 4 = .ok (.iload_n 1, 1) := by decide +kernel
theorem dX7_waitsFor_5 : decode cX7_waitsFor 5 = .ok (.invokevirtual 105, 3) := by decide +kernel
theorem dX7_waitsFor_8 : decode cX7_waitsFor 8 = .ok (.ireturn, 1) := by decide +kernel
set_option maxRecDepth 20000 in
theorem ggX7_allIn_X1_copyFrom : GoodIn wsX7_allIn wsX1_copyFrom := goodIn_r _ [7, 8, 9, 10, 11, 12, 13, 14, 15, 16, 17, 18, 19, 20, 21, 22, 23, 24, 25, 26, 27, 28, 29, 30, 31, 32, 33, 34, 35, 36, 37, 38, 39, 40, 41, 42, 43, 44, 45, 46, 47, 48, 49, 50, 51, 52, 53, 145, 146, 147, 148, 149, 150, 151, 152, 153, 154, 155, 156, 157, 158, 159, 160, 161, 162, 163, 164, 165, 166, 167, 168, 169] (by decide +kernel) (by decide +kernel)
set_option maxRecDepth 20000 in
theorem gX7_allIn_X1_copyFrom : GoodIn wsX7_allIn (wsV RX7 108 RX1 yX1_copyFrom wsX1_copyFrom) := goodIn_app (goodIn_of _ (by decide +kernel)) ggX7_allIn_X1_copyFrom
set_option maxRecDepth 20000 in
theorem ggX7_allIn_X1_hoursUntilAllIn : GoodIn wsX7_allIn wsX1_hoursUntilAllIn := goodIn_r _ [57, 12, 58, 19, 20, 21, 59, 60, 61, 6, 62, 10, 13, 63, 64, 65, 29, 66, 31, 36, 67, 68, 69, 70, 71, 72, 73, 74, 75, 76, 77, 78, 8, 79, 80, 81, 82, 33, 83, 84, 85, 86, 11, 87, 88, 89, 90, 91, 92, 93, 94, 35, 95, 96, 97, 98, 99, 100, 101, 102, 103, 104, 105, 106, 107, 108, 109, 110, 111, 112, 113, 114, 115, 9, 116, 117, 118, 119, 120, 121, 122, 123, 124, 125, 126, 14, 127, 128, 129, 130, 131, 132, 133, 134, 135, 136, 137, 138, 145, 146, 147, 148, 149, 150, 151, 152, 153, 154, 155, 156, 157, 158, 159, 160, 161, 162, 163, 164, 165, 166, 167, 168, 169] (by decide +kernel) (by decide +kernel)
set_option maxRecDepth 20000 in
theorem gX7_allIn_X1_hoursUntilAllIn : GoodIn wsX7_allIn (wsV RX7 111 RX1 yX1_hoursUntilAllIn wsX1_hoursUntilAllIn) := goodIn_app (goodIn_of _ (by decide +kernel)) ggX7_allIn_X1_hoursUntilAllIn
theorem dX7_allIn_0 : decode cX7_allIn 0 = .ok (.aload_n 0, 1) := by decide +kernel
theorem dX7_allIn_1 : decode cX7_allIn 1 = .ok (.getfield 16, 3) := by decide +kernel
theorem dX7_allIn_4 : decode cX7_allIn 4 = .ok (.aload_n 0, 1) := by decide +kernel
theorem dX7_allIn_5 : decode cX7_allIn 5 = .ok (.getfield 10, 3) := by decide +kernel
theorem dX7_allIn_8 : decode cX7_allIn 8 = .ok (.invokevirtual 108, 3) := by decide +kernel
theorem dX7_allIn_11 : decode cX7_allIn 11 = .ok (.aload_n 0, 1) := by decide +kernel
theorem dX7_allIn_12 : decode cX7_allIn 12 = .ok (.getfield 16, 3) := by decide +kernel
theorem dX7_allIn_15 : decode cX7_allIn 15 = .ok (.sipush 1000, 3) := by decide +kernel
theorem dX7_allIn_18 : decode cX7_allIn 18 = .ok (.invokevirtual 111, 3) := by decide +kernel
theorem dX7_allIn_21 : decode cX7_allIn 21 = .ok (.ireturn, 1) := by decide +kernel
set_option maxRecDepth 20000 in
theorem ggX7_withCrew_X1_copyFrom : GoodIn wsX7_withCrew wsX1_copyFrom := goodIn_r _ [7, 8, 9, 10, 11, 12, 13, 14, 15, 16, 17, 18, 19, 20, 21, 22, 23, 24, 25, 26, 27, 28, 29, 30, 31, 32, 33, 34, 35, 36, 37, 38, 39, 40, 41, 42, 43, 44, 45, 46, 47, 48, 49, 50, 51, 52, 53, 155, 156, 157, 158, 159, 160, 161, 162, 163, 164, 165, 166, 167, 168, 169, 170, 171, 172, 173, 174, 175, 176, 177, 178, 179] (by decide +kernel) (by decide +kernel)
set_option maxRecDepth 20000 in
theorem gX7_withCrew_X1_copyFrom : GoodIn wsX7_withCrew (wsV RX7 108 RX1 yX1_copyFrom wsX1_copyFrom) := goodIn_app (goodIn_of _ (by decide +kernel)) ggX7_withCrew_X1_copyFrom
set_option maxRecDepth 20000 in
theorem ggX7_withCrew_X1_addCrew : GoodIn wsX7_withCrew wsX1_addCrew := goodIn_r _ [57, 11, 58, 16, 59, 60, 61, 62, 45, 63, 47, 48, 49, 50, 51, 52, 53, 155, 156, 157, 158, 159, 160, 161, 173, 174, 175, 176, 177, 178, 179] (by decide +kernel) (by decide +kernel)
set_option maxRecDepth 20000 in
theorem gX7_withCrew_X1_addCrew : GoodIn wsX7_withCrew (wsV RX7 61 RX1 yX1_addCrew wsX1_addCrew) := goodIn_app (goodIn_of _ (by decide +kernel)) ggX7_withCrew_X1_addCrew
set_option maxRecDepth 20000 in
theorem ggX7_withCrew_X1_hoursUntilAllIn : GoodIn wsX7_withCrew wsX1_hoursUntilAllIn := goodIn_r _ [67, 12, 68, 19, 20, 21, 69, 70, 71, 6, 72, 10, 13, 73, 74, 75, 29, 76, 31, 36, 77, 78, 79, 80, 81, 82, 83, 84, 85, 86, 87, 88, 8, 89, 90, 91, 92, 33, 93, 94, 95, 96, 11, 97, 98, 99, 100, 101, 102, 103, 104, 35, 105, 106, 107, 108, 109, 110, 111, 112, 113, 114, 115, 116, 117, 118, 119, 120, 121, 122, 123, 124, 125, 9, 126, 127, 128, 129, 130, 131, 132, 133, 134, 135, 136, 14, 137, 138, 139, 140, 141, 142, 143, 144, 145, 146, 147, 148, 155, 156, 157, 158, 159, 160, 161, 162, 163, 164, 165, 166, 167, 168, 169, 170, 171, 172, 173, 174, 175, 176, 177, 178, 179] (by decide +kernel) (by decide +kernel)
set_option maxRecDepth 20000 in
theorem gX7_withCrew_X1_hoursUntilAllIn : GoodIn wsX7_withCrew (wsV RX7 111 RX1 yX1_hoursUntilAllIn wsX1_hoursUntilAllIn) := goodIn_app (goodIn_of _ (by decide +kernel)) ggX7_withCrew_X1_hoursUntilAllIn
theorem dX7_withCrew_0 : decode cX7_withCrew 0 = .ok (.aload_n 0, 1) := by decide +kernel
theorem dX7_withCrew_1 : decode cX7_withCrew 1 = .ok (.getfield 16, 3) := by decide +kernel
theorem dX7_withCrew_4 : decode cX7_withCrew 4 = .ok (.aload_n 0, 1) := by decide +kernel
theorem dX7_withCrew_5 : decode cX7_withCrew 5 = .ok (.getfield 10, 3) := by decide +kernel
theorem dX7_withCrew_8 : decode cX7_withCrew 8 = .ok (.invokevirtual 108, 3) := by decide +kernel
theorem dX7_withCrew_11 : decode cX7_withCrew 11 = .ok (.aload_n 0, 1) := by decide +kernel
theorem dX7_withCrew_12 : decode cX7_withCrew 12 = .ok (.getfield 16, 3) := by decide +kernel
theorem dX7_withCrew_15 : decode cX7_withCrew 15 = .ok (.iload_n 1, 1) := by decide +kernel
theorem dX7_withCrew_16 : decode cX7_withCrew 16 = .ok (.iconst 0, 1) := by decide +kernel
theorem dX7_withCrew_17 : decode cX7_withCrew 17 = .ok (.invokevirtual 61, 3) := by decide +kernel
theorem dX7_withCrew_20 : decode cX7_withCrew 20 = .ok (.istore_n 2, 1) := by decide +kernel
theorem dX7_withCrew_21 : decode cX7_withCrew 21 = .ok (.iload_n 2, 1) := by decide +kernel
theorem dX7_withCrew_22 : decode cX7_withCrew 22 = .ok (.ifCond .ge 7, 3) := by decide +kernel
theorem dX7_withCrew_25 : decode cX7_withCrew 25 = .ok (.iload_n 2, 1) := by decide +kernel
theorem dX7_withCrew_26 : decode cX7_withCrew 26 = .ok (.goto 13, 3) := by decide +kernel
theorem dX7_withCrew_29 : decode cX7_withCrew 29 = .ok (.aload_n 0, 1) := by decide +kernel
theorem dX7_withCrew_30 : decode cX7_withCrew 30 = .ok (.getfield 16, 3) := by decide +kernel
theorem dX7_withCrew_33 : decode cX7_withCrew 33 = .ok (.sipush 1000, 3) := by decide +kernel
theorem dX7_withCrew_36 : decode cX7_withCrew 36 = .ok (.invokevirtual 111, 3) := by decide +kernel
theorem dX7_withCrew_39 : decode cX7_withCrew 39 = .ok (.ireturn, 1) := by decide +kernel
set_option maxRecDepth 20000 in
theorem ggX7_leastDock_X7_hoursWithDock : GoodIn wsX7_leastDock wsX7_hoursWithDock := goodIn_r _ [5, 6, 7, 8, 9, 10, 11, 12, 13, 14, 15, 16, 17, 18, 19, 20, 4, 21, 22, 23, 24, 25, 26, 27, 28, 29, 30, 31, 32, 33, 34, 35, 36, 37, 38, 39, 40, 41, 42, 43, 44, 45, 46, 47, 48, 49, 50, 51, 52, 53, 54, 55, 56, 57, 58, 59, 60, 61, 62, 63, 64, 65, 66, 67, 68, 69, 70, 71, 72, 73, 74, 75, 76, 77, 78, 79, 80, 81, 82, 83, 84, 85, 86, 87, 88, 89, 90, 91, 92, 93, 94, 95, 96, 97, 98, 99, 100, 101, 102, 103, 104, 105, 106, 107, 108, 109, 110, 111, 112, 113, 114, 115, 116, 117, 118, 119, 120, 121, 122, 123, 124, 125, 126, 127, 128, 129, 130, 131, 132, 133, 134, 135, 136, 137, 138, 139, 140, 141, 142, 143, 144, 145, 146, 147, 148, 149, 150, 151, 152, 153, 154, 155, 156, 157, 158, 159, 160, 161, 162, 163, 164, 165, 166, 167, 168, 169, 170, 171, 172, 173, 174, 175, 176, 177, 178, 179] (by decide +kernel) (by decide +kernel)
set_option maxRecDepth 20000 in
theorem gX7_leastDock_X7_hoursWithDock : GoodIn wsX7_leastDock (wsV RX7 114 RX7 yX7_hoursWithDock wsX7_hoursWithDock) := goodIn_app (goodIn_of _ (by decide +kernel)) ggX7_leastDock_X7_hoursWithDock
theorem dX7_leastDock_0 : decode cX7_leastDock 0 = .ok (.aload_n 0, 1) := by decide +kernel
theorem dX7_leastDock_1 : decode cX7_leastDock 1 = .ok (.bipush 60, 2) := by decide +kernel
theorem dX7_leastDock_3 : decode cX7_leastDock 3 = .ok (.sipush 1000, 3) := by decide +kernel
theorem dX7_leastDock_6 : decode cX7_leastDock 6 = .ok (.invokevirtual 114, 3) := by decide +kernel
theorem dX7_leastDock_9 : decode cX7_leastDock 9 = .ok (.istore_n 1, 1) := by decide +kernel
theorem dX7_leastDock_10 : decode cX7_leastDock 10 = .ok (.iload_n 1, 1) := by decide +kernel
theorem dX7_leastDock_11 : decode cX7_leastDock 11 = .ok (.bipush (-6), 2) := by decide +kernel
theorem dX7_leastDock_13 : decode cX7_leastDock 13 = .ok (.if_icmp .ne 6, 3) := by decide +kernel
theorem dX7_leastDock_16 : decode cX7_leastDock 16 = .ok (.bipush (-6), 2) := by decide +kernel
theorem dX7_leastDock_18 : decode cX7_leastDock 18 = .ok (.ireturn, 1) := by decide +kernel
theorem dX7_leastDock_19 : decode cX7_leastDock 19 = .ok (.iconst 1, 1) := by decide +kernel
theorem dX7_leastDock_20 : decode cX7_leastDock 20 = .ok (.istore_n 2, 1) := by decide +kernel
theorem dX7_leastDock_21 : decode cX7_leastDock 21 = .ok (.iload_n 2, 1) := by decide +kernel
theorem dX7_leastDock_22 : decode cX7_leastDock 22 = .ok (.bipush 60, 2) := by decide +kernel
theorem dX7_leastDock_24 : decode cX7_leastDock 24 = .ok (.if_icmp .ge 22, 3) := by decide +kernel
theorem dX7_leastDock_27 : decode cX7_leastDock 27 = .ok (.aload_n 0, 1) := by decide +kernel
theorem dX7_leastDock_28 : decode cX7_leastDock 28 = .ok (.iload_n 2, 1) := by decide +kernel
theorem dX7_leastDock_29 : decode cX7_leastDock 29 = .ok (.iload_n 1, 1) := by decide +kernel
theorem dX7_leastDock_30 : decode cX7_leastDock 30 = .ok (.invokevirtual 114, 3) := by decide +kernel
theorem dX7_leastDock_33 : decode cX7_leastDock 33 = .ok (.bipush (-6), 2) := by decide +kernel
theorem dX7_leastDock_35 : decode cX7_leastDock 35 = .ok (.if_icmp .eq 5, 3) := by decide +kernel
theorem dX7_leastDock_38 : decode cX7_leastDock 38 = .ok (.iload_n 2, 1) := by decide +kernel
theorem dX7_leastDock_39 : decode cX7_leastDock 39 = .ok (.ireturn, 1) := by decide +kernel
theorem dX7_leastDock_40 : decode cX7_leastDock 40 = .ok (.iinc 2 1, 3) := by decide +kernel
theorem dX7_leastDock_43 : decode cX7_leastDock 43 = .ok (.goto (-22), 3) := by decide +kernel
theorem dX7_leastDock_46 : decode cX7_leastDock 46 = .ok (.bipush 60, 2) := by decide +kernel
theorem dX7_leastDock_48 : decode cX7_leastDock 48 = .ok (.ireturn, 1) := by decide +kernel
set_option maxRecDepth 20000 in
theorem ggX7_hoursWithDock_X1_copyFrom : GoodIn wsX7_hoursWithDock wsX1_copyFrom := goodIn_r _ [7, 8, 9, 10, 11, 12, 13, 14, 15, 16, 17, 18, 19, 20, 21, 22, 23, 24, 25, 26, 27, 28, 29, 30, 31, 32, 33, 34, 35, 36, 37, 38, 39, 40, 41, 42, 43, 44, 45, 46, 47, 48, 49, 50, 51, 52, 53, 151, 152, 153, 154, 155, 156, 157, 158, 159, 160, 161, 162, 163, 164, 165, 166, 167, 168, 169, 170, 171, 172, 173, 174, 175] (by decide +kernel) (by decide +kernel)
set_option maxRecDepth 20000 in
theorem gX7_hoursWithDock_X1_copyFrom : GoodIn wsX7_hoursWithDock (wsV RX7 108 RX1 yX1_copyFrom wsX1_copyFrom) := goodIn_app (goodIn_of _ (by decide +kernel)) ggX7_hoursWithDock_X1_copyFrom
set_option maxRecDepth 20000 in
theorem ggX7_hoursWithDock_X1_changeSetting : GoodIn wsX7_hoursWithDock wsX1_changeSetting := goodIn_r _ [57, 8, 58, 16, 59, 151, 152, 153, 154, 155, 156, 157] (by decide +kernel) (by decide +kernel)
set_option maxRecDepth 20000 in
theorem gX7_hoursWithDock_X1_changeSetting : GoodIn wsX7_hoursWithDock (wsV RX7 49 RX1 yX1_changeSetting wsX1_changeSetting) := goodIn_app (goodIn_of _ (by decide +kernel)) ggX7_hoursWithDock_X1_changeSetting
set_option maxRecDepth 20000 in
theorem ggX7_hoursWithDock_X1_hoursUntilAllIn : GoodIn wsX7_hoursWithDock wsX1_hoursUntilAllIn := goodIn_r _ [63, 12, 64, 19, 20, 21, 65, 66, 67, 6, 68, 10, 13, 69, 70, 71, 29, 72, 31, 36, 73, 74, 75, 76, 77, 78, 79, 80, 81, 82, 83, 84, 8, 85, 86, 87, 88, 33, 89, 90, 91, 92, 11, 93, 94, 95, 96, 97, 98, 99, 100, 35, 101, 102, 103, 104, 105, 106, 107, 108, 109, 110, 111, 112, 113, 114, 115, 116, 117, 118, 119, 120, 121, 9, 122, 123, 124, 125, 126, 127, 128, 129, 130, 131, 132, 14, 133, 134, 135, 136, 137, 138, 139, 140, 141, 142, 143, 144, 151, 152, 153, 154, 155, 156, 157, 158, 159, 160, 161, 162, 163, 164, 165, 166, 167, 168, 169, 170, 171, 172, 173, 174, 175] (by decide +kernel) (by decide +kernel)
set_option maxRecDepth 20000 in
theorem gX7_hoursWithDock_X1_hoursUntilAllIn : GoodIn wsX7_hoursWithDock (wsV RX7 111 RX1 yX1_hoursUntilAllIn wsX1_hoursUntilAllIn) := goodIn_app (goodIn_of _ (by decide +kernel)) ggX7_hoursWithDock_X1_hoursUntilAllIn
theorem dX7_hoursWithDock_0 : decode cX7_hoursWithDock 0 = .ok (.aload_n 0, 1) := by decide +kernel
theorem dX7_hoursWithDock_1 : decode cX7_hoursWithDock 1 = .ok (.getfield 16, 3) := by decide +kernel
theorem dX7_hoursWithDock_4 : decode cX7_hoursWithDock 4 = .ok (.aload_n 0, 1) := by decide +kernel
theorem dX7_hoursWithDock_5 : decode cX7_hoursWithDock 5 = .ok (.getfield 10, 3) := by decide +kernel
theorem dX7_hoursWithDock_8 : decode cX7_hoursWithDock 8 = .ok (.invokevirtual 108, 3) := by decide +kernel
theorem dX7_hoursWithDock_11 : decode cX7_hoursWithDock 11 = .ok (.aload_n 0, 1) := by decide +kernel
theorem dX7_hoursWithDock_12 : decode cX7_hoursWithDock 12 = .ok (.getfield 16, 3) := by decide +kernel
theorem dX7_hoursWithDock_15 : decode cX7_hoursWithDock 15 = .ok (.iconst 0, 1) := by decide +kernel
theorem dX7_hoursWithDock_16 : decode cX7_hoursWithDock 16 = .ok (.iload_n 1, 1) := by decide +kernel
theorem dX7_hoursWithDock_17 : decode cX7_hoursWithDock 17 = .ok (.invokevirtual 49, 3) := by decide +kernel
theorem dX7_hoursWithDock_20 : decode cX7_hoursWithDock 20 = .ok (.pop, 1) := by decide +kernel
theorem dX7_hoursWithDock_21 : decode cX7_hoursWithDock 21 = .ok (.aload_n 0, 1) := by decide +kernel
theorem dX7_hoursWithDock_22 : decode cX7_hoursWithDock 22 = .ok (.getfield 16, 3) := by decide +kernel
theorem dX7_hoursWithDock_25 : decode cX7_hoursWithDock 25 = .ok (.iload_n 2, 1) := by decide +kernel
theorem dX7_hoursWithDock_26 : decode cX7_hoursWithDock 26 = .ok (.invokevirtual 111, 3) := by decide +kernel
theorem dX7_hoursWithDock_29 : decode cX7_hoursWithDock 29 = .ok (.ireturn, 1) := by decide +kernel
set_option maxRecDepth 20000 in
theorem ggX7_put_X4_append : GoodIn wsX7_put wsX4_append := goodIn_r _ [6, 7, 8, 9, 10, 11, 5, 12, 13, 14, 15, 22, 23] (by decide +kernel) (by decide +kernel)
set_option maxRecDepth 20000 in
theorem gX7_put_X4_append : GoodIn wsX7_put (wsV RX7 117 RX4 yX4_append wsX4_append) := goodIn_app (goodIn_of _ (by decide +kernel)) ggX7_put_X4_append
theorem dX7_put_0 : decode cX7_put 0 = .ok (.aload_n 0, 1) := by decide +kernel
theorem dX7_put_1 : decode cX7_put 1 = .ok (.getfield 44, 3) := by decide +kernel
theorem dX7_put_4 : decode cX7_put 4 = .ok (.lload_n 1, 1) := by decide +kernel
theorem dX7_put_5 : decode cX7_put 5 = .ok (.invokevirtual 117, 3) := by decide +kernel
theorem dX7_put_8 : decode cX7_put 8 = .ok (.ireturn, 1) := by decide +kernel
set_option maxRecDepth 20000 in
theorem ggX7_wipe_X4_clear : GoodIn wsX7_wipe wsX4_clear := goodIn_r _ [6, 7, 14, 15] (by decide +kernel) (by decide +kernel)
set_option maxRecDepth 20000 in
theorem gX7_wipe_X4_clear : GoodIn wsX7_wipe (wsV RX7 121 RX4 yX4_clear wsX4_clear) := goodIn_app (goodIn_of _ (by decide +kernel)) ggX7_wipe_X4_clear
theorem dX7_wipe_0 : decode cX7_wipe 0 = .ok (.aload_n 0, 1) := by decide +kernel
theorem dX7_wipe_1 : decode cX7_wipe 1 = .ok (.getfield 44, 3) := by decide +kernel
theorem dX7_wipe_4 : decode cX7_wipe 4 = .ok (.invokevirtual 121, 3) := by decide +kernel
theorem dX7_wipe_7 : decode cX7_wipe 7 = .ok (.ireturn, 1) := by decide +kernel
set_option maxRecDepth 20000 in
theorem ggX7_fault_X3_findFault : GoodIn wsX7_fault wsX3_findFault := goodIn_r _ [6, 7, 8, 9, 10, 11, 12, 5, 13, 14, 15, 16, 17, 18, 19, 20, 21, 22, 23, 24, 25, 26, 27, 28, 29, 30, 31, 32, 33, 34, 35, 36, 37, 38, 39, 40, 41, 42, 43, 44, 45, 46, 47, 48, 55, 56, 57, 58, 59, 60, 61, 62, 63, 64] (by decide +kernel) (by decide +kernel)
set_option maxRecDepth 20000 in
theorem gX7_fault_X3_findFault : GoodIn wsX7_fault (wsV RX7 124 RX3 yX3_findFault wsX3_findFault) := goodIn_app (goodIn_of _ (by decide +kernel)) ggX7_fault_X3_findFault
theorem dX7_fault_0 : decode cX7_fault 0 = .ok (.aload_n 0, 1) := by decide +kernel
theorem dX7_fault_1 : decode cX7_fault 1 = .ok (.getfield 36, 3) := by decide +kernel
theorem dX7_fault_4 : decode cX7_fault 4 = .ok (.invokevirtual 124, 3) := by decide +kernel
theorem dX7_fault_7 : decode cX7_fault 7 = .ok (.ireturn, 1) := by decide +kernel
set_option maxRecDepth 20000 in
theorem ggX7_carryOut_X3_findFault : GoodIn wsX7_carryOut wsX3_findFault := goodIn_r _ [9, 10, 11, 12, 13, 14, 15, 8, 16, 17, 18, 19, 20, 21, 22, 23, 24, 25, 26, 27, 28, 29, 30, 31, 32, 33, 34, 35, 36, 37, 38, 39, 40, 41, 42, 43, 44, 45, 46, 47, 48, 49, 50, 51, 240, 241, 242, 243, 244, 245, 246, 247, 248, 249] (by decide +kernel) (by decide +kernel)
set_option maxRecDepth 20000 in
theorem gX7_carryOut_X3_findFault : GoodIn wsX7_carryOut (wsV RX7 124 RX3 yX3_findFault wsX3_findFault) := goodIn_app (goodIn_of _ (by decide +kernel)) ggX7_carryOut_X3_findFault
set_option maxRecDepth 20000 in
theorem ggX7_carryOut_X2_prepare : GoodIn wsX7_carryOut wsX2_prepare := goodIn_r _ [56, 57, 58, 59, 60, 55, 61, 62, 63, 64, 65, 66, 67, 68, 69, 70, 71, 72, 73, 74, 75, 46, 76, 77, 78, 79, 80, 81, 82, 83, 84, 85, 86, 87, 88, 89, 90, 91, 92, 93, 94, 95, 96, 97, 98, 99, 100, 101, 102, 103, 104, 105, 106, 107, 108, 109, 110, 111, 112, 250, 251, 252, 253, 254, 255, 256, 257, 258, 259, 260, 261, 262, 263, 264, 265, 266, 267, 268, 269, 270, 271, 272, 273, 274, 275, 276, 277] (by decide +kernel) (by decide +kernel)
set_option maxRecDepth 20000 in
theorem gX7_carryOut_X2_prepare : GoodIn wsX7_carryOut (wsV RX7 45 RX2 yX2_prepare wsX2_prepare) := goodIn_app (goodIn_of _ (by decide +kernel)) ggX7_carryOut_X2_prepare
set_option maxRecDepth 20000 in
theorem ggX7_carryOut_X3_start : GoodIn wsX7_carryOut wsX3_start := goodIn_r _ [16, 11, 10, 240, 241, 242, 243, 244, 245, 246, 247] (by decide +kernel) (by decide +kernel)
set_option maxRecDepth 20000 in
theorem gX7_carryOut_X3_start : GoodIn wsX7_carryOut (wsV RX7 127 RX3 yX3_start wsX3_start) := goodIn_app (goodIn_of _ (by decide +kernel)) ggX7_carryOut_X3_start
set_option maxRecDepth 20000 in
theorem ggX7_carryOut_X3_readOrder : GoodIn wsX7_carryOut wsX3_readOrder := goodIn_r _ [20, 12, 11, 21, 22, 23, 24, 25, 26, 27, 28, 29, 30, 31, 32, 33, 34, 35, 8, 36, 10, 37, 38, 39, 40, 41, 42, 43, 44, 45, 46, 47, 48, 49, 50, 51, 240, 241, 242, 243, 244, 245, 246, 247, 248, 249] (by decide +kernel) (by decide +kernel)
set_option maxRecDepth 20000 in
theorem gX7_carryOut_X3_readOrder : GoodIn wsX7_carryOut (wsV RX7 130 RX3 yX3_readOrder wsX3_readOrder) := goodIn_app (goodIn_of _ (by decide +kernel)) ggX7_carryOut_X3_readOrder
set_option maxRecDepth 20000 in
theorem ggX7_carryOut_X7_carryOutOne : GoodIn wsX7_carryOut wsX7_carryOutOne := goodIn_r _ [118, 1, 3, 119, 120, 121, 66, 122, 70, 73, 45, 46, 47, 123, 124, 125, 88, 126, 90, 127, 128, 129, 130, 95, 131, 132, 133, 134, 135, 91, 92, 93, 94, 96, 97, 98, 99, 100, 136, 137, 138, 139, 71, 140, 141, 142, 104, 143, 106, 107, 108, 109, 110, 111, 112, 144, 145, 146, 147, 68, 148, 149, 150, 151, 72, 152, 153, 154, 155, 156, 157, 158, 159, 160, 161, 162, 163, 164, 165, 166, 167, 168, 169, 170, 171, 172, 173, 174, 175, 176, 177, 178, 179, 180, 181, 182, 183, 184, 185, 186, 187, 188, 189, 190, 191, 192, 193, 194, 195, 69, 196, 197, 198, 199, 200, 201, 79, 202, 203, 204, 205, 206, 74, 207, 208, 209, 210, 211, 212, 213, 214, 215, 216, 217, 218, 219, 220, 221, 222, 234, 235, 236, 237, 238, 239, 240, 241, 242, 243, 244, 245, 246, 247, 253, 254, 255, 256, 257, 258, 259, 260, 261, 262, 263, 264, 265, 266, 267, 268, 269, 270, 271, 272, 273, 274, 275, 276, 277] (by decide +kernel) (by decide +kernel)
set_option maxRecDepth 20000 in
theorem gX7_carryOut_X7_carryOutOne : GoodIn wsX7_carryOut (wsV RX7 133 RX7 yX7_carryOutOne wsX7_carryOutOne) := goodIn_app (goodIn_of _ (by decide +kernel)) ggX7_carryOut_X7_carryOutOne
set_option maxRecDepth 20000 in
theorem ggX7_carryOut_X3_take : GoodIn wsX7_carryOut wsX3_take := goodIn_r _ [36, 10, 12, 11, 26, 27, 28, 29, 30, 31, 32, 240, 241, 242, 243, 244, 245, 246, 247, 248, 249] (by decide +kernel) (by decide +kernel)
set_option maxRecDepth 20000 in
theorem gX7_carryOut_X3_take : GoodIn wsX7_carryOut (wsV RX7 136 RX3 yX3_take wsX3_take) := goodIn_app (goodIn_of _ (by decide +kernel)) ggX7_carryOut_X3_take
set_option maxRecDepth 20000 in
theorem ggX7_carryOut_X4_clear : GoodIn wsX7_carryOut wsX4_clear := goodIn_r _ [227, 31, 248, 249] (by decide +kernel) (by decide +kernel)
set_option maxRecDepth 20000 in
theorem gX7_carryOut_X4_clear : GoodIn wsX7_carryOut (wsV RX7 121 RX4 yX4_clear wsX4_clear) := goodIn_app (goodIn_of _ (by decide +kernel)) ggX7_carryOut_X4_clear
set_option maxRecDepth 20000 in
theorem ggX7_carryOut_X2_settle : GoodIn wsX7_carryOut wsX2_settle := goodIn_r _ [231, 57, 62, 232, 233, 78, 79, 80, 250, 251, 252] (by decide +kernel) (by decide +kernel)
set_option maxRecDepth 20000 in
theorem gX7_carryOut_X2_settle : GoodIn wsX7_carryOut (wsV RX7 53 RX2 yX2_settle wsX2_settle) := goodIn_app (goodIn_of _ (by decide +kernel)) ggX7_carryOut_X2_settle
theorem dX7_carryOut_0 : decode cX7_carryOut 0 = .ok (.aload_n 0, 1) := by decide +kernel
theorem dX7_carryOut_1 : decode cX7_carryOut 1 = .ok (.getfield 36, 3) := by decide +kernel
theorem dX7_carryOut_4 : decode cX7_carryOut 4 = .ok (.invokevirtual 124, 3) := by decide +kernel
theorem dX7_carryOut_7 : decode cX7_carryOut 7 = .ok (.bipush (-6), 2) := by decide +kernel
theorem dX7_carryOut_9 : decode cX7_carryOut 9 = .ok (.if_icmp .eq 6, 3) := by decide +kernel
theorem dX7_carryOut_12 : decode cX7_carryOut 12 = .ok (.bipush (-3), 2) := by decide +kernel
theorem dX7_carryOut_14 : decode cX7_carryOut 14 = .ok (.ireturn, 1) := by decide +kernel
theorem dX7_carryOut_15 : decode cX7_carryOut 15 = .ok (.aload_n 0, 1) := by decide +kernel
theorem dX7_carryOut_16 : decode cX7_carryOut 16 = .ok (.getfield 22, 3) := by decide +kernel
theorem dX7_carryOut_19 : decode cX7_carryOut 19 = .ok (.aload_n 0, 1) := by decide +kernel
theorem dX7_carryOut_20 : decode cX7_carryOut 20 = .ok (.getfield 10, 3) := by decide +kernel
theorem dX7_carryOut_23 : decode cX7_carryOut 23 = .ok (.invokevirtual 45, 3) := by decide +kernel
theorem dX7_carryOut_26 : decode cX7_carryOut 26 = .ok (.iconst 0, 1) := by decide +kernel
theorem dX7_carryOut_27 : decode cX7_carryOut 27 = .ok (.istore_n 1, 1) := by decide +kernel
theorem dX7_carryOut_28 : decode cX7_carryOut 28 = .ok (.aload_n 0, 1) := by decide +kernel
theorem dX7_carryOut_29 : decode cX7_carryOut 29 = .ok (.getfield 36, 3) := by decide +kernel
theorem dX7_carryOut_32 : decode cX7_carryOut 32 = .ok (.invokevirtual 127, 3) := by decide +kernel
theorem dX7_carryOut_35 : decode cX7_carryOut 35 = .ok (.iconst 0, 1) := by decide +kernel
theorem dX7_carryOut_36 : decode cX7_carryOut 36 = .ok (.istore_n 2, 1) := by decide +kernel
theorem dX7_carryOut_37 : decode cX7_carryOut 37 = .ok (.iload_n 2, 1) := by decide +kernel
theorem dX7_carryOut_38 : decode cX7_carryOut 38 = .ok (.bipush 80, 2) := by decide +kernel
theorem dX7_carryOut_40 : decode cX7_carryOut 40 = .ok (.if_icmp .ge 44, 3) := by decide +kernel
theorem dX7_carryOut_43 : decode cX7_carryOut 43 = .ok (.aload_n 0, 1) := by decide +kernel
theorem dX7_carryOut_44 : decode cX7_carryOut 44 = .ok (.getfield 36, 3) := by decide +kernel
theorem dX7_carryOut_47 : decode cX7_carryOut 47 = .ok (.invokevirtual 130, 3) := by decide +kernel
theorem dX7_carryOut_50 : decode cX7_carryOut 50 = .ok (.aload_n 0, 1) := by decide +kernel
theorem dX7_carryOut_51 : decode cX7_carryOut 51 = .ok (.invokevirtual 133, 3) := by decide +kernel
theorem dX7_carryOut_54 : decode cX7_carryOut 54 = .ok (.ifCond .ge 6, 3) := by decide +kernel
theorem dX7_carryOut_57 : decode cX7_carryOut 57 = .ok (.goto 27, 3) := by decide +kernel
theorem dX7_carryOut_60 : decode cX7_carryOut 60 = .ok (.iinc 1 1, 3) := by decide +kernel
theorem dX7_carryOut_63 : decode cX7_carryOut 63 = .ok (.aload_n 0, 1) := by decide +kernel
theorem dX7_carryOut_64 : decode cX7_carryOut 64 = .ok (.getfield 36, 3) := by decide +kernel
theorem dX7_carryOut_67 : decode cX7_carryOut 67 = .ok (.bipush 59, 2) := by decide +kernel
theorem dX7_carryOut_69 : decode cX7_carryOut 69 = .ok (.invokevirtual 136, 3) := by decide +kernel
theorem dX7_carryOut_72 : decode cX7_carryOut 72 = .ok (.ifCond .ne 6, 3) := by decide +kernel
theorem dX7_carryOut_75 : decode cX7_carryOut 75 = .ok (.goto 9, 3) := by decide +kernel
theorem dX7_carryOut_78 : decode cX7_carryOut 78 = .ok (.iinc 2 1, 3) := by decide +kernel
theorem dX7_carryOut_81 : decode cX7_carryOut 81 = .ok (.goto (-44), 3) := by decide +kernel
theorem dX7_carryOut_84 : decode cX7_carryOut 84 = .ok (.aload_n 0, 1) := by decide +kernel
theorem dX7_carryOut_85 : decode cX7_carryOut 85 = .ok (.getfield 44, 3) := by decide +kernel
theorem dX7_carryOut_88 : decode cX7_carryOut 88 = .ok (.invokevirtual 121, 3) := by decide +kernel
theorem dX7_carryOut_91 : decode cX7_carryOut 91 = .ok (.pop, 1) := by decide +kernel
theorem dX7_carryOut_92 : decode cX7_carryOut 92 = .ok (.aload_n 0, 1) := by decide +kernel
theorem dX7_carryOut_93 : decode cX7_carryOut 93 = .ok (.getfield 22, 3) := by decide +kernel
theorem dX7_carryOut_96 : decode cX7_carryOut 96 = .ok (.iload_n 1, 1) := by decide +kernel
theorem dX7_carryOut_97 : decode cX7_carryOut 97 = .ok (.invokevirtual 53, 3) := by decide +kernel
theorem dX7_carryOut_100 : decode cX7_carryOut 100 = .ok (.ireturn, 1) := by decide +kernel
set_option maxRecDepth 20000 in
theorem ggX7_carryOutOne_X1_addStand : GoodIn wsX7_carryOutOne wsX1_addStand := goodIn_r _ [7, 8, 9, 10, 11, 12, 13, 14, 15, 16, 17, 18, 19, 20, 21, 22, 23, 24, 25, 26, 27, 28, 29, 30, 31, 32, 33, 34, 35, 36, 37, 153, 154, 155, 156, 157, 158, 159, 160, 161, 162, 163, 164, 165, 166, 167, 168, 169, 170] (by decide +kernel) (by decide +kernel)
set_option maxRecDepth 20000 in
theorem gX7_carryOutOne_X1_addStand : GoodIn wsX7_carryOutOne (wsV RX7 57 RX1 yX1_addStand wsX1_addStand) := goodIn_app (goodIn_of _ (by decide +kernel)) ggX7_carryOutOne_X1_addStand
set_option maxRecDepth 20000 in
theorem ggX7_carryOutOne_X1_addCrew : GoodIn wsX7_carryOutOne wsX1_addCrew := goodIn_r _ [41, 42, 10, 11, 12, 43, 44, 45, 46, 47, 48, 49, 50, 51, 52, 53, 54, 153, 154, 155, 156, 157, 158, 159, 171, 172, 173, 174, 175, 176, 177] (by decide +kernel) (by decide +kernel)
set_option maxRecDepth 20000 in
theorem gX7_carryOutOne_X1_addCrew : GoodIn wsX7_carryOutOne (wsV RX7 61 RX1 yX1_addCrew wsX1_addCrew) := goodIn_app (goodIn_of _ (by decide +kernel)) ggX7_carryOutOne_X1_addCrew
set_option maxRecDepth 20000 in
theorem ggX7_carryOutOne_X1_changeSetting : GoodIn wsX7_carryOutOne wsX1_changeSetting := goodIn_r _ [58, 59, 10, 11, 12, 153, 154, 155, 156, 157, 158, 159] (by decide +kernel) (by decide +kernel)
set_option maxRecDepth 20000 in
theorem gX7_carryOutOne_X1_changeSetting : GoodIn wsX7_carryOutOne (wsV RX7 49 RX1 yX1_changeSetting wsX1_changeSetting) := goodIn_app (goodIn_of _ (by decide +kernel)) ggX7_carryOutOne_X1_changeSetting
set_option maxRecDepth 20000 in
theorem ggX7_carryOutOne_X1_passHours : GoodIn wsX7_carryOutOne wsX1_passHours := goodIn_r _ [63, 64, 10, 11, 12, 65, 66, 67, 6, 68, 69, 70, 71, 72, 8, 73, 74, 75, 76, 59, 77, 78, 79, 16, 80, 18, 23, 30, 81, 82, 83, 84, 42, 9, 85, 86, 87, 88, 89, 90, 91, 92, 32, 93, 94, 95, 96, 97, 98, 99, 100, 24, 14, 15, 17, 13, 101, 102, 103, 104, 105, 106, 107, 108, 109, 110, 111, 112, 113, 114, 115, 116, 117, 118, 119, 120, 121, 122, 123, 124, 125, 126, 153, 154, 155, 156, 157, 158, 159, 160, 161, 162, 163, 164, 165, 166, 167, 168, 169, 170, 171, 172, 173, 174, 175, 176, 177] (by decide +kernel) (by decide +kernel)
set_option maxRecDepth 20000 in
theorem gX7_carryOutOne_X1_passHours : GoodIn wsX7_carryOutOne (wsV RX7 71 RX1 yX1_passHours wsX1_passHours) := goodIn_app (goodIn_of _ (by decide +kernel)) ggX7_carryOutOne_X1_passHours
set_option maxRecDepth 20000 in
theorem ggX7_carryOutOne_X1_endFair : GoodIn wsX7_carryOutOne wsX1_endFair := goodIn_r _ [130, 9, 42, 8, 131, 132, 133, 46, 134, 48, 51, 135, 136, 137, 16, 138, 18, 23, 33, 35, 153, 154, 155, 156, 157, 158, 159, 171, 172, 173, 174, 175, 176, 177, 160, 161, 162, 163, 164, 165, 166, 167, 168, 169, 170] (by decide +kernel) (by decide +kernel)
set_option maxRecDepth 20000 in
theorem gX7_carryOutOne_X1_endFair : GoodIn wsX7_carryOutOne (wsV RX7 64 RX1 yX1_endFair wsX1_endFair) := goodIn_app (goodIn_of _ (by decide +kernel)) ggX7_carryOutOne_X1_endFair
theorem dX7_carryOutOne_0 : decode cX7_carryOutOne 0 = .ok (.aload_n 0, 1) := by decide +kernel
theorem dX7_carryOutOne_1 : decode cX7_carryOutOne 1 = .ok (.getfield 36, 3) := by decide +kernel
theorem dX7_carryOutOne_4 : decode cX7_carryOutOne 4 = .ok (.getfield 140, 3) := by decide +kernel
theorem dX7_carryOutOne_7 : decode cX7_carryOutOne 7 = .ok (.lookupswitch 146 #[(43, 49), (99, 85), (100, 107), (101, 138), (116, 123)], 49) := by decide +kernel
theorem dX7_carryOutOne_56 : decode cX7_carryOutOne 56 = .ok (.aload_n 0, 1) := by decide +kernel
theorem dX7_carryOutOne_57 : decode cX7_carryOutOne 57 = .ok (.getfield 10, 3) := by decide +kernel
theorem dX7_carryOutOne_60 : decode cX7_carryOutOne 60 = .ok (.aload_n 0, 1) := by decide +kernel
theorem dX7_carryOutOne_61 : decode cX7_carryOutOne 61 = .ok (.getfield 36, 3) := by decide +kernel
theorem dX7_carryOutOne_64 : decode cX7_carryOutOne 64 = .ok (.getfield 143, 3) := by decide +kernel
theorem dX7_carryOutOne_67 : decode cX7_carryOutOne 67 = .ok (.aload_n 0, 1) := by decide +kernel
theorem dX7_carryOutOne_68 : decode cX7_carryOutOne 68 = .ok (.getfield 36, 3) := by decide +kernel
theorem dX7_carryOutOne_71 : decode cX7_carryOutOne 71 = .ok (.getfield 146, 3) := by decide +kernel
theorem dX7_carryOutOne_74 : decode cX7_carryOutOne 74 = .ok (.aload_n 0, 1) := by decide +kernel
theorem dX7_carryOutOne_75 : decode cX7_carryOutOne 75 = .ok (.getfield 36, 3) := by decide +kernel
theorem dX7_carryOutOne_78 : decode cX7_carryOutOne 78 = .ok (.getfield 149, 3) := by decide +kernel
theorem dX7_carryOutOne_81 : decode cX7_carryOutOne 81 = .ok (.aload_n 0, 1) := by decide +kernel
theorem dX7_carryOutOne_82 : decode cX7_carryOutOne 82 = .ok (.getfield 36, 3) := by decide +kernel
theorem dX7_carryOutOne_85 : decode cX7_carryOutOne 85 = .ok (.getfield 152, 3) := by decide +kernel
theorem dX7_carryOutOne_88 : decode cX7_carryOutOne 88 = .ok (.invokevirtual 57, 3) := by decide +kernel
theorem dX7_carryOutOne_91 : decode cX7_carryOutOne 91 = .ok (.ireturn, 1) := by decide +kernel
theorem dX7_carryOutOne_92 : decode cX7_carryOutOne 92 = .ok (.aload_n 0, 1) := by decide +kernel
theorem dX7_carryOutOne_93 : decode cX7_carryOutOne 93 = .ok (.getfield 10, 3) := by decide +kernel
theorem dX7_carryOutOne_96 : decode cX7_carryOutOne 96 = .ok (.aload_n 0, 1) := by decide +kernel
theorem dX7_carryOutOne_97 : decode cX7_carryOutOne 97 = .ok (.getfield 36, 3) := by decide +kernel
theorem dX7_carryOutOne_100 : decode cX7_carryOutOne 100 = .ok (.getfield 143, 3) := by decide +kernel
theorem dX7_carryOutOne_103 : decode cX7_carryOutOne 103 = .ok (.aload_n 0, 1) := by decide +kernel
theorem dX7_carryOutOne_104 : decode cX7_carryOutOne 104 = .ok (.getfield 36, 3) := by decide +kernel
theorem dX7_carryOutOne_107 : decode cX7_carryOutOne 107 = .ok (.getfield 146, 3) := by decide +kernel
theorem dX7_carryOutOne_110 : decode cX7_carryOutOne 110 = .ok (.invokevirtual 61, 3) := by decide +kernel
theorem dX7_carryOutOne_113 : decode cX7_carryOutOne 113 = .ok (.ireturn, 1) := by decide +kernel
theorem dX7_carryOutOne_114 : decode cX7_carryOutOne 114 = .ok (.aload_n 0, 1) := by decide +kernel
theorem dX7_carryOutOne_115 : decode cX7_carryOutOne 115 = .ok (.getfield 10, 3) := by decide +kernel
theorem dX7_carryOutOne_118 : decode cX7_carryOutOne 118 = .ok (.iconst 0, 1) := by decide +kernel
theorem dX7_carryOutOne_119 : decode cX7_carryOutOne 119 = .ok (.aload_n 0, 1) := by decide +kernel
theorem dX7_carryOutOne_120 : decode cX7_carryOutOne 120 = .ok (.getfield 36, 3) := by decide +kernel
theorem dX7_carryOutOne_123 : decode cX7_carryOutOne 123 = .ok (.getfield 143, 3) := by decide +kernel
theorem dX7_carryOutOne_126 : decode cX7_carryOutOne 126 = .ok (.invokevirtual 49, 3) := by decide +kernel
theorem dX7_carryOutOne_129 : decode cX7_carryOutOne 129 = .ok (.ireturn, 1) := by decide +kernel
theorem dX7_carryOutOne_130 : decode cX7_carryOutOne 130 = .ok (.aload_n 0, 1) := by decide +kernel
theorem dX7_carryOutOne_131 : decode cX7_carryOutOne 131 = .ok (.getfield 10, 3) := by decide +kernel
theorem dX7_carryOutOne_134 : decode cX7_carryOutOne 134 = .ok (.aload_n 0, 1) := by decide +kernel
theorem dX7_carryOutOne_135 : decode cX7_carryOutOne 135 = .ok (.getfield 36, 3) := by decide +kernel
theorem dX7_carryOutOne_138 : decode cX7_carryOutOne 138 = .ok (.getfield 143, 3) := by decide +kernel
theorem dX7_carryOutOne_141 : decode cX7_carryOutOne 141 = .ok (.invokevirtual 71, 3) := by decide +kernel
theorem dX7_carryOutOne_144 : decode cX7_carryOutOne 144 = .ok (.ireturn, 1) := by decide +kernel
theorem dX7_carryOutOne_145 : decode cX7_carryOutOne 145 = .ok (.aload_n 0, 1) := by decide +kernel
theorem dX7_carryOutOne_146 : decode cX7_carryOutOne 146 = .ok (.getfield 10, 3) := by decide +kernel
theorem dX7_carryOutOne_149 : decode cX7_carryOutOne 149 = .ok (.invokevirtual 64, 3) := by decide +kernel
theorem dX7_carryOutOne_152 : decode cX7_carryOutOne 152 = .ok (.ireturn, 1) := by decide +kernel
theorem dX7_carryOutOne_153 : decode cX7_carryOutOne 153 = .ok (.bipush (-3), 2) := by decide +kernel
theorem dX7_carryOutOne_155 : decode cX7_carryOutOne 155 = .ok (.ireturn, 1) := by decide +kernel
set_option maxRecDepth 20000 in
theorem ggX7_undo_X2_stepBack : GoodIn wsX7_undo wsX2_stepBack := goodIn_r _ [7, 8, 9, 10, 11, 12, 13, 6, 14, 15, 16, 17, 18, 19, 20, 21, 22, 23, 24, 25, 26, 27, 28, 29, 30, 31, 32, 33, 34, 35, 36, 37, 38, 39, 40, 41, 42, 43, 44, 45, 46, 47, 48, 49, 50, 51, 52, 53, 54, 55, 56, 57, 58, 59, 60, 61, 62, 63, 64, 65, 72, 73, 74, 75, 76, 77, 78, 79, 80, 81, 82, 83, 84, 85, 86, 87, 88, 89, 90, 91, 92, 93, 94, 95, 96, 97, 98, 99] (by decide +kernel) (by decide +kernel)
set_option maxRecDepth 20000 in
theorem gX7_undo_X2_stepBack : GoodIn wsX7_undo (wsV RX7 155 RX2 yX2_stepBack wsX2_stepBack) := goodIn_app (goodIn_of _ (by decide +kernel)) ggX7_undo_X2_stepBack
theorem dX7_undo_0 : decode cX7_undo 0 = .ok (.aload_n 0, 1) := by decide +kernel
theorem dX7_undo_1 : decode cX7_undo 1 = .ok (.getfield 22, 3) := by decide +kernel
theorem dX7_undo_4 : decode cX7_undo 4 = .ok (.aload_n 0, 1) := by decide +kernel
theorem dX7_undo_5 : decode cX7_undo 5 = .ok (.getfield 10, 3) := by decide +kernel
theorem dX7_undo_8 : decode cX7_undo 8 = .ok (.invokevirtual 155, 3) := by decide +kernel
theorem dX7_undo_11 : decode cX7_undo 11 = .ok (.ireturn, 1) := by decide +kernel
set_option maxRecDepth 20000 in
theorem ggX7_save_X5_keep : GoodIn wsX7_save wsX5_keep := goodIn_r _ [7, 8, 9, 10, 11, 12, 13, 14, 15, 16, 17, 18, 19, 20, 21, 22, 23, 24, 25, 26, 27, 28, 29, 30, 31, 32, 33, 34, 35, 36, 37, 38, 39, 40, 41, 42, 43, 44, 45, 46, 47, 48, 49, 50, 51, 52, 53, 54, 55, 56, 57, 58, 59, 60, 67, 68, 69, 70, 71, 72, 73, 74, 75, 76, 77, 78, 79, 80, 81, 82, 83, 84, 85, 86, 87, 88, 89, 90, 91, 92, 93] (by decide +kernel) (by decide +kernel)
set_option maxRecDepth 20000 in
theorem gX7_save_X5_keep : GoodIn wsX7_save (wsV RX7 159 RX5 yX5_keep wsX5_keep) := goodIn_app (goodIn_of _ (by decide +kernel)) ggX7_save_X5_keep
theorem dX7_save_0 : decode cX7_save 0 = .ok (.aload_n 0, 1) := by decide +kernel
theorem dX7_save_1 : decode cX7_save 1 = .ok (.getfield 29, 3) := by decide +kernel
theorem dX7_save_4 : decode cX7_save 4 = .ok (.iload_n 1, 1) := by decide +kernel
theorem dX7_save_5 : decode cX7_save 5 = .ok (.aload_n 0, 1) := by decide +kernel
theorem dX7_save_6 : decode cX7_save 6 = .ok (.getfield 10, 3) := by decide +kernel
theorem dX7_save_9 : decode cX7_save 9 = .ok (.invokevirtual 159, 3) := by decide +kernel
theorem dX7_save_12 : decode cX7_save 12 = .ok (.ireturn, 1) := by decide +kernel
set_option maxRecDepth 20000 in
theorem ggX7_restore_X2_prepare : GoodIn wsX7_restore wsX2_prepare := goodIn_r _ [8, 9, 10, 11, 12, 7, 13, 14, 15, 16, 17, 18, 19, 20, 21, 22, 23, 24, 25, 26, 27, 28, 29, 30, 31, 32, 33, 34, 35, 36, 37, 38, 39, 40, 41, 42, 43, 44, 45, 46, 47, 48, 49, 50, 51, 52, 53, 54, 55, 56, 57, 58, 59, 60, 61, 62, 63, 64, 65, 86, 87, 88, 89, 90, 91, 92, 93, 94, 95, 96, 97, 98, 99, 100, 101, 102, 103, 104, 105, 106, 107, 108, 109, 110, 111, 112, 113] (by decide +kernel) (by decide +kernel)
set_option maxRecDepth 20000 in
theorem gX7_restore_X2_prepare : GoodIn wsX7_restore (wsV RX7 45 RX2 yX2_prepare wsX2_prepare) := goodIn_app (goodIn_of _ (by decide +kernel)) ggX7_restore_X2_prepare
set_option maxRecDepth 20000 in
theorem ggX7_restore_X5_giveBack : GoodIn wsX7_restore wsX5_giveBack := goodIn_r _ [70, 71, 72, 73, 16, 17, 18, 19, 20, 21, 22, 23, 24, 25, 26, 27, 28, 29, 30, 31, 32, 33, 34, 35, 36, 37, 38, 39, 40, 41, 42, 43, 44, 45, 46, 47, 48, 49, 50, 51, 52, 53, 54, 55, 56, 57, 58, 59, 60, 61, 62, 63, 64, 65, 114, 115, 89, 90, 91, 92, 93, 94, 95, 96, 97, 98, 99, 100, 101, 102, 103, 104, 105, 106, 107, 108, 109, 110, 111, 112, 113] (by decide +kernel) (by decide +kernel)
set_option maxRecDepth 20000 in
theorem gX7_restore_X5_giveBack : GoodIn wsX7_restore (wsV RX7 163 RX5 yX5_giveBack wsX5_giveBack) := goodIn_app (goodIn_of _ (by decide +kernel)) ggX7_restore_X5_giveBack
set_option maxRecDepth 20000 in
theorem ggX7_restore_X2_settle : GoodIn wsX7_restore wsX2_settle := goodIn_r _ [77, 9, 14, 78, 79, 31, 32, 33, 86, 87, 88] (by decide +kernel) (by decide +kernel)
set_option maxRecDepth 20000 in
theorem gX7_restore_X2_settle : GoodIn wsX7_restore (wsV RX7 53 RX2 yX2_settle wsX2_settle) := goodIn_app (goodIn_of _ (by decide +kernel)) ggX7_restore_X2_settle
theorem dX7_restore_0 : decode cX7_restore 0 = .ok (.aload_n 0, 1) := by decide +kernel
theorem dX7_restore_1 : decode cX7_restore 1 = .ok (.getfield 22, 3) := by decide +kernel
theorem dX7_restore_4 : decode cX7_restore 4 = .ok (.aload_n 0, 1) := by decide +kernel
theorem dX7_restore_5 : decode cX7_restore 5 = .ok (.getfield 10, 3) := by decide +kernel
theorem dX7_restore_8 : decode cX7_restore 8 = .ok (.invokevirtual 45, 3) := by decide +kernel
theorem dX7_restore_11 : decode cX7_restore 11 = .ok (.aload_n 0, 1) := by decide +kernel
theorem dX7_restore_12 : decode cX7_restore 12 = .ok (.getfield 22, 3) := by decide +kernel
theorem dX7_restore_15 : decode cX7_restore 15 = .ok (.aload_n 0, 1) := by decide +kernel
theorem dX7_restore_16 : decode cX7_restore 16 = .ok (.getfield 29, 3) := by decide +kernel
theorem dX7_restore_19 : decode cX7_restore 19 = .ok (.iload_n 1, 1) := by decide +kernel
theorem dX7_restore_20 : decode cX7_restore 20 = .ok (.aload_n 0, 1) := by decide +kernel
theorem dX7_restore_21 : decode cX7_restore 21 = .ok (.getfield 10, 3) := by decide +kernel
theorem dX7_restore_24 : decode cX7_restore 24 = .ok (.invokevirtual 163, 3) := by decide +kernel
theorem dX7_restore_27 : decode cX7_restore 27 = .ok (.invokevirtual 53, 3) := by decide +kernel
theorem dX7_restore_30 : decode cX7_restore 30 = .ok (.ireturn, 1) := by decide +kernel
theorem dX7_isWithin_0 : decode cX7_isWithin 0 = .ok (.iload_n 0, 1) := by decide +kernel
theorem dX7_isWithin_1 : decode cX7_isWithin 1 = .ok (.iload_n 1, 1) := by decide +kernel
theorem dX7_isWithin_2 : decode cX7_isWithin 2 = .ok (.if_icmp .lt 12, 3) := by decide +kernel
theorem dX7_isWithin_5 : decode cX7_isWithin 5 = .ok (.iload_n 0, 1) := by decide +kernel
theorem dX7_isWithin_6 : decode cX7_isWithin 6 = .ok (.iload_n 2, 1) := by decide +kernel
theorem dX7_isWithin_7 : decode cX7_isWithin 7 = .ok (.if_icmp .gt 7, 3) := by decide +kernel
theorem dX7_isWithin_10 : decode cX7_isWithin 10 = .ok (.iconst 1, 1) := by decide +kernel
theorem dX7_isWithin_11 : decode cX7_isWithin 11 = .ok (.goto 4, 3) := by decide +kernel
theorem dX7_isWithin_14 : decode cX7_isWithin 14 = .ok (.iconst 0, 1) := by decide +kernel
theorem dX7_isWithin_15 : decode cX7_isWithin 15 = .ok (.ireturn, 1) := by decide +kernel
theorem dX7_copyRow_0 : decode cX7_copyRow 0 = .ok (.aload_n 0, 1) := by decide +kernel
theorem dX7_copyRow_1 : decode cX7_copyRow 1 = .ok (.iconst 0, 1) := by decide +kernel
theorem dX7_copyRow_2 : decode cX7_copyRow 2 = .ok (.aload_n 1, 1) := by decide +kernel
theorem dX7_copyRow_3 : decode cX7_copyRow 3 = .ok (.iconst 0, 1) := by decide +kernel
theorem dX7_copyRow_4 : decode cX7_copyRow 4 = .ok (.aload_n 0, 1) := by decide +kernel
theorem dX7_copyRow_5 : decode cX7_copyRow 5 = .ok (.arraylength, 1) := by decide +kernel
theorem dX7_copyRow_6 : decode cX7_copyRow 6 = .ok (.aload_n 1, 1) := by decide +kernel
theorem dX7_copyRow_7 : decode cX7_copyRow 7 = .ok (.arraylength, 1) := by decide +kernel
theorem dX7_copyRow_8 : decode cX7_copyRow 8 = .ok (.invokestatic 166, 3) := by decide +kernel
theorem dX7_copyRow_11 : decode cX7_copyRow 11 = .ok (.invokestatic 171, 3) := by decide +kernel
theorem dX7_copyRow_14 : decode cX7_copyRow 14 = .ok (.return_, 1) := by decide +kernel
