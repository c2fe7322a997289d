theorem dX8_ends_0 : decode cX8_ends 0 = .ok (.iconst 0, 1) := by decide +kernel
theorem dX8_ends_1 : decode cX8_ends 1 = .ok (.istore_n 1, 1) := by decide +kernel
theorem dX8_ends_2 : decode cX8_ends 2 = .ok (.aload_n 0, 1) := by decide +kernel
theorem dX8_ends_3 : decode cX8_ends 3 = .ok (.getfield 7, 3) := by decide +kernel
theorem dX8_ends_6 : decode cX8_ends 6 = .ok (.bipush 6, 2) := by decide +kernel
theorem dX8_ends_8 : decode cX8_ends 8 = .ok (.iconst 1, 1) := by decide +kernel
theorem dX8_ends_9 : decode cX8_ends 9 = .ok (.iastore, 1) := by decide +kernel
theorem dX8_ends_10 : decode cX8_ends 10 = .ok (.iconst 0, 1) := by decide +kernel
theorem dX8_ends_11 : decode cX8_ends 11 = .ok (.istore_n 2, 1) := by decide +kernel
theorem dX8_ends_12 : decode cX8_ends 12 = .ok (.iload_n 2, 1) := by decide +kernel
theorem dX8_ends_13 : decode cX8_ends 13 = .ok (.aload_n 0, 1) := by decide +kernel
theorem dX8_ends_14 : decode cX8_ends 14 = .ok (.getfield 7, 3) := by decide +kernel
theorem dX8_ends_17 : decode cX8_ends 17 = .ok (.iconst 4, 1) := by decide +kernel
theorem dX8_ends_18 : decode cX8_ends 18 = .ok (.iaload, 1) := by decide +kernel
theorem dX8_ends_19 : decode cX8_ends 19 = .ok (.if_icmp .ge 72, 3) := by decide +kernel
theorem dX8_ends_22 : decode cX8_ends 22 = .ok (.aload_n 0, 1) := by decide +kernel
theorem dX8_ends_23 : decode cX8_ends 23 = .ok (.iload_n 2, 1) := by decide +kernel
theorem dX8_ends_24 : decode cX8_ends 24 = .ok (.iconst 4, 1) := by decide +kernel
theorem dX8_ends_25 : decode cX8_ends 25 = .ok (.invokevirtual 40, 3) := by decide +kernel
theorem dX8_ends_28 : decode cX8_ends 28 = .ok (.iconst 4, 1) := by decide +kernel
theorem dX8_ends_29 : decode cX8_ends 29 = .ok (.if_icmp .ge 56, 3) := by decide +kernel
theorem dX8_ends_32 : decode cX8_ends 32 = .ok (.aload_n 0, 1) := by decide +kernel
theorem dX8_ends_33 : decode cX8_ends 33 = .ok (.iload_n 2, 1) := by decide +kernel
theorem dX8_ends_34 : decode cX8_ends 34 = .ok (.bipush 7, 2) := by decide +kernel
theorem dX8_ends_36 : decode cX8_ends 36 = .ok (.invokevirtual 40, 3) := by decide +kernel
theorem dX8_ends_39 : decode cX8_ends 39 = .ok (.bipush (-6), 2) := by decide +kernel
theorem dX8_ends_41 : decode cX8_ends 41 = .ok (.if_icmp .eq 17, 3) := by decide +kernel
theorem dX8_ends_44 : decode cX8_ends 44 = .ok (.aload_n 0, 1) := by decide +kernel
theorem dX8_ends_45 : decode cX8_ends 45 = .ok (.aload_n 0, 1) := by decide +kernel
theorem dX8_ends_46 : decode cX8_ends 46 = .ok (.iload_n 2, 1) := by decide +kernel
theorem dX8_ends_47 : decode cX8_ends 47 = .ok (.bipush 7, 2) := by decide +kernel
theorem dX8_ends_49 : decode cX8_ends 49 = .ok (.invokevirtual 40, 3) := by decide +kernel
theorem dX8_ends_52 : decode cX8_ends 52 = .ok (.iconst 2, 1) := by decide +kernel
theorem dX8_ends_53 : decode cX8_ends 53 = .ok (.bipush (-6), 2) := by decide +kernel
theorem dX8_ends_55 : decode cX8_ends 55 = .ok (.invokevirtual 64, 3) := by decide +kernel
theorem dX8_ends_58 : decode cX8_ends 58 = .ok (.aload_n 0, 1) := by decide +kernel
theorem dX8_ends_59 : decode cX8_ends 59 = .ok (.iload_n 2, 1) := by decide +kernel
theorem dX8_ends_60 : decode cX8_ends 60 = .ok (.bipush 7, 2) := by decide +kernel
theorem dX8_ends_62 : decode cX8_ends 62 = .ok (.bipush (-6), 2) := by decide +kernel
theorem dX8_ends_64 : decode cX8_ends 64 = .ok (.invokevirtual 48, 3) := by decide +kernel
theorem dX8_ends_67 : decode cX8_ends 67 = .ok (.aload_n 0, 1) := by decide +kernel
theorem dX8_ends_68 : decode cX8_ends 68 = .ok (.iload_n 2, 1) := by decide +kernel
theorem dX8_ends_69 : decode cX8_ends 69 = .ok (.iconst 4, 1) := by decide +kernel
theorem dX8_ends_70 : decode cX8_ends 70 = .ok (.bipush 6, 2) := by decide +kernel
theorem dX8_ends_72 : decode cX8_ends 72 = .ok (.invokevirtual 48, 3) := by decide +kernel
theorem dX8_ends_75 : decode cX8_ends 75 = .ok (.aload_n 0, 1) := by decide +kernel
theorem dX8_ends_76 : decode cX8_ends 76 = .ok (.iload_n 2, 1) := by decide +kernel
theorem dX8_ends_77 : decode cX8_ends 77 = .ok (.iconst 5, 1) := by decide +kernel
theorem dX8_ends_78 : decode cX8_ends 78 = .ok (.iconst 0, 1) := by decide +kernel
theorem dX8_ends_79 : decode cX8_ends 79 = .ok (.invokevirtual 48, 3) := by decide +kernel
theorem dX8_ends_82 : decode cX8_ends 82 = .ok (.iinc 1 1, 3) := by decide +kernel
theorem dX8_ends_85 : decode cX8_ends 85 = .ok (.iinc 2 1, 3) := by decide +kernel
theorem dX8_ends_88 : decode cX8_ends 88 = .ok (.goto (-76), 3) := by decide +kernel
theorem dX8_ends_91 : decode cX8_ends 91 = .ok (.iload_n 1, 1) := by decide +kernel
theorem dX8_ends_92 : decode cX8_ends 92 = .ok (.ireturn, 1) := by decide +kernel
set_option maxRecDepth 20000 in
theorem ggX8_end_X8_record : GoodIn wsX8_end wsX8_record := goodIn_r _ [6, 7, 8, 1, 9, 10, 5, 11, 28, 29, 30, 31, 32, 33, 34, 35, 36, 37, 38, 39, 40, 41] (by decide +kernel) (by decide +kernel)
set_option maxRecDepth 20000 in
theorem gX8_end_X8_record : GoodIn wsX8_end (wsV RX8 98 RX8 yX8_record wsX8_record) := goodIn_app (goodIn_of _ (by decide +kernel)) ggX8_end_X8_record
set_option maxRecDepth 20000 in
theorem ggX8_end_X8_ends : GoodIn wsX8_end wsX8_ends := goodIn_r _ [15, 1, 16, 17, 18, 5, 19, 20, 21, 22, 23, 24, 25, 26, 27, 28, 29, 30, 31, 32, 33, 34, 35, 36, 37, 38, 39, 40, 41] (by decide +kernel) (by decide +kernel)
set_option maxRecDepth 20000 in
theorem gX8_end_X8_ends : GoodIn wsX8_end (wsV RX8 117 RX8 yX8_ends wsX8_ends) := goodIn_app (goodIn_of _ (by decide +kernel)) ggX8_end_X8_ends
theorem dX8_end_0 : decode cX8_end 0 = .ok (.aload_n 0, 1) := by decide +kernel
theorem dX8_end_1 : decode cX8_end 1 = .ok (.getfield 7, 3) := by decide +kernel
theorem dX8_end_4 : decode cX8_end 4 = .ok (.bipush 6, 2) := by decide +kernel
theorem dX8_end_6 : decode cX8_end 6 = .ok (.iaload, 1) := by decide +kernel
theorem dX8_end_7 : decode cX8_end 7 = .ok (.iconst 1, 1) := by decide +kernel
theorem dX8_end_8 : decode cX8_end 8 = .ok (.if_icmp .ne 6, 3) := by decide +kernel
theorem dX8_end_11 : decode cX8_end 11 = .ok (.bipush (-5), 2) := by decide +kernel
theorem dX8_end_13 : decode cX8_end 13 = .ok (.ireturn, 1) := by decide +kernel
theorem dX8_end_14 : decode cX8_end 14 = .ok (.aload_n 0, 1) := by decide +kernel
theorem dX8_end_15 : decode cX8_end 15 = .ok (.invokevirtual 98, 3) := by decide +kernel
theorem dX8_end_18 : decode cX8_end 18 = .ok (.aload_n 0, 1) := by decide +kernel
theorem dX8_end_19 : decode cX8_end 19 = .ok (.invokevirtual 117, 3) := by decide +kernel
theorem dX8_end_22 : decode cX8_end 22 = .ok (.ireturn, 1) := by decide +kernel
set_option maxRecDepth 20000 in
theorem ggX8_find_X8_record : GoodIn wsX8_find wsX8_record := goodIn_r _ [6, 7, 8, 1, 9, 10, 5, 11, 12, 13, 14, 15, 16, 17, 18, 19, 20, 21, 22, 23, 24, 25] (by decide +kernel) (by decide +kernel)
set_option maxRecDepth 20000 in
theorem gX8_find_X8_record : GoodIn wsX8_find (wsV RX8 98 RX8 yX8_record wsX8_record) := goodIn_app (goodIn_of _ (by decide +kernel)) ggX8_find_X8_record
theorem dX8_find_0 : decode cX8_find 0 = .ok (.aload_n 0, 1) := by decide +kernel
theorem dX8_find_1 : decode cX8_find 1 = .ok (.getfield 7, 3) := by decide +kernel
theorem dX8_find_4 : decode cX8_find 4 = .ok (.bipush 7, 2) := by decide +kernel
theorem dX8_find_6 : decode cX8_find 6 = .ok (.iaload, 1) := by decide +kernel
theorem dX8_find_7 : decode cX8_find 7 = .ok (.ifCond .ne 6, 3) := by decide +kernel
theorem dX8_find_10 : decode cX8_find 10 = .ok (.bipush (-5), 2) := by decide +kernel
theorem dX8_find_12 : decode cX8_find 12 = .ok (.ireturn, 1) := by decide +kernel
theorem dX8_find_13 : decode cX8_find 13 = .ok (.aload_n 0, 1) := by decide +kernel
theorem dX8_find_14 : decode cX8_find 14 = .ok (.invokevirtual 98, 3) := by decide +kernel
theorem dX8_find_17 : decode cX8_find 17 = .ok (.aload_n 0, 1) := by decide +kernel
theorem dX8_find_18 : decode cX8_find 18 = .ok (.getfield 7, 3) := by decide +kernel
theorem dX8_find_21 : decode cX8_find 21 = .ok (.bipush 7, 2) := by decide +kernel
theorem dX8_find_23 : decode cX8_find 23 = .ok (.dup2, 1) := by decide +kernel
theorem dX8_find_24 : decode cX8_find 24 = .ok (.iaload, 1) := by decide +kernel
theorem dX8_find_25 : decode cX8_find 25 = .ok (.iconst 1, 1) := by decide +kernel
theorem dX8_find_26 : decode cX8_find 26 = .ok (.isub, 1) := by decide +kernel
theorem dX8_find_27 : decode cX8_find 27 = .ok (.iastore, 1) := by decide +kernel
theorem dX8_find_28 : decode cX8_find 28 = .ok (.aload_n 0, 1) := by decide +kernel
theorem dX8_find_29 : decode cX8_find 29 = .ok (.getfield 7, 3) := by decide +kernel
theorem dX8_find_32 : decode cX8_find 32 = .ok (.bipush 7, 2) := by decide +kernel
theorem dX8_find_34 : decode cX8_find 34 = .ok (.iaload, 1) := by decide +kernel
theorem dX8_find_35 : decode cX8_find 35 = .ok (.ireturn, 1) := by decide +kernel
set_option maxRecDepth 20000 in
theorem ggX8_whyNotPassed_X8_within : GoodIn wsX8_whyNotPassed wsX8_within := goodIn_r _ [5] (by decide +kernel) (by decide +kernel)
set_option maxRecDepth 20000 in
theorem gX8_whyNotPassed_X8_within : GoodIn wsX8_whyNotPassed (va_wsS RX8 36 yX8_within wsX8_within) := goodIn_app (goodIn_of _ (by decide +kernel)) ggX8_whyNotPassed_X8_within
theorem dX8_whyNotPassed_0 : decode cX8_whyNotPassed 0 = .ok (.iload_n 1, 1) := by decide +kernel
theorem dX8_whyNotPassed_1 : decode cX8_whyNotPassed 1 = .ok (.iconst 1, 1) := by decide +kernel
theorem dX8_whyNotPassed_2 : decode cX8_whyNotPassed 2 = .ok (.bipush 99, 2) := by decide +kernel
theorem dX8_whyNotPassed_4 : decode cX8_whyNotPassed 4 = .ok (.invokestatic 36, 3) := by decide +kernel
theorem dX8_whyNotPassed_7 : decode cX8_whyNotPassed 7 = .ok (.ifCond .ne 8, 3) := by decide +kernel
theorem dX8_whyNotPassed_10 : decode cX8_whyNotPassed 10 = .ok (.bipush (-2), 2) := by decide +kernel
theorem dX8_whyNotPassed_12 : decode cX8_whyNotPassed 12 = .ok (.goto 23, 3) := by decide +kernel
theorem dX8_whyNotPassed_15 : decode cX8_whyNotPassed 15 = .ok (.aload_n 0, 1) := by decide +kernel
theorem dX8_whyNotPassed_16 : decode cX8_whyNotPassed 16 = .ok (.getfield 7, 3) := by decide +kernel
theorem dX8_whyNotPassed_19 : decode cX8_whyNotPassed 19 = .ok (.iconst 3, 1) := by decide +kernel
theorem dX8_whyNotPassed_20 : decode cX8_whyNotPassed 20 = .ok (.iaload, 1) := by decide +kernel
theorem dX8_whyNotPassed_21 : decode cX8_whyNotPassed 21 = .ok (.iload_n 1, 1) := by decide +kernel
theorem dX8_whyNotPassed_22 : decode cX8_whyNotPassed 22 = .ok (.iadd, 1) := by decide +kernel
theorem dX8_whyNotPassed_23 : decode cX8_whyNotPassed 23 = .ok (.sipush 9999, 3) := by decide +kernel
theorem dX8_whyNotPassed_26 : decode cX8_whyNotPassed 26 = .ok (.if_icmp .le 8, 3) := by decide +kernel
theorem dX8_whyNotPassed_29 : decode cX8_whyNotPassed 29 = .ok (.bipush (-5), 2) := by decide +kernel
theorem dX8_whyNotPassed_31 : decode cX8_whyNotPassed 31 = .ok (.goto 4, 3) := by decide +kernel
theorem dX8_whyNotPassed_34 : decode cX8_whyNotPassed 34 = .ok (.iconst 0, 1) := by decide +kernel
theorem dX8_whyNotPassed_35 : decode cX8_whyNotPassed 35 = .ok (.ireturn, 1) := by decide +kernel
set_option maxRecDepth 20000 in
theorem ggX8_pass_X8_whyNotPassed : GoodIn wsX8_pass wsX8_whyNotPassed := goodIn_r _ [5, 6, 7, 8, 4, 9, 87, 88, 89, 90, 91, 92, 93, 94, 95, 96, 97, 98, 99, 100] (by decide +kernel) (by decide +kernel)
set_option maxRecDepth 20000 in
theorem gX8_pass_X8_whyNotPassed : GoodIn wsX8_pass (wsV RX8 120 RX8 yX8_whyNotPassed wsX8_whyNotPassed) := goodIn_app (goodIn_of _ (by decide +kernel)) ggX8_pass_X8_whyNotPassed
set_option maxRecDepth 20000 in
theorem ggX8_pass_X8_record : GoodIn wsX8_pass wsX8_record := goodIn_r _ [13, 14, 15, 6, 16, 17, 4, 18, 87, 88, 89, 90, 91, 92, 93, 94, 95, 96, 97, 98, 99, 100] (by decide +kernel) (by decide +kernel)
set_option maxRecDepth 20000 in
theorem gX8_pass_X8_record : GoodIn wsX8_pass (wsV RX8 98 RX8 yX8_record wsX8_record) := goodIn_app (goodIn_of _ (by decide +kernel)) ggX8_pass_X8_record
set_option maxRecDepth 20000 in
theorem ggX8_pass_X8_passes : GoodIn wsX8_pass wsX8_passes := goodIn_r _ [22, 23, 24, 25, 4, 26, 6, 27, 28, 29, 30, 31, 32, 33, 34, 35, 36, 37, 38, 39, 40, 41, 42, 43, 44, 45, 46, 47, 48, 49, 50, 51, 52, 53, 54, 55, 56, 57, 58, 59, 60, 61, 62, 63, 64, 65, 66, 67, 68, 69, 70, 71, 72, 73, 74, 75, 76, 77, 78, 79, 80, 81, 82, 83, 84, 85, 86, 87, 88, 89, 90, 91, 92, 93, 94, 95, 96, 97, 98, 99, 100] (by decide +kernel) (by decide +kernel)
set_option maxRecDepth 20000 in
theorem gX8_pass_X8_passes : GoodIn wsX8_pass (wsV RX8 123 RX8 yX8_passes wsX8_passes) := goodIn_app (goodIn_of _ (by decide +kernel)) ggX8_pass_X8_passes
theorem dX8_pass_0 : decode cX8_pass 0 = .ok (.aload_n 0, 1) := by decide +kernel
theorem dX8_pass_1 : decode cX8_pass 1 = .ok (.iload_n 1, 1) := by decide +kernel
theorem dX8_pass_2 : decode cX8_pass 2 = .ok (.invokevirtual 120, 3) := by decide +kernel
theorem dX8_pass_5 : decode cX8_pass 5 = .ok (.istore_n 2, 1) := by decide +kernel
theorem dX8_pass_6 : decode cX8_pass 6 = .ok (.iload_n 2, 1) := by decide +kernel
theorem dX8_pass_7 : decode cX8_pass 7 = .ok (.ifCond .ge 5, 3) := by decide +kernel
theorem dX8_pass_10 : decode cX8_pass 10 = .ok (.iload_n 2, 1) := by decide +kernel
theorem dX8_pass_11 : decode cX8_pass 11 = .ok (.ireturn, 1) := by decide +kernel
theorem dX8_pass_12 : decode cX8_pass 12 = .ok (.aload_n 0, 1) := by decide +kernel
theorem dX8_pass_13 : decode cX8_pass 13 = .ok (.invokevirtual 98, 3) := by decide +kernel
theorem dX8_pass_16 : decode cX8_pass 16 = .ok (.aload_n 0, 1) := by decide +kernel
theorem dX8_pass_17 : decode cX8_pass 17 = .ok (.iload_n 1, 1) := by decide +kernel
theorem dX8_pass_18 : decode cX8_pass 18 = .ok (.invokevirtual 123, 3) := by decide +kernel
theorem dX8_pass_21 : decode cX8_pass 21 = .ok (.ireturn, 1) := by decide +kernel
set_option maxRecDepth 20000 in
theorem ggX8_leftOf_X8_isHow : GoodIn wsX8_leftOf wsX8_isHow := goodIn_r _ [5, 6, 7, 8, 4, 9, 10, 11, 12, 13, 14, 15, 16, 17, 18, 19, 20, 21, 22, 23, 24] (by decide +kernel) (by decide +kernel)
set_option maxRecDepth 20000 in
theorem gX8_leftOf_X8_isHow : GoodIn wsX8_leftOf (wsV RX8 44 RX8 yX8_isHow wsX8_isHow) := goodIn_app (goodIn_of _ (by decide +kernel)) ggX8_leftOf_X8_isHow
set_option maxRecDepth 20000 in
theorem ggX8_leftOf_X8_part : GoodIn wsX8_leftOf wsX8_part := goodIn_r _ [9, 10, 11, 12, 13, 14, 15, 16, 17, 18, 19, 20, 21, 22, 23, 24] (by decide +kernel) (by decide +kernel)
set_option maxRecDepth 20000 in
theorem gX8_leftOf_X8_part : GoodIn wsX8_leftOf (wsV RX8 40 RX8 yX8_part wsX8_part) := goodIn_app (goodIn_of _ (by decide +kernel)) ggX8_leftOf_X8_part
theorem dX8_leftOf_0 : decode cX8_leftOf 0 = .ok (.aload_n 0, 1) := by decide +kernel
theorem dX8_leftOf_1 : decode cX8_leftOf 1 = .ok (.iload_n 1, 1) := by decide +kernel
theorem dX8_leftOf_2 : decode cX8_leftOf 2 = .ok (.iconst 4, 1) := by decide +kernel
theorem dX8_leftOf_3 : decode cX8_leftOf 3 = .ok (.invokevirtual 44, 3) := by decide +kernel
theorem dX8_leftOf_6 : decode cX8_leftOf 6 = .ok (.ifCond .ne 13, 3) := by decide +kernel
theorem dX8_leftOf_9 : decode cX8_leftOf 9 = .ok (.aload_n 0, 1) := by decide +kernel
theorem dX8_leftOf_10 : decode cX8_leftOf 10 = .ok (.iload_n 1, 1) := by decide +kernel
theorem dX8_leftOf_11 : decode cX8_leftOf 11 = .ok (.bipush 6, 2) := by decide +kernel
theorem dX8_leftOf_13 : decode cX8_leftOf 13 = .ok (.invokevirtual 44, 3) := by decide +kernel
theorem dX8_leftOf_16 : decode cX8_leftOf 16 = .ok (.ifCond .eq 7, 3) := by decide +kernel
theorem dX8_leftOf_19 : decode cX8_leftOf 19 = .ok (.iconst 0, 1) := by decide +kernel
theorem dX8_leftOf_20 : decode cX8_leftOf 20 = .ok (.goto 9, 3) := by decide +kernel
theorem dX8_leftOf_23 : decode cX8_leftOf 23 = .ok (.aload_n 0, 1) := by decide +kernel
theorem dX8_leftOf_24 : decode cX8_leftOf 24 = .ok (.iload_n 1, 1) := by decide +kernel
theorem dX8_leftOf_25 : decode cX8_leftOf 25 = .ok (.iconst 5, 1) := by decide +kernel
theorem dX8_leftOf_26 : decode cX8_leftOf 26 = .ok (.invokevirtual 40, 3) := by decide +kernel
theorem dX8_leftOf_29 : decode cX8_leftOf 29 = .ok (.ireturn, 1) := by decide +kernel
set_option maxRecDepth 20000 in
theorem ggX8_ofStand_X8_isStand : GoodIn wsX8_ofStand wsX8_isStand := goodIn_r _ [5, 6, 7, 8, 4, 9, 26, 27, 28, 29, 30, 31, 32, 33, 34, 35, 36, 37, 38, 39] (by decide +kernel) (by decide +kernel)
set_option maxRecDepth 20000 in
theorem gX8_ofStand_X8_isStand : GoodIn wsX8_ofStand (wsV RX8 101 RX8 yX8_isStand wsX8_isStand) := goodIn_app (goodIn_of _ (by decide +kernel)) ggX8_ofStand_X8_isStand
set_option maxRecDepth 20000 in
theorem ggX8_ofStand_X8_part : GoodIn wsX8_ofStand wsX8_part := goodIn_r _ [13, 6, 26, 27, 28, 29, 30, 31, 32, 33, 34, 35, 36, 37, 38, 39] (by decide +kernel) (by decide +kernel)
set_option maxRecDepth 20000 in
theorem gX8_ofStand_X8_part : GoodIn wsX8_ofStand (wsV RX8 40 RX8 yX8_part wsX8_part) := goodIn_app (goodIn_of _ (by decide +kernel)) ggX8_ofStand_X8_part
set_option maxRecDepth 20000 in
theorem ggX8_ofStand_X8_leftOf : GoodIn wsX8_ofStand wsX8_leftOf := goodIn_r _ [17, 18, 19, 20, 4, 21, 10, 11, 12, 13, 6, 26, 27, 28, 29, 30, 31, 32, 33, 34, 35, 36, 37, 38, 39] (by decide +kernel) (by decide +kernel)
set_option maxRecDepth 20000 in
theorem gX8_ofStand_X8_leftOf : GoodIn wsX8_ofStand (wsV RX8 126 RX8 yX8_leftOf wsX8_leftOf) := goodIn_app (goodIn_of _ (by decide +kernel)) ggX8_ofStand_X8_leftOf
set_option maxRecDepth 20000 in
theorem ggX8_ofStand_X8_standingOn : GoodIn wsX8_ofStand wsX8_standingOn := goodIn_r _ [25, 6, 10, 11, 12, 4, 13, 18, 19, 20, 21, 26, 27, 28, 29, 30, 31, 32, 33, 34, 35, 36, 37, 38, 39] (by decide +kernel) (by decide +kernel)
set_option maxRecDepth 20000 in
theorem gX8_ofStand_X8_standingOn : GoodIn wsX8_ofStand (wsV RX8 56 RX8 yX8_standingOn wsX8_standingOn) := goodIn_app (goodIn_of _ (by decide +kernel)) ggX8_ofStand_X8_standingOn
theorem dX8_ofStand_0 : decode cX8_ofStand 0 = .ok (.aload_n 0, 1) := by decide +kernel
theorem dX8_ofStand_1 : decode cX8_ofStand 1 = .ok (.iload_n 1, 1) := by decide +kernel
theorem dX8_ofStand_2 : decode cX8_ofStand 2 = .ok (.invokevirtual 101, 3) := by decide +kernel
theorem dX8_ofStand_5 : decode cX8_ofStand 5 = .ok (.ifCond .ne 5, 3) := by decide +kernel
theorem dX8_ofStand_8 : decode cX8_ofStand 8 = .ok (.iconst (-1), 1) := by decide +kernel
theorem dX8_ofStand_9 : decode cX8_ofStand 9 = .ok (.ireturn, 1) := by decide +kernel
theorem dX8_ofStand_10 : decode cX8_ofStand 10 = .ok (.iload_n 2, 1) := by decide +kernel
theorem dX8_ofStand_11 : decode cX8_ofStand 11 = .ok (.tableswitch 72 0 9 #[53, 53, 53, 53, 53, 60, 53, 53, 66, 53], 53) := by decide +kernel
theorem dX8_ofStand_64 : decode cX8_ofStand 64 = .ok (.aload_n 0, 1) := by decide +kernel
theorem dX8_ofStand_65 : decode cX8_ofStand 65 = .ok (.iload_n 1, 1) := by decide +kernel
theorem dX8_ofStand_66 : decode cX8_ofStand 66 = .ok (.iload_n 2, 1) := by decide +kernel
theorem dX8_ofStand_67 : decode cX8_ofStand 67 = .ok (.invokevirtual 40, 3) := by decide +kernel
theorem dX8_ofStand_70 : decode cX8_ofStand 70 = .ok (.ireturn, 1) := by decide +kernel
theorem dX8_ofStand_71 : decode cX8_ofStand 71 = .ok (.aload_n 0, 1) := by decide +kernel
theorem dX8_ofStand_72 : decode cX8_ofStand 72 = .ok (.iload_n 1, 1) := by decide +kernel
theorem dX8_ofStand_73 : decode cX8_ofStand 73 = .ok (.invokevirtual 126, 3) := by decide +kernel
theorem dX8_ofStand_76 : decode cX8_ofStand 76 = .ok (.ireturn, 1) := by decide +kernel
theorem dX8_ofStand_77 : decode cX8_ofStand 77 = .ok (.aload_n 0, 1) := by decide +kernel
theorem dX8_ofStand_78 : decode cX8_ofStand 78 = .ok (.iload_n 1, 1) := by decide +kernel
theorem dX8_ofStand_79 : decode cX8_ofStand 79 = .ok (.invokevirtual 56, 3) := by decide +kernel
theorem dX8_ofStand_82 : decode cX8_ofStand 82 = .ok (.ireturn, 1) := by decide +kernel
theorem dX8_ofStand_83 : decode cX8_ofStand 83 = .ok (.bipush (-2), 2) := by decide +kernel
theorem dX8_ofStand_85 : decode cX8_ofStand 85 = .ok (.ireturn, 1) := by decide +kernel
set_option maxRecDepth 20000 in
theorem ggX8_ofCrew_X8_isCrew : GoodIn wsX8_ofCrew wsX8_isCrew := goodIn_r _ [5, 6, 7, 8, 4, 9, 14, 15, 16, 17, 18, 19, 20, 21, 22, 23, 24, 25, 26, 27] (by decide +kernel) (by decide +kernel)
set_option maxRecDepth 20000 in
theorem gX8_ofCrew_X8_isCrew : GoodIn wsX8_ofCrew (wsV RX8 129 RX8 yX8_isCrew wsX8_isCrew) := goodIn_app (goodIn_of _ (by decide +kernel)) ggX8_ofCrew_X8_isCrew
set_option maxRecDepth 20000 in
theorem ggX8_ofCrew_X8_within : GoodIn wsX8_ofCrew wsX8_within := goodIn_r _ [9] (by decide +kernel) (by decide +kernel)
set_option maxRecDepth 20000 in
theorem gX8_ofCrew_X8_within : GoodIn wsX8_ofCrew (va_wsS RX8 36 yX8_within wsX8_within) := goodIn_app (goodIn_of _ (by decide +kernel)) ggX8_ofCrew_X8_within
set_option maxRecDepth 20000 in
theorem ggX8_ofCrew_X8_ofCrewPart : GoodIn wsX8_ofCrew wsX8_ofCrewPart := goodIn_r _ [13, 6, 14, 15, 16, 17, 18, 19, 20, 21, 22, 23, 24, 25, 26, 27] (by decide +kernel) (by decide +kernel)
set_option maxRecDepth 20000 in
theorem gX8_ofCrew_X8_ofCrewPart : GoodIn wsX8_ofCrew (wsV RX8 73 RX8 yX8_ofCrewPart wsX8_ofCrewPart) := goodIn_app (goodIn_of _ (by decide +kernel)) ggX8_ofCrew_X8_ofCrewPart
theorem dX8_ofCrew_0 : decode cX8_ofCrew 0 = .ok (.aload_n 0, 1) := by decide +kernel
theorem dX8_ofCrew_1 : decode cX8_ofCrew 1 = .ok (.iload_n 1, 1) := by decide +kernel
theorem dX8_ofCrew_2 : decode cX8_ofCrew 2 = .ok (.invokevirtual 129, 3) := by decide +kernel
theorem dX8_ofCrew_5 : decode cX8_ofCrew 5 = .ok (.ifCond .ne 5, 3) := by decide +kernel
theorem dX8_ofCrew_8 : decode cX8_ofCrew 8 = .ok (.iconst (-1), 1) := by decide +kernel
theorem dX8_ofCrew_9 : decode cX8_ofCrew 9 = .ok (.ireturn, 1) := by decide +kernel
theorem dX8_ofCrew_10 : decode cX8_ofCrew 10 = .ok (.iload_n 2, 1) := by decide +kernel
theorem dX8_ofCrew_11 : decode cX8_ofCrew 11 = .ok (.iconst 0, 1) := by decide +kernel
theorem dX8_ofCrew_12 : decode cX8_ofCrew 12 = .ok (.bipush 6, 2) := by decide +kernel
theorem dX8_ofCrew_14 : decode cX8_ofCrew 14 = .ok (.invokestatic 36, 3) := by decide +kernel
theorem dX8_ofCrew_17 : decode cX8_ofCrew 17 = .ok (.ifCond .eq 12, 3) := by decide +kernel
theorem dX8_ofCrew_20 : decode cX8_ofCrew 20 = .ok (.aload_n 0, 1) := by decide +kernel
theorem dX8_ofCrew_21 : decode cX8_ofCrew 21 = .ok (.iload_n 1, 1) := by decide +kernel
theorem dX8_ofCrew_22 : decode cX8_ofCrew 22 = .ok (.iload_n 2, 1) := by decide +kernel
theorem dX8_ofCrew_23 : decode cX8_ofCrew 23 = .ok (.invokevirtual 73, 3) := by decide +kernel
theorem dX8_ofCrew_26 : decode cX8_ofCrew 26 = .ok (.goto 5, 3) := by decide +kernel
theorem dX8_ofCrew_29 : decode cX8_ofCrew 29 = .ok (.bipush (-2), 2) := by decide +kernel
theorem dX8_ofCrew_31 : decode cX8_ofCrew 31 = .ok (.ireturn, 1) := by decide +kernel
set_option maxRecDepth 20000 in
theorem ggX8_load_X8_within : GoodIn wsX8_load wsX8_within := goodIn_r _ [4] (by decide +kernel) (by decide +kernel)
set_option maxRecDepth 20000 in
theorem gX8_load_X8_within : GoodIn wsX8_load (va_wsS RX8 36 yX8_within wsX8_within) := goodIn_app (goodIn_of _ (by decide +kernel)) ggX8_load_X8_within
set_option maxRecDepth 20000 in
theorem ggX8_load_X8_loadOf : GoodIn wsX8_load wsX8_loadOf := goodIn_r _ [8, 9, 10, 11, 12, 3, 13, 14, 15, 16, 17, 18, 19, 20, 21, 22, 23, 24, 25, 26, 27] (by decide +kernel) (by decide +kernel)
set_option maxRecDepth 20000 in
theorem gX8_load_X8_loadOf : GoodIn wsX8_load (wsV RX8 67 RX8 yX8_loadOf wsX8_loadOf) := goodIn_app (goodIn_of _ (by decide +kernel)) ggX8_load_X8_loadOf
theorem dX8_load_0 : decode cX8_load 0 = .ok (.iload_n 1, 1) := by decide +kernel
theorem dX8_load_1 : decode cX8_load 1 = .ok (.iconst 0, 1) := by decide +kernel
theorem dX8_load_2 : decode cX8_load 2 = .ok (.iconst 2, 1) := by decide +kernel
theorem dX8_load_3 : decode cX8_load 3 = .ok (.invokestatic 36, 3) := by decide +kernel
theorem dX8_load_6 : decode cX8_load 6 = .ok (.ifCond .eq 11, 3) := by decide +kernel
theorem dX8_load_9 : decode cX8_load 9 = .ok (.aload_n 0, 1) := by decide +kernel
theorem dX8_load_10 : decode cX8_load 10 = .ok (.iload_n 1, 1) := by decide +kernel
theorem dX8_load_11 : decode cX8_load 11 = .ok (.invokevirtual 67, 3) := by decide +kernel
theorem dX8_load_14 : decode cX8_load 14 = .ok (.goto 4, 3) := by decide +kernel
theorem dX8_load_17 : decode cX8_load 17 = .ok (.iconst (-1), 1) := by decide +kernel
theorem dX8_load_18 : decode cX8_load 18 = .ok (.ireturn, 1) := by decide +kernel
set_option maxRecDepth 20000 in
theorem ggX8_allCosts_X8_ofCrewPart : GoodIn wsX8_allCosts wsX8_ofCrewPart := goodIn_r _ [6, 1, 7, 8, 9, 10, 11, 12, 13, 14, 15, 16, 17, 18, 19, 20] (by decide +kernel) (by decide +kernel)
set_option maxRecDepth 20000 in
theorem gX8_allCosts_X8_ofCrewPart : GoodIn wsX8_allCosts (wsV RX8 73 RX8 yX8_ofCrewPart wsX8_ofCrewPart) := goodIn_app (goodIn_of _ (by decide +kernel)) ggX8_allCosts_X8_ofCrewPart
theorem dX8_allCosts_0 : decode cX8_allCosts 0 = .ok (.iconst 0, 1) := by decide +kernel
theorem dX8_allCosts_1 : decode cX8_allCosts 1 = .ok (.istore_n 1, 1) := by decide +kernel
theorem dX8_allCosts_2 : decode cX8_allCosts 2 = .ok (.iconst 0, 1) := by decide +kernel
theorem dX8_allCosts_3 : decode cX8_allCosts 3 = .ok (.istore_n 2, 1) := by decide +kernel
theorem dX8_allCosts_4 : decode cX8_allCosts 4 = .ok (.iload_n 2, 1) := by decide +kernel
theorem dX8_allCosts_5 : decode cX8_allCosts 5 = .ok (.aload_n 0, 1) := by decide +kernel
theorem dX8_allCosts_6 : decode cX8_allCosts 6 = .ok (.getfield 7, 3) := by decide +kernel
theorem dX8_allCosts_9 : decode cX8_allCosts 9 = .ok (.iconst 5, 1) := by decide +kernel
theorem dX8_allCosts_10 : decode cX8_allCosts 10 = .ok (.iaload, 1) := by decide +kernel
theorem dX8_allCosts_11 : decode cX8_allCosts 11 = .ok (.if_icmp .ge 18, 3) := by decide +kernel
theorem dX8_allCosts_14 : decode cX8_allCosts 14 = .ok (.iload_n 1, 1) := by decide +kernel
theorem dX8_allCosts_15 : decode cX8_allCosts 15 = .ok (.aload_n 0, 1) := by decide +kernel
theorem dX8_allCosts_16 : decode cX8_allCosts 16 = .ok (.iload_n 2, 1) := by decide +kernel
theorem dX8_allCosts_17 : decode cX8_allCosts 17 = .ok (.iconst 4, 1) := by decide +kernel
theorem dX8_allCosts_18 : decode cX8_allCosts 18 = .ok (.invokevirtual 73, 3) := by decide +kernel
theorem dX8_allCosts_21 : decode cX8_allCosts 21 = .ok (.iadd, 1) := by decide +kernel
theorem dX8_allCosts_22 : decode cX8_allCosts 22 = .ok (.istore_n 1, 1) := by decide +kernel
theorem dX8_allCosts_23 : decode cX8_allCosts 23 = .ok (.iinc 2 1, 3) := by decide +kernel
theorem dX8_allCosts_26 : decode cX8_allCosts 26 = .ok (.goto (-22), 3) := by decide +kernel
theorem dX8_allCosts_29 : decode cX8_allCosts 29 = .ok (.iload_n 1, 1) := by decide +kernel
theorem dX8_allCosts_30 : decode cX8_allCosts 30 = .ok (.ireturn, 1) := by decide +kernel
set_option maxRecDepth 20000 in
theorem ggX8_withoutPower_X8_isHow : GoodIn wsX8_withoutPower wsX8_isHow := goodIn_r _ [6, 7, 8, 9, 5, 10, 1, 11, 12, 13, 14, 15, 16, 17, 18, 19, 20, 21, 22, 23, 24] (by decide +kernel) (by decide +kernel)
set_option maxRecDepth 20000 in
theorem gX8_withoutPower_X8_isHow : GoodIn wsX8_withoutPower (wsV RX8 44 RX8 yX8_isHow wsX8_isHow) := goodIn_app (goodIn_of _ (by decide +kernel)) ggX8_withoutPower_X8_isHow
set_option maxRecDepth 20000 in
theorem ggX8_withoutPower_X8_part : GoodIn wsX8_withoutPower wsX8_part := goodIn_r _ [10, 1, 11, 12, 13, 14, 15, 16, 17, 18, 19, 20, 21, 22, 23, 24] (by decide +kernel) (by decide +kernel)
set_option maxRecDepth 20000 in
theorem gX8_withoutPower_X8_part : GoodIn wsX8_withoutPower (wsV RX8 40 RX8 yX8_part wsX8_part) := goodIn_app (goodIn_of _ (by decide +kernel)) ggX8_withoutPower_X8_part
theorem dX8_withoutPower_0 : decode cX8_withoutPower 0 = .ok (.iconst 0, 1) := by decide +kernel
theorem dX8_withoutPower_1 : decode cX8_withoutPower 1 = .ok (.istore_n 1, 1) := by decide +kernel
theorem dX8_withoutPower_2 : decode cX8_withoutPower 2 = .ok (.iconst 0, 1) := by decide +kernel
theorem dX8_withoutPower_3 : decode cX8_withoutPower 3 = .ok (.istore_n 2, 1) := by decide +kernel
theorem dX8_withoutPower_4 : decode cX8_withoutPower 4 = .ok (.iload_n 2, 1) := by decide +kernel
theorem dX8_withoutPower_5 : decode cX8_withoutPower 5 = .ok (.aload_n 0, 1) := by decide +kernel
theorem dX8_withoutPower_6 : decode cX8_withoutPower 6 = .ok (.getfield 7, 3) := by decide +kernel
theorem dX8_withoutPower_9 : decode cX8_withoutPower 9 = .ok (.iconst 4, 1) := by decide +kernel
theorem dX8_withoutPower_10 : decode cX8_withoutPower 10 = .ok (.iaload, 1) := by decide +kernel
theorem dX8_withoutPower_11 : decode cX8_withoutPower 11 = .ok (.if_icmp .ge 47, 3) := by decide +kernel
theorem dX8_withoutPower_14 : decode cX8_withoutPower 14 = .ok (.iload_n 1, 1) := by decide +kernel
theorem dX8_withoutPower_15 : decode cX8_withoutPower 15 = .ok (.aload_n 0, 1) := by decide +kernel
theorem dX8_withoutPower_16 : decode cX8_withoutPower 16 = .ok (.iload_n 2, 1) := by decide +kernel
theorem dX8_withoutPower_17 : decode cX8_withoutPower 17 = .ok (.iconst 4, 1) := by decide +kernel
theorem dX8_withoutPower_18 : decode cX8_withoutPower 18 = .ok (.invokevirtual 44, 3) := by decide +kernel
theorem dX8_withoutPower_21 : decode cX8_withoutPower 21 = .ok (.ifCond .eq 28, 3) := by decide +kernel
theorem dX8_withoutPower_24 : decode cX8_withoutPower 24 = .ok (.aload_n 0, 1) := by decide +kernel
theorem dX8_withoutPower_25 : decode cX8_withoutPower 25 = .ok (.iload_n 2, 1) := by decide +kernel
theorem dX8_withoutPower_26 : decode cX8_withoutPower 26 = .ok (.bipush 6, 2) := by decide +kernel
theorem dX8_withoutPower_28 : decode cX8_withoutPower 28 = .ok (.invokevirtual 40, 3) := by decide +kernel
theorem dX8_withoutPower_31 : decode cX8_withoutPower 31 = .ok (.bipush (-6), 2) := by decide +kernel
theorem dX8_withoutPower_33 : decode cX8_withoutPower 33 = .ok (.if_icmp .ne 16, 3) := by decide +kernel
theorem dX8_withoutPower_36 : decode cX8_withoutPower 36 = .ok (.aload_n 0, 1) := by decide +kernel
theorem dX8_withoutPower_37 : decode cX8_withoutPower 37 = .ok (.iload_n 2, 1) := by decide +kernel
theorem dX8_withoutPower_38 : decode cX8_withoutPower 38 = .ok (.iconst 2, 1) := by decide +kernel
theorem dX8_withoutPower_39 : decode cX8_withoutPower 39 = .ok (.invokevirtual 40, 3) := by decide +kernel
theorem dX8_withoutPower_42 : decode cX8_withoutPower 42 = .ok (.ifCond .le 7, 3) := by decide +kernel
theorem dX8_withoutPower_45 : decode cX8_withoutPower 45 = .ok (.iconst 1, 1) := by decide +kernel
theorem dX8_withoutPower_46 : decode cX8_withoutPower 46 = .ok (.goto 4, 3) := by decide +kernel
theorem dX8_withoutPower_49 : decode cX8_withoutPower 49 = .ok (.iconst 0, 1) := by decide +kernel
theorem dX8_withoutPower_50 : decode cX8_withoutPower 50 = .ok (.iadd, 1) := by decide +kernel
theorem dX8_withoutPower_51 : decode cX8_withoutPower 51 = .ok (.istore_n 1, 1) := by decide +kernel
theorem dX8_withoutPower_52 : decode cX8_withoutPower 52 = .ok (.iinc 2 1, 3) := by decide +kernel
theorem dX8_withoutPower_55 : decode cX8_withoutPower 55 = .ok (.goto (-51), 3) := by decide +kernel
theorem dX8_withoutPower_58 : decode cX8_withoutPower 58 = .ok (.iload_n 1, 1) := by decide +kernel
theorem dX8_withoutPower_59 : decode cX8_withoutPower 59 = .ok (.ireturn, 1) := by decide +kernel
set_option maxRecDepth 20000 in
theorem ggX8_count_X8_withHow : GoodIn wsX8_count wsX8_withHow := goodIn_r _ [8, 1, 9, 10, 11, 7, 12, 13, 14, 15, 16, 33, 34, 35, 36, 37, 38, 39, 40, 41, 42, 43, 44, 45, 46] (by decide +kernel) (by decide +kernel)
set_option maxRecDepth 20000 in
theorem gX8_count_X8_withHow : GoodIn wsX8_count (wsV RX8 132 RX8 yX8_withHow wsX8_withHow) := goodIn_app (goodIn_of _ (by decide +kernel)) ggX8_count_X8_withHow
set_option maxRecDepth 20000 in
theorem ggX8_count_X8_meters : GoodIn wsX8_count wsX8_meters := goodIn_r _ [20, 1, 9, 10, 11, 7, 12, 13, 14, 15, 16, 33, 34, 35, 36, 37, 38, 39, 40, 41, 42, 43, 44, 45, 46] (by decide +kernel) (by decide +kernel)
set_option maxRecDepth 20000 in
theorem gX8_count_X8_meters : GoodIn wsX8_count (wsV RX8 52 RX8 yX8_meters wsX8_meters) := goodIn_app (goodIn_of _ (by decide +kernel)) ggX8_count_X8_meters
set_option maxRecDepth 20000 in
theorem ggX8_count_X8_allCosts : GoodIn wsX8_count wsX8_allCosts := goodIn_r _ [24, 1, 25, 26, 27, 7, 28, 33, 34, 35, 36, 37, 38, 39, 40, 41, 42, 43, 44, 45, 46] (by decide +kernel) (by decide +kernel)
set_option maxRecDepth 20000 in
theorem gX8_count_X8_allCosts : GoodIn wsX8_count (wsV RX8 135 RX8 yX8_allCosts wsX8_allCosts) := goodIn_app (goodIn_of _ (by decide +kernel)) ggX8_count_X8_allCosts
set_option maxRecDepth 20000 in
theorem ggX8_count_X8_withoutPower : GoodIn wsX8_count wsX8_withoutPower := goodIn_r _ [32, 1, 9, 10, 11, 7, 12, 13, 14, 15, 16, 33, 34, 35, 36, 37, 38, 39, 40, 41, 42, 43, 44, 45, 46] (by decide +kernel) (by decide +kernel)
set_option maxRecDepth 20000 in
theorem gX8_count_X8_withoutPower : GoodIn wsX8_count (wsV RX8 138 RX8 yX8_withoutPower wsX8_withoutPower) := goodIn_app (goodIn_of _ (by decide +kernel)) ggX8_count_X8_withoutPower
theorem dX8_count_0 : decode cX8_count 0 = .ok (.iload_n 1, 1) := by decide +kernel
theorem dX8_count_1 : decode cX8_count 1 = .ok (.tableswitch 175 0 19 #[95, 102, 109, 116, 116, 116, 116, 116, 116, 116, 124, 129, 137, 145, 150, 155, 155, 155, 165, 170], 95) := by decide +kernel
theorem dX8_count_96 : decode cX8_count 96 = .ok (.aload_n 0, 1) := by decide +kernel
theorem dX8_count_97 : decode cX8_count 97 = .ok (.getfield 7, 3) := by decide +kernel
theorem dX8_count_100 : decode cX8_count 100 = .ok (.iconst 3, 1) := by decide +kernel
theorem dX8_count_101 : decode cX8_count 101 = .ok (.iaload, 1) := by decide +kernel
theorem dX8_count_102 : decode cX8_count 102 = .ok (.ireturn, 1) := by decide +kernel
theorem dX8_count_103 : decode cX8_count 103 = .ok (.aload_n 0, 1) := by decide +kernel
theorem dX8_count_104 : decode cX8_count 104 = .ok (.getfield 7, 3) := by decide +kernel
theorem dX8_count_107 : decode cX8_count 107 = .ok (.iconst 4, 1) := by decide +kernel
theorem dX8_count_108 : decode cX8_count 108 = .ok (.iaload, 1) := by decide +kernel
theorem dX8_count_109 : decode cX8_count 109 = .ok (.ireturn, 1) := by decide +kernel
theorem dX8_count_110 : decode cX8_count 110 = .ok (.aload_n 0, 1) := by decide +kernel
theorem dX8_count_111 : decode cX8_count 111 = .ok (.getfield 7, 3) := by decide +kernel
theorem dX8_count_114 : decode cX8_count 114 = .ok (.iconst 5, 1) := by decide +kernel
theorem dX8_count_115 : decode cX8_count 115 = .ok (.iaload, 1) := by decide +kernel
theorem dX8_count_116 : decode cX8_count 116 = .ok (.ireturn, 1) := by decide +kernel
theorem dX8_count_117 : decode cX8_count 117 = .ok (.aload_n 0, 1) := by decide +kernel
theorem dX8_count_118 : decode cX8_count 118 = .ok (.iload_n 1, 1) := by decide +kernel
theorem dX8_count_119 : decode cX8_count 119 = .ok (.iconst 3, 1) := by decide +kernel
theorem dX8_count_120 : decode cX8_count 120 = .ok (.isub, 1) := by decide +kernel
theorem dX8_count_121 : decode cX8_count 121 = .ok (.invokevirtual 132, 3) := by decide +kernel
theorem dX8_count_124 : decode cX8_count 124 = .ok (.ireturn, 1) := by decide +kernel
theorem dX8_count_125 : decode cX8_count 125 = .ok (.aload_n 0, 1) := by decide +kernel
theorem dX8_count_126 : decode cX8_count 126 = .ok (.invokevirtual 52, 3) := by decide +kernel
theorem dX8_count_129 : decode cX8_count 129 = .ok (.ireturn, 1) := by decide +kernel
theorem dX8_count_130 : decode cX8_count 130 = .ok (.aload_n 0, 1) := by decide +kernel
theorem dX8_count_131 : decode cX8_count 131 = .ok (.getfield 7, 3) := by decide +kernel
theorem dX8_count_134 : decode cX8_count 134 = .ok (.bipush 6, 2) := by decide +kernel
theorem dX8_count_136 : decode cX8_count 136 = .ok (.iaload, 1) := by decide +kernel
theorem dX8_count_137 : decode cX8_count 137 = .ok (.ireturn, 1) := by decide +kernel
theorem dX8_count_138 : decode cX8_count 138 = .ok (.aload_n 0, 1) := by decide +kernel
theorem dX8_count_139 : decode cX8_count 139 = .ok (.getfield 7, 3) := by decide +kernel
theorem dX8_count_142 : decode cX8_count 142 = .ok (.bipush 7, 2) := by decide +kernel
theorem dX8_count_144 : decode cX8_count 144 = .ok (.iaload, 1) := by decide +kernel
theorem dX8_count_145 : decode cX8_count 145 = .ok (.ireturn, 1) := by decide +kernel
theorem dX8_count_146 : decode cX8_count 146 = .ok (.aload_n 0, 1) := by decide +kernel
theorem dX8_count_147 : decode cX8_count 147 = .ok (.invokevirtual 135, 3) := by decide +kernel
theorem dX8_count_150 : decode cX8_count 150 = .ok (.ireturn, 1) := by decide +kernel
theorem dX8_count_151 : decode cX8_count 151 = .ok (.aload_n 0, 1) := by decide +kernel
theorem dX8_count_152 : decode cX8_count 152 = .ok (.invokevirtual 138, 3) := by decide +kernel
theorem dX8_count_155 : decode cX8_count 155 = .ok (.ireturn, 1) := by decide +kernel
theorem dX8_count_156 : decode cX8_count 156 = .ok (.aload_n 0, 1) := by decide +kernel
theorem dX8_count_157 : decode cX8_count 157 = .ok (.getfield 7, 3) := by decide +kernel
theorem dX8_count_160 : decode cX8_count 160 = .ok (.iload_n 1, 1) := by decide +kernel
theorem dX8_count_161 : decode cX8_count 161 = .ok (.bipush 15, 2) := by decide +kernel
theorem dX8_count_163 : decode cX8_count 163 = .ok (.isub, 1) := by decide +kernel
theorem dX8_count_164 : decode cX8_count 164 = .ok (.iaload, 1) := by decide +kernel
theorem dX8_count_165 : decode cX8_count 165 = .ok (.ireturn, 1) := by decide +kernel
theorem dX8_count_166 : decode cX8_count 166 = .ok (.aload_n 0, 1) := by decide +kernel
theorem dX8_count_167 : decode cX8_count 167 = .ok (.getfield 141, 3) := by decide +kernel
theorem dX8_count_170 : decode cX8_count 170 = .ok (.ireturn, 1) := by decide +kernel
theorem dX8_count_171 : decode cX8_count 171 = .ok (.aload_n 0, 1) := by decide +kernel
theorem dX8_count_172 : decode cX8_count 172 = .ok (.getfield 28, 3) := by decide +kernel
theorem dX8_count_175 : decode cX8_count 175 = .ok (.ireturn, 1) := by decide +kernel
theorem dX8_count_176 : decode cX8_count 176 = .ok (.bipush (-2), 2) := by decide +kernel
theorem dX8_count_178 : decode cX8_count 178 = .ok (.ireturn, 1) := by decide +kernel
set_option maxRecDepth 20000 in
theorem ggX8_waitsFor_X8_isStand : GoodIn wsX8_waitsFor wsX8_isStand := goodIn_r _ [6, 1, 7, 8, 5, 9, 26, 27, 28, 29, 30, 31, 32, 33, 34, 35, 36, 37, 38, 39] (by decide +kernel) (by decide +kernel)
set_option maxRecDepth 20000 in
theorem gX8_waitsFor_X8_isStand : GoodIn wsX8_waitsFor (wsV RX8 101 RX8 yX8_isStand wsX8_isStand) := goodIn_app (goodIn_of _ (by decide +kernel)) ggX8_waitsFor_X8_isStand
set_option maxRecDepth 20000 in
theorem ggX8_waitsFor_X8_part : GoodIn wsX8_waitsFor wsX8_part := goodIn_r _ [13, 1, 26, 27, 28, 29, 30, 31, 32, 33, 34, 35, 36, 37, 38, 39] (by decide +kernel) (by decide +kernel)
set_option maxRecDepth 20000 in
theorem gX8_waitsFor_X8_part : GoodIn wsX8_waitsFor (wsV RX8 40 RX8 yX8_part wsX8_part) := goodIn_app (goodIn_of _ (by decide +kernel)) ggX8_waitsFor_X8_part
set_option maxRecDepth 20000 in
theorem ggX8_waitsFor_X8_hasBase : GoodIn wsX8_waitsFor wsX8_hasBase := goodIn_r _ [17, 10, 11, 12, 5, 13, 1, 18, 19, 20, 21, 26, 27, 28, 29, 30, 31, 32, 33, 34, 35, 36, 37, 38, 39] (by decide +kernel) (by decide +kernel)
set_option maxRecDepth 20000 in
theorem gX8_waitsFor_X8_hasBase : GoodIn wsX8_waitsFor (wsV RX8 60 RX8 yX8_hasBase wsX8_hasBase) := goodIn_app (goodIn_of _ (by decide +kernel)) ggX8_waitsFor_X8_hasBase
set_option maxRecDepth 20000 in
theorem ggX8_waitsFor_X8_standingOn : GoodIn wsX8_waitsFor wsX8_standingOn := goodIn_r _ [25, 1, 10, 11, 12, 5, 13, 18, 19, 20, 21, 26, 27, 28, 29, 30, 31, 32, 33, 34, 35, 36, 37, 38, 39] (by decide +kernel) (by decide +kernel)
set_option maxRecDepth 20000 in
theorem gX8_waitsFor_X8_standingOn : GoodIn wsX8_waitsFor (wsV RX8 56 RX8 yX8_standingOn wsX8_standingOn) := goodIn_app (goodIn_of _ (by decide +kernel)) ggX8_waitsFor_X8_standingOn
theorem dX8_waitsFor_0 : decode cX8_waitsFor 0 = .ok (.aload_n 0, 1) := by decide +kernel
theorem dX8_waitsFor_1 : decode cX8_waitsFor 1 = .ok (.iload_n 1, 1) := by decide +kernel
theorem dX8_waitsFor_2 : decode cX8_waitsFor 2 = .ok (.invokevirtual 101, 3) := by decide +kernel
theorem dX8_waitsFor_5 : decode cX8_waitsFor 5 = .ok (.ifCond .ne 5, 3) := by decide +kernel
theorem dX8_waitsFor_8 : decode cX8_waitsFor 8 = .ok (.iconst (-1), 1) := by decide +kernel
theorem dX8_waitsFor_9 : decode cX8_waitsFor 9 = .ok (.ireturn, 1) := by decide +kernel
theorem dX8_waitsFor_10 : decode cX8_waitsFor 10 = .ok (.aload_n 0, 1) := by decide +kernel
theorem dX8_waitsFor_11 : decode cX8_waitsFor 11 = .ok (.iload_n 1, 1) := by decide +kernel
theorem dX8_waitsFor_12 : decode cX8_waitsFor 12 = .ok (.iconst 4, 1) := by decide +kernel
theorem dX8_waitsFor_13 : decode cX8_waitsFor 13 = .ok (.invokevirtual 40, 3) := by decide +kernel
theorem dX8_waitsFor_16 : decode cX8_waitsFor 16 = .ok (.tableswitch 82 0 4 #[36, 38, 40, 82, 54], 36) := by decide +kernel
theorem dX8_waitsFor_52 : decode cX8_waitsFor 52 = .ok (.iconst 1, 1) := by decide +kernel
theorem dX8_waitsFor_53 : decode cX8_waitsFor 53 = .ok (.ireturn, 1) := by decide +kernel
theorem dX8_waitsFor_54 : decode cX8_waitsFor 54 = .ok (.iconst 2, 1) := by decide +kernel
theorem dX8_waitsFor_55 : decode cX8_waitsFor 55 = .ok (.ireturn, 1) := by decide +kernel
theorem dX8_waitsFor_56 : decode cX8_waitsFor 56 = .ok (.aload_n 0, 1) := by decide +kernel
theorem dX8_waitsFor_57 : decode cX8_waitsFor 57 = .ok (.iload_n 1, 1) := by decide +kernel
theorem dX8_waitsFor_58 : decode cX8_waitsFor 58 = .ok (.invokevirtual 60, 3) := by decide +kernel
theorem dX8_waitsFor_61 : decode cX8_waitsFor 61 = .ok (.ifCond .eq 7, 3) := by decide +kernel
theorem dX8_waitsFor_64 : decode cX8_waitsFor 64 = .ok (.iconst 4, 1) := by decide +kernel
theorem dX8_waitsFor_65 : decode cX8_waitsFor 65 = .ok (.goto 4, 3) := by decide +kernel
theorem dX8_waitsFor_68 : decode cX8_waitsFor 68 = .ok (.iconst 3, 1) := by decide +kernel
theorem dX8_waitsFor_69 : decode cX8_waitsFor 69 = .ok (.ireturn, 1) := by decide +kernel
theorem dX8_waitsFor_70 : decode cX8_waitsFor 70 = .ok (.aload_n 0, 1) := by decide +kernel
theorem dX8_waitsFor_71 : decode cX8_waitsFor 71 = .ok (.getfield 7, 3) := by decide +kernel
theorem dX8_waitsFor_74 : decode cX8_waitsFor 74 = .ok (.bipush 6, 2) := by decide +kernel
theorem dX8_waitsFor_76 : decode cX8_waitsFor 76 = .ok (.iaload, 1) := by decide +kernel
theorem dX8_waitsFor_77 : decode cX8_waitsFor 77 = .ok (.ifCond .ne 7, 3) := by decide +kernel
theorem dX8_waitsFor_80 : decode cX8_waitsFor 80 = .ok (.iconst 0, 1) := by decide +kernel
theorem dX8_waitsFor_81 : decode cX8_waitsFor 81 = .ok (.goto 16, 3) := by decide +kernel
theorem dX8_waitsFor_84 : decode cX8_waitsFor 84 = .ok (.aload_n 0, 1) := by decide +kernel
theorem dX8_waitsFor_85 : decode cX8_waitsFor 85 = .ok (.iload_n 1, 1) := by decide +kernel
theorem dX8_waitsFor_86 : decode cX8_waitsFor 86 = .ok (.invokevirtual 56, 3) := by decide +kernel
theorem dX8_waitsFor_89 : decode cX8_waitsFor 89 = .ok (.ifCond .ne 7, 3) := by decide +kernel
theorem dX8_waitsFor_92 : decode cX8_waitsFor 92 = .ok (.iconst 4, 1) := by decide +kernel
theorem dX8_waitsFor_93 : decode cX8_waitsFor 93 = .ok (.goto 4, 3) := by decide +kernel
theorem dX8_waitsFor_96 : decode cX8_waitsFor 96 = .ok (.iconst 5, 1) := by decide +kernel
theorem dX8_waitsFor_97 : decode cX8_waitsFor 97 = .ok (.ireturn, 1) := by decide +kernel
theorem dX8_waitsFor_98 : decode cX8_waitsFor 98 = .ok (.iconst 0, 1) := by decide +kernel
theorem dX8_waitsFor_99 : decode cX8_waitsFor 99 = .ok (.ireturn, 1) := by decide +kernel
set_option maxRecDepth 20000 in
theorem ggX8_isAllDone_X8_withHow : GoodIn wsX8_isAllDone wsX8_withHow := goodIn_r _ [6, 1, 7, 8, 9, 5, 10, 11, 12, 13, 14, 15, 16, 17, 18, 19, 20, 21, 22, 23, 24, 25, 26, 27, 28] (by decide +kernel) (by decide +kernel)
set_option maxRecDepth 20000 in
theorem gX8_isAllDone_X8_withHow : GoodIn wsX8_isAllDone (wsV RX8 132 RX8 yX8_withHow wsX8_withHow) := goodIn_app (goodIn_of _ (by decide +kernel)) ggX8_isAllDone_X8_withHow
theorem dX8_isAllDone_0 : decode cX8_isAllDone 0 = .ok (.aload_n 0, 1) := by decide +kernel
theorem dX8_isAllDone_1 : decode cX8_isAllDone 1 = .ok (.bipush 6, 2) := by decide +kernel
theorem dX8_isAllDone_3 : decode cX8_isAllDone 3 = .ok (.invokevirtual 132, 3) := by decide +kernel
theorem dX8_isAllDone_6 : decode cX8_isAllDone 6 = .ok (.aload_n 0, 1) := by decide +kernel
theorem dX8_isAllDone_7 : decode cX8_isAllDone 7 = .ok (.getfield 7, 3) := by decide +kernel
theorem dX8_isAllDone_10 : decode cX8_isAllDone 10 = .ok (.bipush 6, 2) := by decide +kernel
theorem dX8_isAllDone_12 : decode cX8_isAllDone 12 = .ok (.iaload, 1) := by decide +kernel
theorem dX8_isAllDone_13 : decode cX8_isAllDone 13 = .ok (.iconst 1, 1) := by decide +kernel
theorem dX8_isAllDone_14 : decode cX8_isAllDone 14 = .ok (.if_icmp .ne 7, 3) := by decide +kernel
theorem dX8_isAllDone_17 : decode cX8_isAllDone 17 = .ok (.iconst 0, 1) := by decide +kernel
theorem dX8_isAllDone_18 : decode cX8_isAllDone 18 = .ok (.goto 8, 3) := by decide +kernel
theorem dX8_isAllDone_21 : decode cX8_isAllDone 21 = .ok (.aload_n 0, 1) := by decide +kernel
theorem dX8_isAllDone_22 : decode cX8_isAllDone 22 = .ok (.iconst 4, 1) := by decide +kernel
theorem dX8_isAllDone_23 : decode cX8_isAllDone 23 = .ok (.invokevirtual 132, 3) := by decide +kernel
theorem dX8_isAllDone_26 : decode cX8_isAllDone 26 = .ok (.iadd, 1) := by decide +kernel
theorem dX8_isAllDone_27 : decode cX8_isAllDone 27 = .ok (.aload_n 0, 1) := by decide +kernel
theorem dX8_isAllDone_28 : decode cX8_isAllDone 28 = .ok (.getfield 7, 3) := by decide +kernel
theorem dX8_isAllDone_31 : decode cX8_isAllDone 31 = .ok (.iconst 4, 1) := by decide +kernel
theorem dX8_isAllDone_32 : decode cX8_isAllDone 32 = .ok (.iaload, 1) := by decide +kernel
theorem dX8_isAllDone_33 : decode cX8_isAllDone 33 = .ok (.if_icmp .ne 7, 3) := by decide +kernel
theorem dX8_isAllDone_36 : decode cX8_isAllDone 36 = .ok (.iconst 1, 1) := by decide +kernel
theorem dX8_isAllDone_37 : decode cX8_isAllDone 37 = .ok (.goto 4, 3) := by decide +kernel
theorem dX8_isAllDone_40 : decode cX8_isAllDone 40 = .ok (.iconst 0, 1) := by decide +kernel
theorem dX8_isAllDone_41 : decode cX8_isAllDone 41 = .ok (.ireturn, 1) := by decide +kernel
set_option maxRecDepth 20000 in
theorem ggX8_goesOn_X8_isAllDone : GoodIn wsX8_goesOn wsX8_isAllDone := goodIn_r _ [7, 2, 8, 9, 10, 6, 11, 12, 13, 14, 15, 16, 17, 18, 19, 79, 80, 81, 82, 83, 84, 85, 86, 87, 88, 89, 90, 91, 92] (by decide +kernel) (by decide +kernel)
set_option maxRecDepth 20000 in
theorem gX8_goesOn_X8_isAllDone : GoodIn wsX8_goesOn (wsV RX8 144 RX8 yX8_isAllDone wsX8_isAllDone) := goodIn_app (goodIn_of _ (by decide +kernel)) ggX8_goesOn_X8_isAllDone
set_option maxRecDepth 20000 in
theorem ggX8_goesOn_X8_passesOne : GoodIn wsX8_goesOn wsX8_passesOne := goodIn_r _ [23, 2, 24, 25, 26, 6, 27, 12, 13, 14, 15, 16, 17, 18, 19, 28, 29, 30, 31, 32, 33, 34, 35, 36, 37, 38, 39, 40, 41, 42, 43, 44, 45, 46, 47, 48, 49, 50, 51, 52, 53, 54, 55, 56, 57, 58, 59, 60, 61, 62, 63, 64, 65, 66, 67, 68, 69, 70, 71, 72, 73, 74, 75, 79, 80, 81, 82, 83, 84, 85, 86, 87, 88, 89, 90, 91, 92] (by decide +kernel) (by decide +kernel)
set_option maxRecDepth 20000 in
theorem gX8_goesOn_X8_passesOne : GoodIn wsX8_goesOn (wsV RX8 92 RX8 yX8_passesOne wsX8_passesOne) := goodIn_app (goodIn_of _ (by decide +kernel)) ggX8_goesOn_X8_passesOne
set_option maxRecDepth 20000 in
theorem ggX8_goesOn_X8_moves : GoodIn wsX8_goesOn wsX8_moves := goodIn_r _ [78] (by decide +kernel) (by decide +kernel)
set_option maxRecDepth 20000 in
theorem gX8_goesOn_X8_moves : GoodIn wsX8_goesOn (va_wsS RX8 32 yX8_moves wsX8_moves) := goodIn_app (goodIn_of _ (by decide +kernel)) ggX8_goesOn_X8_moves
theorem dX8_goesOn_0 : decode cX8_goesOn 0 = .ok (.iconst 0, 1) := by decide +kernel
theorem dX8_goesOn_1 : decode cX8_goesOn 1 = .ok (.istore_n 1, 1) := by decide +kernel
theorem dX8_goesOn_2 : decode cX8_goesOn 2 = .ok (.aload_n 0, 1) := by decide +kernel
theorem dX8_goesOn_3 : decode cX8_goesOn 3 = .ok (.invokevirtual 144, 3) := by decide +kernel
theorem dX8_goesOn_6 : decode cX8_goesOn 6 = .ok (.ifCond .ne 21, 3) := by decide +kernel
theorem dX8_goesOn_9 : decode cX8_goesOn 9 = .ok (.iload_n 1, 1) := by decide +kernel
theorem dX8_goesOn_10 : decode cX8_goesOn 10 = .ok (.sipush 1000, 3) := by decide +kernel
theorem dX8_goesOn_13 : decode cX8_goesOn 13 = .ok (.if_icmp .gt 14, 3) := by decide +kernel
theorem dX8_goesOn_16 : decode cX8_goesOn 16 = .ok (.aload_n 0, 1) := by decide +kernel
theorem dX8_goesOn_17 : decode cX8_goesOn 17 = .ok (.invokevirtual 92, 3) := by decide +kernel
theorem dX8_goesOn_20 : decode cX8_goesOn 20 = .ok (.pop, 1) := by decide +kernel
theorem dX8_goesOn_21 : decode cX8_goesOn 21 = .ok (.iinc 1 1, 3) := by decide +kernel
theorem dX8_goesOn_24 : decode cX8_goesOn 24 = .ok (.goto (-22), 3) := by decide +kernel
theorem dX8_goesOn_27 : decode cX8_goesOn 27 = .ok (.aload_n 0, 1) := by decide +kernel
theorem dX8_goesOn_28 : decode cX8_goesOn 28 = .ok (.getfield 13, 3) := by decide +kernel
theorem dX8_goesOn_31 : decode cX8_goesOn 31 = .ok (.iconst 0, 1) := by decide +kernel
theorem dX8_goesOn_32 : decode cX8_goesOn 32 = .ok (.aload_n 0, 1) := by decide +kernel
theorem dX8_goesOn_33 : decode cX8_goesOn 33 = .ok (.getfield 7, 3) := by decide +kernel
theorem dX8_goesOn_36 : decode cX8_goesOn 36 = .ok (.iconst 0, 1) := by decide +kernel
theorem dX8_goesOn_37 : decode cX8_goesOn 37 = .ok (.invokestatic 32, 3) := by decide +kernel
theorem dX8_goesOn_40 : decode cX8_goesOn 40 = .ok (.iload_n 1, 1) := by decide +kernel
theorem dX8_goesOn_41 : decode cX8_goesOn 41 = .ok (.sipush 1000, 3) := by decide +kernel
theorem dX8_goesOn_44 : decode cX8_goesOn 44 = .ok (.if_icmp .le 8, 3) := by decide +kernel
theorem dX8_goesOn_47 : decode cX8_goesOn 47 = .ok (.bipush (-6), 2) := by decide +kernel
theorem dX8_goesOn_49 : decode cX8_goesOn 49 = .ok (.goto 4, 3) := by decide +kernel
theorem dX8_goesOn_52 : decode cX8_goesOn 52 = .ok (.iload_n 1, 1) := by decide +kernel
theorem dX8_goesOn_53 : decode cX8_goesOn 53 = .ok (.ireturn, 1) := by decide +kernel
set_option maxRecDepth 20000 in
theorem ggX8_allIn_X8_moves : GoodIn wsX8_allIn wsX8_moves := goodIn_r _ [6] (by decide +kernel) (by decide +kernel)
set_option maxRecDepth 20000 in
theorem gX8_allIn_X8_moves : GoodIn wsX8_allIn (va_wsS RX8 32 yX8_moves wsX8_moves) := goodIn_app (goodIn_of _ (by decide +kernel)) ggX8_allIn_X8_moves
set_option maxRecDepth 20000 in
theorem ggX8_allIn_X8_goesOn : GoodIn wsX8_allIn wsX8_goesOn := goodIn_r _ [10, 2, 1, 11, 12, 13, 5, 14, 15, 16, 17, 18, 19, 20, 21, 22, 23, 24, 25, 26, 27, 28, 29, 30, 31, 32, 33, 34, 35, 36, 37, 38, 39, 40, 41, 42, 43, 44, 45, 46, 47, 48, 49, 50, 51, 52, 53, 54, 55, 56, 57, 58, 59, 60, 61, 62, 63, 64, 65, 66, 67, 68, 69, 70, 71, 72, 73, 74, 75, 76, 77, 78, 79, 80, 81, 82, 3, 4, 6, 83, 84, 85, 86, 87, 88, 89, 90, 91, 92, 93, 94, 95, 96] (by decide +kernel) (by decide +kernel)
set_option maxRecDepth 20000 in
theorem gX8_allIn_X8_goesOn : GoodIn wsX8_allIn (wsV RX8 148 RX8 yX8_goesOn wsX8_goesOn) := goodIn_app (goodIn_of _ (by decide +kernel)) ggX8_allIn_X8_goesOn
theorem dX8_allIn_0 : decode cX8_allIn 0 = .ok (.aload_n 0, 1) := by decide +kernel
theorem dX8_allIn_1 : decode cX8_allIn 1 = .ok (.getfield 7, 3) := by decide +kernel
theorem dX8_allIn_4 : decode cX8_allIn 4 = .ok (.iconst 0, 1) := by decide +kernel
theorem dX8_allIn_5 : decode cX8_allIn 5 = .ok (.aload_n 0, 1) := by decide +kernel
theorem dX8_allIn_6 : decode cX8_allIn 6 = .ok (.getfield 13, 3) := by decide +kernel
theorem dX8_allIn_9 : decode cX8_allIn 9 = .ok (.iconst 0, 1) := by decide +kernel
theorem dX8_allIn_10 : decode cX8_allIn 10 = .ok (.invokestatic 32, 3) := by decide +kernel
theorem dX8_allIn_13 : decode cX8_allIn 13 = .ok (.aload_n 0, 1) := by decide +kernel
theorem dX8_allIn_14 : decode cX8_allIn 14 = .ok (.invokevirtual 148, 3) := by decide +kernel
theorem dX8_allIn_17 : decode cX8_allIn 17 = .ok (.ireturn, 1) := by decide +kernel
set_option maxRecDepth 20000 in
theorem ggX8_withCrew_X8_whyNoCrew : GoodIn wsX8_withCrew wsX8_whyNoCrew := goodIn_r _ [7, 1, 8, 9, 6, 10, 94, 95, 96, 97, 98, 99, 100, 101, 102, 103, 104, 105, 106, 107] (by decide +kernel) (by decide +kernel)
set_option maxRecDepth 20000 in
theorem gX8_withCrew_X8_whyNoCrew : GoodIn wsX8_withCrew (wsV RX8 111 RX8 yX8_whyNoCrew wsX8_whyNoCrew) := goodIn_app (goodIn_of _ (by decide +kernel)) ggX8_withCrew_X8_whyNoCrew
set_option maxRecDepth 20000 in
theorem ggX8_withCrew_X8_moves : GoodIn wsX8_withCrew wsX8_moves := goodIn_r _ [13] (by decide +kernel) (by decide +kernel)
set_option maxRecDepth 20000 in
theorem gX8_withCrew_X8_moves : GoodIn wsX8_withCrew (va_wsS RX8 32 yX8_moves wsX8_moves) := goodIn_app (goodIn_of _ (by decide +kernel)) ggX8_withCrew_X8_moves
set_option maxRecDepth 20000 in
theorem ggX8_withCrew_X8_comesCrew : GoodIn wsX8_withCrew wsX8_comesCrew := goodIn_r _ [17, 1, 18, 19, 20, 6, 21, 94, 95, 96, 97, 98, 99, 100, 101, 102, 103, 104, 105, 106, 107] (by decide +kernel) (by decide +kernel)
set_option maxRecDepth 20000 in
theorem gX8_withCrew_X8_comesCrew : GoodIn wsX8_withCrew (wsV RX8 114 RX8 yX8_comesCrew wsX8_comesCrew) := goodIn_app (goodIn_of _ (by decide +kernel)) ggX8_withCrew_X8_comesCrew
set_option maxRecDepth 20000 in
theorem ggX8_withCrew_X8_goesOn : GoodIn wsX8_withCrew wsX8_goesOn := goodIn_r _ [25, 2, 1, 26, 27, 28, 6, 29, 30, 31, 32, 33, 34, 35, 36, 37, 38, 39, 40, 41, 42, 43, 44, 45, 46, 47, 48, 49, 50, 51, 52, 53, 54, 55, 56, 57, 58, 59, 60, 61, 62, 63, 64, 65, 66, 67, 68, 69, 70, 71, 72, 73, 74, 75, 76, 77, 18, 19, 20, 21, 78, 79, 80, 81, 82, 83, 84, 85, 86, 87, 88, 89, 90, 91, 92, 93, 11, 12, 13, 94, 95, 96, 97, 98, 99, 100, 101, 102, 103, 104, 105, 106, 107] (by decide +kernel) (by decide +kernel)
set_option maxRecDepth 20000 in
theorem gX8_withCrew_X8_goesOn : GoodIn wsX8_withCrew (wsV RX8 148 RX8 yX8_goesOn wsX8_goesOn) := goodIn_app (goodIn_of _ (by decide +kernel)) ggX8_withCrew_X8_goesOn
theorem dX8_withCrew_0 : decode cX8_withCrew 0 = .ok (.aload_n 0, 1) := by decide +kernel
theorem dX8_withCrew_1 : decode cX8_withCrew 1 = .ok (.iload_n 1, 1) := by decide +kernel
theorem dX8_withCrew_2 : decode cX8_withCrew 2 = .ok (.iconst 0, 1) := by decide +kernel
theorem dX8_withCrew_3 : decode cX8_withCrew 3 = .ok (.invokevirtual 111, 3) := by decide +kernel
theorem dX8_withCrew_6 : decode cX8_withCrew 6 = .ok (.istore_n 2, 1) := by decide +kernel
theorem dX8_withCrew_7 : decode cX8_withCrew 7 = .ok (.iload_n 2, 1) := by decide +kernel
theorem dX8_withCrew_8 : decode cX8_withCrew 8 = .ok (.ifCond .ge 5, 3) := by decide +kernel
theorem dX8_withCrew_11 : decode cX8_withCrew 11 = .ok (.iload_n 2, 1) := by decide +kernel
theorem dX8_withCrew_12 : decode cX8_withCrew 12 = .ok (.ireturn, 1) := by decide +kernel
theorem dX8_withCrew_13 : decode cX8_withCrew 13 = .ok (.aload_n 0, 1) := by decide +kernel
theorem dX8_withCrew_14 : decode cX8_withCrew 14 = .ok (.getfield 7, 3) := by decide +kernel
theorem dX8_withCrew_17 : decode cX8_withCrew 17 = .ok (.iconst 0, 1) := by decide +kernel
theorem dX8_withCrew_18 : decode cX8_withCrew 18 = .ok (.aload_n 0, 1) := by decide +kernel
theorem dX8_withCrew_19 : decode cX8_withCrew 19 = .ok (.getfield 13, 3) := by decide +kernel
theorem dX8_withCrew_22 : decode cX8_withCrew 22 = .ok (.iconst 0, 1) := by decide +kernel
theorem dX8_withCrew_23 : decode cX8_withCrew 23 = .ok (.invokestatic 32, 3) := by decide +kernel
theorem dX8_withCrew_26 : decode cX8_withCrew 26 = .ok (.aload_n 0, 1) := by decide +kernel
theorem dX8_withCrew_27 : decode cX8_withCrew 27 = .ok (.iload_n 1, 1) := by decide +kernel
theorem dX8_withCrew_28 : decode cX8_withCrew 28 = .ok (.iconst 0, 1) := by decide +kernel
theorem dX8_withCrew_29 : decode cX8_withCrew 29 = .ok (.invokevirtual 114, 3) := by decide +kernel
theorem dX8_withCrew_32 : decode cX8_withCrew 32 = .ok (.pop, 1) := by decide +kernel
theorem dX8_withCrew_33 : decode cX8_withCrew 33 = .ok (.aload_n 0, 1) := by decide +kernel
theorem dX8_withCrew_34 : decode cX8_withCrew 34 = .ok (.invokevirtual 148, 3) := by decide +kernel
theorem dX8_withCrew_37 : decode cX8_withCrew 37 = .ok (.ireturn, 1) := by decide +kernel
set_option maxRecDepth 20000 in
theorem ggX8_allWith_X8_moves : GoodIn wsX8_allWith wsX8_moves := goodIn_r _ [6] (by decide +kernel) (by decide +kernel)
set_option maxRecDepth 20000 in
theorem gX8_allWith_X8_moves : GoodIn wsX8_allWith (va_wsS RX8 32 yX8_moves wsX8_moves) := goodIn_app (goodIn_of _ (by decide +kernel)) ggX8_allWith_X8_moves
set_option maxRecDepth 20000 in
theorem ggX8_allWith_X8_goesOn : GoodIn wsX8_allWith wsX8_goesOn := goodIn_r _ [10, 2, 1, 11, 12, 13, 5, 14, 15, 16, 17, 18, 19, 20, 21, 22, 23, 24, 25, 26, 27, 28, 29, 30, 31, 32, 33, 34, 35, 36, 37, 38, 39, 40, 41, 42, 43, 44, 45, 46, 47, 48, 49, 50, 51, 52, 53, 54, 55, 56, 57, 58, 59, 60, 61, 62, 63, 64, 65, 66, 67, 68, 69, 70, 71, 72, 73, 74, 75, 76, 77, 78, 79, 80, 81, 82, 3, 4, 6, 83, 84, 85, 86, 87, 88, 89, 90, 91, 92, 93, 94, 95, 96] (by decide +kernel) (by decide +kernel)
set_option maxRecDepth 20000 in
theorem gX8_allWith_X8_goesOn : GoodIn wsX8_allWith (wsV RX8 148 RX8 yX8_goesOn wsX8_goesOn) := goodIn_app (goodIn_of _ (by decide +kernel)) ggX8_allWith_X8_goesOn
theorem dX8_allWith_0 : decode cX8_allWith 0 = .ok (.aload_n 0, 1) := by decide +kernel
theorem dX8_allWith_1 : decode cX8_allWith 1 = .ok (.getfield 7, 3) := by decide +kernel
theorem dX8_allWith_4 : decode cX8_allWith 4 = .ok (.iconst 0, 1) := by decide +kernel
theorem dX8_allWith_5 : decode cX8_allWith 5 = .ok (.aload_n 0, 1) := by decide +kernel
theorem dX8_allWith_6 : decode cX8_allWith 6 = .ok (.getfield 13, 3) := by decide +kernel
theorem dX8_allWith_9 : decode cX8_allWith 9 = .ok (.iconst 0, 1) := by decide +kernel
theorem dX8_allWith_10 : decode cX8_allWith 10 = .ok (.invokestatic 32, 3) := by decide +kernel
theorem dX8_allWith_13 : decode cX8_allWith 13 = .ok (.aload_n 0, 1) := by decide +kernel
theorem dX8_allWith_14 : decode cX8_allWith 14 = .ok (.getfield 7, 3) := by decide +kernel
theorem dX8_allWith_17 : decode cX8_allWith 17 = .ok (.iconst 0, 1) := by decide +kernel
theorem dX8_allWith_18 : decode cX8_allWith 18 = .ok (.iload_n 1, 1) := by decide +kernel
theorem dX8_allWith_19 : decode cX8_allWith 19 = .ok (.iastore, 1) := by decide +kernel
theorem dX8_allWith_20 : decode cX8_allWith 20 = .ok (.aload_n 0, 1) := by decide +kernel
theorem dX8_allWith_21 : decode cX8_allWith 21 = .ok (.invokevirtual 148, 3) := by decide +kernel
theorem dX8_allWith_24 : decode cX8_allWith 24 = .ok (.ireturn, 1) := by decide +kernel
set_option maxRecDepth 20000 in
theorem ggX8_leastDock_X8_allWith : GoodIn wsX8_leastDock wsX8_allWith := goodIn_r _ [5, 6, 7, 8, 9, 4, 10, 11, 12, 13, 14, 15, 16, 17, 18, 19, 20, 21, 22, 23, 24, 25, 26, 27, 28, 29, 30, 31, 32, 33, 34, 35, 36, 37, 38, 39, 40, 41, 42, 43, 44, 45, 46, 47, 48, 49, 50, 51, 52, 53, 54, 55, 56, 57, 58, 59, 60, 61, 62, 63, 64, 65, 66, 67, 68, 69, 70, 71, 72, 73, 74, 75, 76, 77, 78, 79, 80, 81, 82, 83, 84, 85, 86, 87, 88, 89, 90, 91, 92, 93, 94, 95, 96, 97, 98, 99, 100] (by decide +kernel) (by decide +kernel)
set_option maxRecDepth 20000 in
theorem gX8_leastDock_X8_allWith : GoodIn wsX8_leastDock (wsV RX8 151 RX8 yX8_allWith wsX8_allWith) := goodIn_app (goodIn_of _ (by decide +kernel)) ggX8_leastDock_X8_allWith
theorem dX8_leastDock_0 : decode cX8_leastDock 0 = .ok (.aload_n 0, 1) := by decide +kernel
theorem dX8_leastDock_1 : decode cX8_leastDock 1 = .ok (.bipush 60, 2) := by decide +kernel
theorem dX8_leastDock_3 : decode cX8_leastDock 3 = .ok (.invokevirtual 151, 3) := by decide +kernel
theorem dX8_leastDock_6 : decode cX8_leastDock 6 = .ok (.istore_n 1, 1) := by decide +kernel
theorem dX8_leastDock_7 : decode cX8_leastDock 7 = .ok (.iload_n 1, 1) := by decide +kernel
theorem dX8_leastDock_8 : decode cX8_leastDock 8 = .ok (.bipush (-6), 2) := by decide +kernel
theorem dX8_leastDock_10 : decode cX8_leastDock 10 = .ok (.if_icmp .ne 6, 3) := by decide +kernel
theorem dX8_leastDock_13 : decode cX8_leastDock 13 = .ok (.bipush (-6), 2) := by decide +kernel
theorem dX8_leastDock_15 : decode cX8_leastDock 15 = .ok (.ireturn, 1) := by decide +kernel
theorem dX8_leastDock_16 : decode cX8_leastDock 16 = .ok (.iconst 1, 1) := by decide +kernel
theorem dX8_leastDock_17 : decode cX8_leastDock 17 = .ok (.istore_n 2, 1) := by decide +kernel
theorem dX8_leastDock_18 : decode cX8_leastDock 18 = .ok (.iload_n 2, 1) := by decide +kernel
theorem dX8_leastDock_19 : decode cX8_leastDock 19 = .ok (.bipush 60, 2) := by decide +kernel
theorem dX8_leastDock_21 : decode cX8_leastDock 21 = .ok (.if_icmp .ge 28, 3) := by decide +kernel
theorem dX8_leastDock_24 : decode cX8_leastDock 24 = .ok (.aload_n 0, 1) := by decide +kernel
theorem dX8_leastDock_25 : decode cX8_leastDock 25 = .ok (.iload_n 2, 1) := by decide +kernel
theorem dX8_leastDock_26 : decode cX8_leastDock 26 = .ok (.invokevirtual 151, 3) := by decide +kernel
theorem dX8_leastDock_29 : decode cX8_leastDock 29 = .ok (.istore_n 3, 1) := by decide +kernel
theorem dX8_leastDock_30 : decode cX8_leastDock 30 = .ok (.iload_n 3, 1) := by decide +kernel
theorem dX8_leastDock_31 : decode cX8_leastDock 31 = .ok (.bipush (-6), 2) := by decide +kernel
theorem dX8_leastDock_33 : decode cX8_leastDock 33 = .ok (.if_icmp .eq 10, 3) := by decide +kernel
theorem dX8_leastDock_36 : decode cX8_leastDock 36 = .ok (.iload_n 3, 1) := by decide +kernel
theorem dX8_leastDock_37 : decode cX8_leastDock 37 = .ok (.iload_n 1, 1) := by decide +kernel
theorem dX8_leastDock_38 : decode cX8_leastDock 38 = .ok (.if_icmp .gt 5, 3) := by decide +kernel
theorem dX8_leastDock_41 : decode cX8_leastDock 41 = .ok (.iload_n 2, 1) := by decide +kernel
theorem dX8_leastDock_42 : decode cX8_leastDock 42 = .ok (.ireturn, 1) := by decide +kernel
theorem dX8_leastDock_43 : decode cX8_leastDock 43 = .ok (.iinc 2 1, 3) := by decide +kernel
theorem dX8_leastDock_46 : decode cX8_leastDock 46 = .ok (.goto (-28), 3) := by decide +kernel
theorem dX8_leastDock_49 : decode cX8_leastDock 49 = .ok (.bipush 60, 2) := by decide +kernel
theorem dX8_leastDock_51 : decode cX8_leastDock 51 = .ok (.ireturn, 1) := by decide +kernel
set_option maxRecDepth 20000 in
theorem ggX8_put_X8_within : GoodIn wsX8_put wsX8_within := goodIn_r _ [7] (by decide +kernel) (by decide +kernel)
set_option maxRecDepth 20000 in
theorem gX8_put_X8_within : GoodIn wsX8_put (va_wsS RX8 36 yX8_within wsX8_within) := goodIn_app (goodIn_of _ (by decide +kernel)) ggX8_put_X8_within
theorem dX8_put_0 : decode cX8_put 0 = .ok (.iconst 0, 1) := by decide +kernel
theorem dX8_put_1 : decode cX8_put 1 = .ok (.istore_n 3, 1) := by decide +kernel
theorem dX8_put_2 : decode cX8_put 2 = .ok (.lload_n 1, 1) := by decide +kernel
theorem dX8_put_3 : decode cX8_put 3 = .ok (.lstore 4, 2) := by decide +kernel
theorem dX8_put_5 : decode cX8_put 5 = .ok (.iconst 1, 1) := by decide +kernel
theorem dX8_put_6 : decode cX8_put 6 = .ok (.istore 6, 2) := by decide +kernel
theorem dX8_put_8 : decode cX8_put 8 = .ok (.iload_n 3, 1) := by decide +kernel
theorem dX8_put_9 : decode cX8_put 9 = .ok (.bipush 8, 2) := by decide +kernel
theorem dX8_put_11 : decode cX8_put 11 = .ok (.if_icmp .ge 56, 3) := by decide +kernel
theorem dX8_put_14 : decode cX8_put 14 = .ok (.lload 4, 2) := by decide +kernel
theorem dX8_put_16 : decode cX8_put 16 = .ok (.ldc2_w 154, 3) := by decide +kernel
theorem dX8_put_19 : decode cX8_put 19 = .ok (.land, 1) := by decide +kernel
theorem dX8_put_20 : decode cX8_put 20 = .ok (.lconst 0, 1) := by decide +kernel
theorem dX8_put_21 : decode cX8_put 21 = .ok (.lcmp, 1) := by decide +kernel
theorem dX8_put_22 : decode cX8_put 22 = .ok (.ifCond .eq 45, 3) := by decide +kernel
theorem dX8_put_25 : decode cX8_put 25 = .ok (.iload 6, 2) := by decide +kernel
theorem dX8_put_27 : decode cX8_put 27 = .ok (.ifCond .eq 24, 3) := by decide +kernel
theorem dX8_put_30 : decode cX8_put 30 = .ok (.lload 4, 2) := by decide +kernel
theorem dX8_put_32 : decode cX8_put 32 = .ok (.ldc2_w 154, 3) := by decide +kernel
theorem dX8_put_35 : decode cX8_put 35 = .ok (.land, 1) := by decide +kernel
theorem dX8_put_36 : decode cX8_put 36 = .ok (.l2i, 1) := by decide +kernel
theorem dX8_put_37 : decode cX8_put 37 = .ok (.bipush 33, 2) := by decide +kernel
theorem dX8_put_39 : decode cX8_put 39 = .ok (.bipush 126, 2) := by decide +kernel
theorem dX8_put_41 : decode cX8_put 41 = .ok (.invokestatic 36, 3) := by decide +kernel
theorem dX8_put_44 : decode cX8_put 44 = .ok (.ifCond .eq 7, 3) := by decide +kernel
theorem dX8_put_47 : decode cX8_put 47 = .ok (.iconst 1, 1) := by decide +kernel
theorem dX8_put_48 : decode cX8_put 48 = .ok (.goto 4, 3) := by decide +kernel
theorem dX8_put_51 : decode cX8_put 51 = .ok (.iconst 0, 1) := by decide +kernel
theorem dX8_put_52 : decode cX8_put 52 = .ok (.istore 6, 2) := by decide +kernel
theorem dX8_put_54 : decode cX8_put 54 = .ok (.lload 4, 2) := by decide +kernel
theorem dX8_put_56 : decode cX8_put 56 = .ok (.bipush 8, 2) := by decide +kernel
theorem dX8_put_58 : decode cX8_put 58 = .ok (.lushr, 1) := by decide +kernel
theorem dX8_put_59 : decode cX8_put 59 = .ok (.lstore 4, 2) := by decide +kernel
theorem dX8_put_61 : decode cX8_put 61 = .ok (.iinc 3 1, 3) := by decide +kernel
theorem dX8_put_64 : decode cX8_put 64 = .ok (.goto (-56), 3) := by decide +kernel
theorem dX8_put_67 : decode cX8_put 67 = .ok (.iload_n 3, 1) := by decide +kernel
theorem dX8_put_68 : decode cX8_put 68 = .ok (.ifCond .eq 15, 3) := by decide +kernel
theorem dX8_put_71 : decode cX8_put 71 = .ok (.iload 6, 2) := by decide +kernel
theorem dX8_put_73 : decode cX8_put 73 = .ok (.ifCond .eq 10, 3) := by decide +kernel
theorem dX8_put_76 : decode cX8_put 76 = .ok (.lload 4, 2) := by decide +kernel
theorem dX8_put_78 : decode cX8_put 78 = .ok (.lconst 0, 1) := by decide +kernel
theorem dX8_put_79 : decode cX8_put 79 = .ok (.lcmp, 1) := by decide +kernel
theorem dX8_put_80 : decode cX8_put 80 = .ok (.ifCond .eq 6, 3) := by decide +kernel
theorem dX8_put_83 : decode cX8_put 83 = .ok (.bipush (-2), 2) := by decide +kernel
theorem dX8_put_85 : decode cX8_put 85 = .ok (.ireturn, 1) := by decide +kernel
theorem dX8_put_86 : decode cX8_put 86 = .ok (.aload_n 0, 1) := by decide +kernel
theorem dX8_put_87 : decode cX8_put 87 = .ok (.getfield 141, 3) := by decide +kernel
theorem dX8_put_90 : decode cX8_put 90 = .ok (.iload_n 3, 1) := by decide +kernel
theorem dX8_put_91 : decode cX8_put 91 = .ok (.iadd, 1) := by decide +kernel
theorem dX8_put_92 : decode cX8_put 92 = .ok (.bipush 80, 2) := by decide +kernel
theorem dX8_put_94 : decode cX8_put 94 = .ok (.if_icmp .le 6, 3) := by decide +kernel
theorem dX8_put_97 : decode cX8_put 97 = .ok (.bipush (-4), 2) := by decide +kernel
theorem dX8_put_99 : decode cX8_put 99 = .ok (.ireturn, 1) := by decide +kernel
theorem dX8_put_100 : decode cX8_put 100 = .ok (.iload_n 3, 1) := by decide +kernel
theorem dX8_put_101 : decode cX8_put 101 = .ok (.iconst 1, 1) := by decide +kernel
theorem dX8_put_102 : decode cX8_put 102 = .ok (.isub, 1) := by decide +kernel
theorem dX8_put_103 : decode cX8_put 103 = .ok (.istore 7, 2) := by decide +kernel
theorem dX8_put_105 : decode cX8_put 105 = .ok (.iload 7, 2) := by decide +kernel
theorem dX8_put_107 : decode cX8_put 107 = .ok (.ifCond .lt 40, 3) := by decide +kernel
theorem dX8_put_110 : decode cX8_put 110 = .ok (.aload_n 0, 1) := by decide +kernel
theorem dX8_put_111 : decode cX8_put 111 = .ok (.getfield 25, 3) := by decide +kernel
theorem dX8_put_114 : decode cX8_put 114 = .ok (.aload_n 0, 1) := by decide +kernel
theorem dX8_put_115 : decode cX8_put 115 = .ok (.getfield 141, 3) := by decide +kernel
theorem dX8_put_118 : decode cX8_put 118 = .ok (.lload_n 1, 1) := by decide +kernel
theorem dX8_put_119 : decode cX8_put 119 = .ok (.bipush 8, 2) := by decide +kernel
theorem dX8_put_121 : decode cX8_put 121 = .ok (.iload 7, 2) := by decide +kernel
theorem dX8_put_123 : decode cX8_put 123 = .ok (.imul, 1) := by decide +kernel
theorem dX8_put_124 : decode cX8_put 124 = .ok (.lushr, 1) := by decide +kernel
theorem dX8_put_125 : decode cX8_put 125 = .ok (.ldc2_w 154, 3) := by decide +kernel
theorem dX8_put_128 : decode cX8_put 128 = .ok (.land, 1) := by decide +kernel
theorem dX8_put_129 : decode cX8_put 129 = .ok (.l2i, 1) := by decide +kernel
theorem dX8_put_130 : decode cX8_put 130 = .ok (.iastore, 1) := by decide +kernel
theorem dX8_put_131 : decode cX8_put 131 = .ok (.aload_n 0, 1) := by decide +kernel
theorem dX8_put_132 : decode cX8_put 132 = .ok (.dup, 1) := by decide +kernel
theorem dX8_put_133 : decode cX8_put 133 = .ok (.getfield 141, 3) := by decide +kernel
theorem dX8_put_136 : decode cX8_put 136 = .ok (.iconst 1, 1) := by decide +kernel
theorem dX8_put_137 : decode cX8_put 137 = .ok (.iadd, 1) := by decide +kernel
theorem dX8_put_138 : decode cX8_put 138 = .ok (.putfield 141, 3) := by decide +kernel
theorem dX8_put_141 : decode cX8_put 141 = .ok (.iinc 7 (-1), 3) := by decide +kernel
theorem dX8_put_144 : decode cX8_put 144 = .ok (.goto (-39), 3) := by decide +kernel
theorem dX8_put_147 : decode cX8_put 147 = .ok (.aload_n 0, 1) := by decide +kernel
theorem dX8_put_148 : decode cX8_put 148 = .ok (.getfield 141, 3) := by decide +kernel
theorem dX8_put_151 : decode cX8_put 151 = .ok (.ireturn, 1) := by decide +kernel
theorem dX8_wipe_0 : decode cX8_wipe 0 = .ok (.aload_n 0, 1) := by decide +kernel
theorem dX8_wipe_1 : decode cX8_wipe 1 = .ok (.getfield 141, 3) := by decide +kernel
theorem dX8_wipe_4 : decode cX8_wipe 4 = .ok (.istore_n 1, 1) := by decide +kernel
theorem dX8_wipe_5 : decode cX8_wipe 5 = .ok (.aload_n 0, 1) := by decide +kernel
theorem dX8_wipe_6 : decode cX8_wipe 6 = .ok (.iconst 0, 1) := by decide +kernel
theorem dX8_wipe_7 : decode cX8_wipe 7 = .ok (.putfield 141, 3) := by decide +kernel
theorem dX8_wipe_10 : decode cX8_wipe 10 = .ok (.iload_n 1, 1) := by decide +kernel
theorem dX8_wipe_11 : decode cX8_wipe 11 = .ok (.ireturn, 1) := by decide +kernel
theorem dX8_character_0 : decode cX8_character 0 = .ok (.iload_n 1, 1) := by decide +kernel
theorem dX8_character_1 : decode cX8_character 1 = .ok (.aload_n 0, 1) := by decide +kernel
theorem dX8_character_2 : decode cX8_character 2 = .ok (.getfield 141, 3) := by decide +kernel
theorem dX8_character_5 : decode cX8_character 5 = .ok (.if_icmp .ge 12, 3) := by decide +kernel
theorem dX8_character_8 : decode cX8_character 8 = .ok (.aload_n 0, 1) := by decide +kernel
theorem dX8_character_9 : decode cX8_character 9 = .ok (.getfield 25, 3) := by decide +kernel
theorem dX8_character_12 : decode cX8_character 12 = .ok (.iload_n 1, 1) := by decide +kernel
theorem dX8_character_13 : decode cX8_character 13 = .ok (.iaload, 1) := by decide +kernel
theorem dX8_character_14 : decode cX8_character 14 = .ok (.goto 4, 3) := by decide +kernel
theorem dX8_character_17 : decode cX8_character 17 = .ok (.iconst (-1), 1) := by decide +kernel
theorem dX8_character_18 : decode cX8_character 18 = .ok (.ireturn, 1) := by decide +kernel
set_option maxRecDepth 20000 in
theorem ggX8_isNext_X8_character : GoodIn wsX8_isNext wsX8_character := goodIn_r _ [6, 7, 8, 9, 10, 11, 12, 13, 14, 15, 16, 17, 18, 19, 20, 21, 22] (by decide +kernel) (by decide +kernel)
set_option maxRecDepth 20000 in
theorem gX8_isNext_X8_character : GoodIn wsX8_isNext (wsV RX8 159 RX8 yX8_character wsX8_character) := goodIn_app (goodIn_of _ (by decide +kernel)) ggX8_isNext_X8_character
theorem dX8_isNext_0 : decode cX8_isNext 0 = .ok (.aload_n 0, 1) := by decide +kernel
theorem dX8_isNext_1 : decode cX8_isNext 1 = .ok (.aload_n 0, 1) := by decide +kernel
theorem dX8_isNext_2 : decode cX8_isNext 2 = .ok (.getfield 156, 3) := by decide +kernel
theorem dX8_isNext_5 : decode cX8_isNext 5 = .ok (.invokevirtual 159, 3) := by decide +kernel
theorem dX8_isNext_8 : decode cX8_isNext 8 = .ok (.iload_n 1, 1) := by decide +kernel
theorem dX8_isNext_9 : decode cX8_isNext 9 = .ok (.if_icmp .ne 7, 3) := by decide +kernel
theorem dX8_isNext_12 : decode cX8_isNext 12 = .ok (.iconst 1, 1) := by decide +kernel
theorem dX8_isNext_13 : decode cX8_isNext 13 = .ok (.goto 4, 3) := by decide +kernel
theorem dX8_isNext_16 : decode cX8_isNext 16 = .ok (.iconst 0, 1) := by decide +kernel
theorem dX8_isNext_17 : decode cX8_isNext 17 = .ok (.istore_n 2, 1) := by decide +kernel
theorem dX8_isNext_18 : decode cX8_isNext 18 = .ok (.aload_n 0, 1) := by decide +kernel
theorem dX8_isNext_19 : decode cX8_isNext 19 = .ok (.dup, 1) := by decide +kernel
theorem dX8_isNext_20 : decode cX8_isNext 20 = .ok (.getfield 156, 3) := by decide +kernel
theorem dX8_isNext_23 : decode cX8_isNext 23 = .ok (.iload_n 2, 1) := by decide +kernel
theorem dX8_isNext_24 : decode cX8_isNext 24 = .ok (.ifCond .eq 7, 3) := by decide +kernel
theorem dX8_isNext_27 : decode cX8_isNext 27 = .ok (.iconst 1, 1) := by decide +kernel
theorem dX8_isNext_28 : decode cX8_isNext 28 = .ok (.goto 4, 3) := by decide +kernel
theorem dX8_isNext_31 : decode cX8_isNext 31 = .ok (.iconst 0, 1) := by decide +kernel
theorem dX8_isNext_32 : decode cX8_isNext 32 = .ok (.iadd, 1) := by decide +kernel
theorem dX8_isNext_33 : decode cX8_isNext 33 = .ok (.putfield 156, 3) := by decide +kernel
theorem dX8_isNext_36 : decode cX8_isNext 36 = .ok (.iload_n 2, 1) := by decide +kernel
theorem dX8_isNext_37 : decode cX8_isNext 37 = .ok (.ireturn, 1) := by decide +kernel
set_option maxRecDepth 20000 in
theorem ggX8_takeDigit_X8_character : GoodIn wsX8_takeDigit wsX8_character := goodIn_r _ [6, 7, 8, 12, 13, 14, 15, 16, 17, 18, 19, 20, 21, 22, 23, 24, 25] (by decide +kernel) (by decide +kernel)
set_option maxRecDepth 20000 in
theorem gX8_takeDigit_X8_character : GoodIn wsX8_takeDigit (wsV RX8 159 RX8 yX8_character wsX8_character) := goodIn_app (goodIn_of _ (by decide +kernel)) ggX8_takeDigit_X8_character
set_option maxRecDepth 20000 in
theorem ggX8_takeDigit_X8_within : GoodIn wsX8_takeDigit wsX8_within := goodIn_r _ [11] (by decide +kernel) (by decide +kernel)
set_option maxRecDepth 20000 in
theorem gX8_takeDigit_X8_within : GoodIn wsX8_takeDigit (va_wsS RX8 36 yX8_within wsX8_within) := goodIn_app (goodIn_of _ (by decide +kernel)) ggX8_takeDigit_X8_within
theorem dX8_takeDigit_0 : decode cX8_takeDigit 0 = .ok (.aload_n 0, 1) := by decide +kernel
theorem dX8_takeDigit_1 : decode cX8_takeDigit 1 = .ok (.aload_n 0, 1) := by decide +kernel
theorem dX8_takeDigit_2 : decode cX8_takeDigit 2 = .ok (.getfield 156, 3) := by decide +kernel
theorem dX8_takeDigit_5 : decode cX8_takeDigit 5 = .ok (.invokevirtual 159, 3) := by decide +kernel
theorem dX8_takeDigit_8 : decode cX8_takeDigit 8 = .ok (.bipush 48, 2) := by decide +kernel
theorem dX8_takeDigit_10 : decode cX8_takeDigit 10 = .ok (.isub, 1) := by decide +kernel
theorem dX8_takeDigit_11 : decode cX8_takeDigit 11 = .ok (.istore_n 2, 1) := by decide +kernel
theorem dX8_takeDigit_12 : decode cX8_takeDigit 12 = .ok (.iload_n 2, 1) := by decide +kernel
theorem dX8_takeDigit_13 : decode cX8_takeDigit 13 = .ok (.iload_n 1, 1) := by decide +kernel
theorem dX8_takeDigit_14 : decode cX8_takeDigit 14 = .ok (.bipush 9, 2) := by decide +kernel
theorem dX8_takeDigit_16 : decode cX8_takeDigit 16 = .ok (.invokestatic 36, 3) := by decide +kernel
theorem dX8_takeDigit_19 : decode cX8_takeDigit 19 = .ok (.ifCond .ne 5, 3) := by decide +kernel
theorem dX8_takeDigit_22 : decode cX8_takeDigit 22 = .ok (.iconst (-1), 1) := by decide +kernel
theorem dX8_takeDigit_23 : decode cX8_takeDigit 23 = .ok (.ireturn, 1) := by decide +kernel
theorem dX8_takeDigit_24 : decode cX8_takeDigit 24 = .ok (.aload_n 0, 1) := by decide +kernel
theorem dX8_takeDigit_25 : decode cX8_takeDigit 25 = .ok (.dup, 1) := by decide +kernel
theorem dX8_takeDigit_26 : decode cX8_takeDigit 26 = .ok (.getfield 156, 3) := by decide +kernel
theorem dX8_takeDigit_29 : decode cX8_takeDigit 29 = .ok (.iconst 1, 1) := by decide +kernel
theorem dX8_takeDigit_30 : decode cX8_takeDigit 30 = .ok (.iadd, 1) := by decide +kernel
theorem dX8_takeDigit_31 : decode cX8_takeDigit 31 = .ok (.putfield 156, 3) := by decide +kernel
theorem dX8_takeDigit_34 : decode cX8_takeDigit 34 = .ok (.iload_n 2, 1) := by decide +kernel
theorem dX8_takeDigit_35 : decode cX8_takeDigit 35 = .ok (.ireturn, 1) := by decide +kernel
set_option maxRecDepth 20000 in
theorem ggX8_takeNumber_X8_takeDigit : GoodIn wsX8_takeNumber wsX8_takeDigit := goodIn_r _ [6, 1, 7, 8, 9, 5, 10, 11, 12, 13, 14, 15, 16, 17, 18, 19, 20, 21, 22, 23, 24, 25, 26, 27, 28, 29] (by decide +kernel) (by decide +kernel)
set_option maxRecDepth 20000 in
theorem gX8_takeNumber_X8_takeDigit : GoodIn wsX8_takeNumber (wsV RX8 162 RX8 yX8_takeDigit wsX8_takeDigit) := goodIn_app (goodIn_of _ (by decide +kernel)) ggX8_takeNumber_X8_takeDigit
set_option maxRecDepth 20000 in
theorem ggX8_takeNumber_X8_character : GoodIn wsX8_takeNumber wsX8_character := goodIn_r _ [10, 11, 12, 16, 17, 18, 19, 20, 21, 22, 23, 24, 25, 26, 27, 28, 29] (by decide +kernel) (by decide +kernel)
set_option maxRecDepth 20000 in
theorem gX8_takeNumber_X8_character : GoodIn wsX8_takeNumber (wsV RX8 159 RX8 yX8_character wsX8_character) := goodIn_app (goodIn_of _ (by decide +kernel)) ggX8_takeNumber_X8_character
set_option maxRecDepth 20000 in
theorem ggX8_takeNumber_X8_within : GoodIn wsX8_takeNumber wsX8_within := goodIn_r _ [15] (by decide +kernel) (by decide +kernel)
set_option maxRecDepth 20000 in
theorem gX8_takeNumber_X8_within : GoodIn wsX8_takeNumber (va_wsS RX8 36 yX8_within wsX8_within) := goodIn_app (goodIn_of _ (by decide +kernel)) ggX8_takeNumber_X8_within
theorem dX8_takeNumber_0 : decode cX8_takeNumber 0 = .ok (.aload_n 0, 1) := by decide +kernel
theorem dX8_takeNumber_1 : decode cX8_takeNumber 1 = .ok (.iconst 0, 1) := by decide +kernel
theorem dX8_takeNumber_2 : decode cX8_takeNumber 2 = .ok (.invokevirtual 162, 3) := by decide +kernel
theorem dX8_takeNumber_5 : decode cX8_takeNumber 5 = .ok (.istore_n 1, 1) := by decide +kernel
theorem dX8_takeNumber_6 : decode cX8_takeNumber 6 = .ok (.iload_n 1, 1) := by decide +kernel
theorem dX8_takeNumber_7 : decode cX8_takeNumber 7 = .ok (.ifCond .le 32, 3) := by decide +kernel
theorem dX8_takeNumber_10 : decode cX8_takeNumber 10 = .ok (.aload_n 0, 1) := by decide +kernel
theorem dX8_takeNumber_11 : decode cX8_takeNumber 11 = .ok (.aload_n 0, 1) := by decide +kernel
theorem dX8_takeNumber_12 : decode cX8_takeNumber 12 = .ok (.getfield 156, 3) := by decide +kernel
theorem dX8_takeNumber_15 : decode cX8_takeNumber 15 = .ok (.invokevirtual 159, 3) := by decide +kernel
theorem dX8_takeNumber_18 : decode cX8_takeNumber 18 = .ok (.bipush 48, 2) := by decide +kernel
theorem dX8_takeNumber_20 : decode cX8_takeNumber 20 = .ok (.bipush 57, 2) := by decide +kernel
theorem dX8_takeNumber_22 : decode cX8_takeNumber 22 = .ok (.invokestatic 36, 3) := by decide +kernel
theorem dX8_takeNumber_25 : decode cX8_takeNumber 25 = .ok (.ifCond .eq 14, 3) := by decide +kernel
theorem dX8_takeNumber_28 : decode cX8_takeNumber 28 = .ok (.bipush 10, 2) := by decide +kernel
theorem dX8_takeNumber_30 : decode cX8_takeNumber 30 = .ok (.iload_n 1, 1) := by decide +kernel
theorem dX8_takeNumber_31 : decode cX8_takeNumber 31 = .ok (.imul, 1) := by decide +kernel
theorem dX8_takeNumber_32 : decode cX8_takeNumber 32 = .ok (.aload_n 0, 1) := by decide +kernel
theorem dX8_takeNumber_33 : decode cX8_takeNumber 33 = .ok (.iconst 0, 1) := by decide +kernel
theorem dX8_takeNumber_34 : decode cX8_takeNumber 34 = .ok (.invokevirtual 162, 3) := by decide +kernel
theorem dX8_takeNumber_37 : decode cX8_takeNumber 37 = .ok (.iadd, 1) := by decide +kernel
theorem dX8_takeNumber_38 : decode cX8_takeNumber 38 = .ok (.istore_n 1, 1) := by decide +kernel
theorem dX8_takeNumber_39 : decode cX8_takeNumber 39 = .ok (.iload_n 1, 1) := by decide +kernel
theorem dX8_takeNumber_40 : decode cX8_takeNumber 40 = .ok (.ireturn, 1) := by decide +kernel
set_option maxRecDepth 20000 in
theorem ggX8_readsStand_X8_takeNumber : GoodIn wsX8_readsStand wsX8_takeNumber := goodIn_r _ [9, 10, 11, 12, 13, 8, 14, 15, 16, 17, 18, 19, 20, 21, 22, 23, 28, 29, 30, 31, 32, 33, 34, 35, 36, 37, 38, 39, 40, 41] (by decide +kernel) (by decide +kernel)
set_option maxRecDepth 20000 in
theorem gX8_readsStand_X8_takeNumber : GoodIn wsX8_readsStand (wsV RX8 165 RX8 yX8_takeNumber wsX8_takeNumber) := goodIn_app (goodIn_of _ (by decide +kernel)) ggX8_readsStand_X8_takeNumber
set_option maxRecDepth 20000 in
theorem ggX8_readsStand_X8_isNext : GoodIn wsX8_readsStand wsX8_isNext := goodIn_r _ [27, 10, 15, 16, 17, 8, 18, 19, 20, 28, 29, 30, 31, 32, 33, 34, 35, 36, 37, 38, 39, 40, 41] (by decide +kernel) (by decide +kernel)
set_option maxRecDepth 20000 in
theorem gX8_readsStand_X8_isNext : GoodIn wsX8_readsStand (wsV RX8 171 RX8 yX8_isNext wsX8_isNext) := goodIn_app (goodIn_of _ (by decide +kernel)) ggX8_readsStand_X8_isNext
theorem dX8_readsStand_0 : decode cX8_readsStand 0 = .ok (.aload_n 0, 1) := by decide +kernel
theorem dX8_readsStand_1 : decode cX8_readsStand 1 = .ok (.aload_n 0, 1) := by decide +kernel
theorem dX8_readsStand_2 : decode cX8_readsStand 2 = .ok (.invokevirtual 165, 3) := by decide +kernel
theorem dX8_readsStand_5 : decode cX8_readsStand 5 = .ok (.putfield 168, 3) := by decide +kernel
theorem dX8_readsStand_8 : decode cX8_readsStand 8 = .ok (.aload_n 0, 1) := by decide +kernel
theorem dX8_readsStand_9 : decode cX8_readsStand 9 = .ok (.aload_n 0, 1) := by decide +kernel
theorem dX8_readsStand_10 : decode cX8_readsStand 10 = .ok (.getfield 168, 3) := by decide +kernel
theorem dX8_readsStand_13 : decode cX8_readsStand 13 = .ok (.ifCond .lt 19, 3) := by decide +kernel
theorem dX8_readsStand_16 : decode cX8_readsStand 16 = .ok (.aload_n 0, 1) := by decide +kernel
theorem dX8_readsStand_17 : decode cX8_readsStand 17 = .ok (.bipush 44, 2) := by decide +kernel
theorem dX8_readsStand_19 : decode cX8_readsStand 19 = .ok (.invokevirtual 171, 3) := by decide +kernel
theorem dX8_readsStand_22 : decode cX8_readsStand 22 = .ok (.ifCond .eq 10, 3) := by decide +kernel
theorem dX8_readsStand_25 : decode cX8_readsStand 25 = .ok (.aload_n 0, 1) := by decide +kernel
theorem dX8_readsStand_26 : decode cX8_readsStand 26 = .ok (.invokevirtual 165, 3) := by decide +kernel
theorem dX8_readsStand_29 : decode cX8_readsStand 29 = .ok (.goto 4, 3) := by decide +kernel
theorem dX8_readsStand_32 : decode cX8_readsStand 32 = .ok (.iconst (-1), 1) := by decide +kernel
theorem dX8_readsStand_33 : decode cX8_readsStand 33 = .ok (.putfield 174, 3) := by decide +kernel
theorem dX8_readsStand_36 : decode cX8_readsStand 36 = .ok (.aload_n 0, 1) := by decide +kernel
theorem dX8_readsStand_37 : decode cX8_readsStand 37 = .ok (.aload_n 0, 1) := by decide +kernel
theorem dX8_readsStand_38 : decode cX8_readsStand 38 = .ok (.getfield 174, 3) := by decide +kernel
theorem dX8_readsStand_41 : decode cX8_readsStand 41 = .ok (.ifCond .lt 19, 3) := by decide +kernel
theorem dX8_readsStand_44 : decode cX8_readsStand 44 = .ok (.aload_n 0, 1) := by decide +kernel
theorem dX8_readsStand_45 : decode cX8_readsStand 45 = .ok (.bipush 44, 2) := by decide +kernel
theorem dX8_readsStand_47 : decode cX8_readsStand 47 = .ok (.invokevirtual 171, 3) := by decide +kernel
theorem dX8_readsStand_50 : decode cX8_readsStand 50 = .ok (.ifCond .eq 10, 3) := by decide +kernel
theorem dX8_readsStand_53 : decode cX8_readsStand 53 = .ok (.aload_n 0, 1) := by decide +kernel
theorem dX8_readsStand_54 : decode cX8_readsStand 54 = .ok (.invokevirtual 165, 3) := by decide +kernel
theorem dX8_readsStand_57 : decode cX8_readsStand 57 = .ok (.goto 4, 3) := by decide +kernel
theorem dX8_readsStand_60 : decode cX8_readsStand 60 = .ok (.iconst (-1), 1) := by decide +kernel
theorem dX8_readsStand_61 : decode cX8_readsStand 61 = .ok (.putfield 177, 3) := by decide +kernel
theorem dX8_readsStand_64 : decode cX8_readsStand 64 = .ok (.aload_n 0, 1) := by decide +kernel
theorem dX8_readsStand_65 : decode cX8_readsStand 65 = .ok (.aload_n 0, 1) := by decide +kernel
theorem dX8_readsStand_66 : decode cX8_readsStand 66 = .ok (.getfield 177, 3) := by decide +kernel
theorem dX8_readsStand_69 : decode cX8_readsStand 69 = .ok (.ifCond .lt 19, 3) := by decide +kernel
theorem dX8_readsStand_72 : decode cX8_readsStand 72 = .ok (.aload_n 0, 1) := by decide +kernel
theorem dX8_readsStand_73 : decode cX8_readsStand 73 = .ok (.bipush 94, 2) := by decide +kernel
theorem dX8_readsStand_75 : decode cX8_readsStand 75 = .ok (.invokevirtual 171, 3) := by decide +kernel
theorem dX8_readsStand_78 : decode cX8_readsStand 78 = .ok (.ifCond .eq 10, 3) := by decide +kernel
theorem dX8_readsStand_81 : decode cX8_readsStand 81 = .ok (.aload_n 0, 1) := by decide +kernel
theorem dX8_readsStand_82 : decode cX8_readsStand 82 = .ok (.invokevirtual 165, 3) := by decide +kernel
theorem dX8_readsStand_85 : decode cX8_readsStand 85 = .ok (.goto 5, 3) := by decide +kernel
theorem dX8_readsStand_88 : decode cX8_readsStand 88 = .ok (.bipush (-6), 2) := by decide +kernel
theorem dX8_readsStand_90 : decode cX8_readsStand 90 = .ok (.putfield 180, 3) := by decide +kernel
theorem dX8_readsStand_93 : decode cX8_readsStand 93 = .ok (.aload_n 0, 1) := by decide +kernel
theorem dX8_readsStand_94 : decode cX8_readsStand 94 = .ok (.getfield 177, 3) := by decide +kernel
theorem dX8_readsStand_97 : decode cX8_readsStand 97 = .ok (.ifCond .lt 15, 3) := by decide +kernel
theorem dX8_readsStand_100 : decode cX8_readsStand 100 = .ok (.aload_n 0, 1) := by decide +kernel
theorem dX8_readsStand_101 : decode cX8_readsStand 101 = .ok (.getfield 180, 3) := by decide +kernel
theorem dX8_readsStand_104 : decode cX8_readsStand 104 = .ok (.iconst (-1), 1) := by decide +kernel
theorem dX8_readsStand_105 : decode cX8_readsStand 105 = .ok (.if_icmp .eq 7, 3) := by decide +kernel
theorem dX8_readsStand_108 : decode cX8_readsStand 108 = .ok (.iconst 1, 1) := by decide +kernel
theorem dX8_readsStand_109 : decode cX8_readsStand 109 = .ok (.goto 4, 3) := by decide +kernel
theorem dX8_readsStand_112 : decode cX8_readsStand 112 = .ok (.iconst 0, 1) := by decide +kernel
theorem dX8_readsStand_113 : decode cX8_readsStand 113 = .ok (.ireturn, 1) := by decide +kernel
set_option maxRecDepth 20000 in
theorem ggX8_readsOrder_X8_character : GoodIn wsX8_readsOrder wsX8_character := goodIn_r _ [9, 10, 11, 33, 34, 35, 36, 37, 38, 39, 40, 41, 42, 43, 44, 45, 46] (by decide +kernel) (by decide +kernel)
set_option maxRecDepth 20000 in
theorem gX8_readsOrder_X8_character : GoodIn wsX8_readsOrder (wsV RX8 159 RX8 yX8_character wsX8_character) := goodIn_app (goodIn_of _ (by decide +kernel)) ggX8_readsOrder_X8_character
set_option maxRecDepth 20000 in
theorem ggX8_readsOrder_X8_readsStand : GoodIn wsX8_readsOrder wsX8_readsStand := goodIn_r _ [15, 3, 4, 16, 17, 18, 19, 20, 8, 21, 1, 22, 23, 24, 25, 5, 6, 7, 9, 10, 11, 26, 27, 28, 29, 30, 31, 32, 33, 34, 35, 36, 37, 38, 39, 40, 41, 42, 43, 44, 45, 46] (by decide +kernel) (by decide +kernel)
set_option maxRecDepth 20000 in
theorem gX8_readsOrder_X8_readsStand : GoodIn wsX8_readsOrder (wsV RX8 186 RX8 yX8_readsStand wsX8_readsStand) := goodIn_app (goodIn_of _ (by decide +kernel)) ggX8_readsOrder_X8_readsStand
set_option maxRecDepth 20000 in
theorem ggX8_readsOrder_X8_takeDigit : GoodIn wsX8_readsOrder wsX8_takeDigit := goodIn_r _ [25, 1, 5, 6, 7, 8, 9, 10, 11, 26, 27, 28, 33, 34, 35, 36, 37, 38, 39, 40, 41, 42, 43, 44, 45, 46] (by decide +kernel) (by decide +kernel)
set_option maxRecDepth 20000 in
theorem gX8_readsOrder_X8_takeDigit : GoodIn wsX8_readsOrder (wsV RX8 162 RX8 yX8_takeDigit wsX8_takeDigit) := goodIn_app (goodIn_of _ (by decide +kernel)) ggX8_readsOrder_X8_takeDigit
set_option maxRecDepth 20000 in
theorem ggX8_readsOrder_X8_isNext : GoodIn wsX8_readsOrder wsX8_isNext := goodIn_r _ [32, 1, 5, 6, 7, 8, 9, 10, 11, 33, 34, 35, 36, 37, 38, 39, 40, 41, 42, 43, 44, 45, 46] (by decide +kernel) (by decide +kernel)
set_option maxRecDepth 20000 in
theorem gX8_readsOrder_X8_isNext : GoodIn wsX8_readsOrder (wsV RX8 171 RX8 yX8_isNext wsX8_isNext) := goodIn_app (goodIn_of _ (by decide +kernel)) ggX8_readsOrder_X8_isNext
set_option maxRecDepth 20000 in
theorem ggX8_readsOrder_X8_takeNumber : GoodIn wsX8_readsOrder wsX8_takeNumber := goodIn_r _ [21, 1, 22, 23, 24, 8, 25, 5, 6, 7, 9, 10, 11, 26, 27, 28, 33, 34, 35, 36, 37, 38, 39, 40, 41, 42, 43, 44, 45, 46] (by decide +kernel) (by decide +kernel)
set_option maxRecDepth 20000 in
theorem gX8_readsOrder_X8_takeNumber : GoodIn wsX8_readsOrder (wsV RX8 165 RX8 yX8_takeNumber wsX8_takeNumber) := goodIn_app (goodIn_of _ (by decide +kernel)) ggX8_readsOrder_X8_takeNumber
theorem dX8_readsOrder_0 : decode cX8_readsOrder 0 = .ok (.aload_n 0, 1) := by decide +kernel
theorem dX8_readsOrder_1 : decode cX8_readsOrder 1 = .ok (.aload_n 0, 1) := by decide +kernel
theorem dX8_readsOrder_2 : decode cX8_readsOrder 2 = .ok (.aload_n 0, 1) := by decide +kernel
theorem dX8_readsOrder_3 : decode cX8_readsOrder 3 = .ok (.getfield 156, 3) := by decide +kernel
theorem dX8_readsOrder_6 : decode cX8_readsOrder 6 = .ok (.invokevirtual 159, 3) := by decide +kernel
theorem dX8_readsOrder_9 : decode cX8_readsOrder 9 = .ok (.putfield 183, 3) := by decide +kernel
theorem dX8_readsOrder_12 : decode cX8_readsOrder 12 = .ok (.aload_n 0, 1) := by decide +kernel
theorem dX8_readsOrder_13 : decode cX8_readsOrder 13 = .ok (.dup, 1) := by decide +kernel
theorem dX8_readsOrder_14 : decode cX8_readsOrder 14 = .ok (.getfield 156, 3) := by decide +kernel
theorem dX8_readsOrder_17 : decode cX8_readsOrder 17 = .ok (.iconst 1, 1) := by decide +kernel
theorem dX8_readsOrder_18 : decode cX8_readsOrder 18 = .ok (.iadd, 1) := by decide +kernel
theorem dX8_readsOrder_19 : decode cX8_readsOrder 19 = .ok (.putfield 156, 3) := by decide +kernel
theorem dX8_readsOrder_22 : decode cX8_readsOrder 22 = .ok (.aload_n 0, 1) := by decide +kernel
theorem dX8_readsOrder_23 : decode cX8_readsOrder 23 = .ok (.getfield 183, 3) := by decide +kernel
theorem dX8_readsOrder_26 : decode cX8_readsOrder 26 = .ok (.lookupswitch 128 #[(43, 50), (99, 55), (100, 105), (101, 126), (116, 105)], 50) := by decide +kernel
theorem dX8_readsOrder_76 : decode cX8_readsOrder 76 = .ok (.aload_n 0, 1) := by decide +kernel
theorem dX8_readsOrder_77 : decode cX8_readsOrder 77 = .ok (.invokevirtual 186, 3) := by decide +kernel
theorem dX8_readsOrder_80 : decode cX8_readsOrder 80 = .ok (.ireturn, 1) := by decide +kernel
theorem dX8_readsOrder_81 : decode cX8_readsOrder 81 = .ok (.aload_n 0, 1) := by decide +kernel
theorem dX8_readsOrder_82 : decode cX8_readsOrder 82 = .ok (.aload_n 0, 1) := by decide +kernel
theorem dX8_readsOrder_83 : decode cX8_readsOrder 83 = .ok (.iconst 1, 1) := by decide +kernel
theorem dX8_readsOrder_84 : decode cX8_readsOrder 84 = .ok (.invokevirtual 162, 3) := by decide +kernel
theorem dX8_readsOrder_87 : decode cX8_readsOrder 87 = .ok (.putfield 168, 3) := by decide +kernel
theorem dX8_readsOrder_90 : decode cX8_readsOrder 90 = .ok (.aload_n 0, 1) := by decide +kernel
theorem dX8_readsOrder_91 : decode cX8_readsOrder 91 = .ok (.aload_n 0, 1) := by decide +kernel
theorem dX8_readsOrder_92 : decode cX8_readsOrder 92 = .ok (.getfield 168, 3) := by decide +kernel
theorem dX8_readsOrder_95 : decode cX8_readsOrder 95 = .ok (.ifCond .lt 19, 3) := by decide +kernel
theorem dX8_readsOrder_98 : decode cX8_readsOrder 98 = .ok (.aload_n 0, 1) := by decide +kernel
theorem dX8_readsOrder_99 : decode cX8_readsOrder 99 = .ok (.bipush 36, 2) := by decide +kernel
theorem dX8_readsOrder_101 : decode cX8_readsOrder 101 = .ok (.invokevirtual 171, 3) := by decide +kernel
theorem dX8_readsOrder_104 : decode cX8_readsOrder 104 = .ok (.ifCond .eq 10, 3) := by decide +kernel
theorem dX8_readsOrder_107 : decode cX8_readsOrder 107 = .ok (.aload_n 0, 1) := by decide +kernel
theorem dX8_readsOrder_108 : decode cX8_readsOrder 108 = .ok (.invokevirtual 165, 3) := by decide +kernel
theorem dX8_readsOrder_111 : decode cX8_readsOrder 111 = .ok (.goto 4, 3) := by decide +kernel
theorem dX8_readsOrder_114 : decode cX8_readsOrder 114 = .ok (.iconst (-1), 1) := by decide +kernel
theorem dX8_readsOrder_115 : decode cX8_readsOrder 115 = .ok (.putfield 174, 3) := by decide +kernel
theorem dX8_readsOrder_118 : decode cX8_readsOrder 118 = .ok (.aload_n 0, 1) := by decide +kernel
theorem dX8_readsOrder_119 : decode cX8_readsOrder 119 = .ok (.getfield 174, 3) := by decide +kernel
theorem dX8_readsOrder_122 : decode cX8_readsOrder 122 = .ok (.ifCond .lt 7, 3) := by decide +kernel
theorem dX8_readsOrder_125 : decode cX8_readsOrder 125 = .ok (.iconst 1, 1) := by decide +kernel
theorem dX8_readsOrder_126 : decode cX8_readsOrder 126 = .ok (.goto 4, 3) := by decide +kernel
theorem dX8_readsOrder_129 : decode cX8_readsOrder 129 = .ok (.iconst 0, 1) := by decide +kernel
theorem dX8_readsOrder_130 : decode cX8_readsOrder 130 = .ok (.ireturn, 1) := by decide +kernel
theorem dX8_readsOrder_131 : decode cX8_readsOrder 131 = .ok (.aload_n 0, 1) := by decide +kernel
theorem dX8_readsOrder_132 : decode cX8_readsOrder 132 = .ok (.aload_n 0, 1) := by decide +kernel
theorem dX8_readsOrder_133 : decode cX8_readsOrder 133 = .ok (.invokevirtual 165, 3) := by decide +kernel
theorem dX8_readsOrder_136 : decode cX8_readsOrder 136 = .ok (.putfield 168, 3) := by decide +kernel
theorem dX8_readsOrder_139 : decode cX8_readsOrder 139 = .ok (.aload_n 0, 1) := by decide +kernel
theorem dX8_readsOrder_140 : decode cX8_readsOrder 140 = .ok (.getfield 168, 3) := by decide +kernel
theorem dX8_readsOrder_143 : decode cX8_readsOrder 143 = .ok (.ifCond .lt 7, 3) := by decide +kernel
theorem dX8_readsOrder_146 : decode cX8_readsOrder 146 = .ok (.iconst 1, 1) := by decide +kernel
theorem dX8_readsOrder_147 : decode cX8_readsOrder 147 = .ok (.goto 4, 3) := by decide +kernel
theorem dX8_readsOrder_150 : decode cX8_readsOrder 150 = .ok (.iconst 0, 1) := by decide +kernel
theorem dX8_readsOrder_151 : decode cX8_readsOrder 151 = .ok (.ireturn, 1) := by decide +kernel
theorem dX8_readsOrder_152 : decode cX8_readsOrder 152 = .ok (.iconst 1, 1) := by decide +kernel
theorem dX8_readsOrder_153 : decode cX8_readsOrder 153 = .ok (.ireturn, 1) := by decide +kernel
theorem dX8_readsOrder_154 : decode cX8_readsOrder 154 = .ok (.aload_n 0, 1) := by decide +kernel
theorem dX8_readsOrder_155 : decode cX8_readsOrder 155 = .ok (.dup, 1) := by decide +kernel
theorem dX8_readsOrder_156 : decode cX8_readsOrder 156 = .ok (.getfield 156, 3) := by decide +kernel
theorem dX8_readsOrder_159 : decode cX8_readsOrder 159 = .ok (.iconst 1, 1) := by decide +kernel
theorem dX8_readsOrder_160 : decode cX8_readsOrder 160 = .ok (.isub, 1) := by decide +kernel
theorem dX8_readsOrder_161 : decode cX8_readsOrder 161 = .ok (.putfield 156, 3) := by decide +kernel
theorem dX8_readsOrder_164 : decode cX8_readsOrder 164 = .ok (.iconst 0, 1) := by decide +kernel
theorem dX8_readsOrder_165 : decode cX8_readsOrder 165 = .ok (.ireturn, 1) := by decide +kernel
set_option maxRecDepth 20000 in
theorem ggX8_findFault_X8_readsOrder : GoodIn wsX8_findFault wsX8_readsOrder := goodIn_r _ [7, 1, 8, 9, 10, 11, 12, 13, 6, 14, 2, 15, 16, 17, 18, 19, 20, 21, 22, 23, 24, 25, 26, 27, 28, 29, 30, 31, 32, 33, 34, 35, 36, 37, 38, 39, 40, 41, 42, 43, 44, 45, 46, 47, 48, 49, 50] (by decide +kernel) (by decide +kernel)
set_option maxRecDepth 20000 in
theorem gX8_findFault_X8_readsOrder : GoodIn wsX8_findFault (wsV RX8 189 RX8 yX8_readsOrder wsX8_readsOrder) := goodIn_app (goodIn_of _ (by decide +kernel)) ggX8_findFault_X8_readsOrder
set_option maxRecDepth 20000 in
theorem ggX8_findFault_X8_isNext : GoodIn wsX8_findFault wsX8_isNext := goodIn_r _ [36, 1, 11, 12, 13, 6, 14, 2, 15, 37, 38, 39, 40, 41, 42, 43, 44, 45, 46, 47, 48, 49, 50] (by decide +kernel) (by decide +kernel)
set_option maxRecDepth 20000 in
theorem gX8_findFault_X8_isNext : GoodIn wsX8_findFault (wsV RX8 171 RX8 yX8_isNext wsX8_isNext) := goodIn_app (goodIn_of _ (by decide +kernel)) ggX8_findFault_X8_isNext
theorem dX8_findFault_0 : decode cX8_findFault 0 = .ok (.aload_n 0, 1) := by decide +kernel
theorem dX8_findFault_1 : decode cX8_findFault 1 = .ok (.iconst 0, 1) := by decide +kernel
theorem dX8_findFault_2 : decode cX8_findFault 2 = .ok (.putfield 156, 3) := by decide +kernel
theorem dX8_findFault_5 : decode cX8_findFault 5 = .ok (.aload_n 0, 1) := by decide +kernel
theorem dX8_findFault_6 : decode cX8_findFault 6 = .ok (.invokevirtual 189, 3) := by decide +kernel
theorem dX8_findFault_9 : decode cX8_findFault 9 = .ok (.ifCond .ne 8, 3) := by decide +kernel
theorem dX8_findFault_12 : decode cX8_findFault 12 = .ok (.aload_n 0, 1) := by decide +kernel
theorem dX8_findFault_13 : decode cX8_findFault 13 = .ok (.getfield 156, 3) := by decide +kernel
theorem dX8_findFault_16 : decode cX8_findFault 16 = .ok (.ireturn, 1) := by decide +kernel
theorem dX8_findFault_17 : decode cX8_findFault 17 = .ok (.aload_n 0, 1) := by decide +kernel
theorem dX8_findFault_18 : decode cX8_findFault 18 = .ok (.getfield 156, 3) := by decide +kernel
theorem dX8_findFault_21 : decode cX8_findFault 21 = .ok (.aload_n 0, 1) := by decide +kernel
theorem dX8_findFault_22 : decode cX8_findFault 22 = .ok (.getfield 141, 3) := by decide +kernel
theorem dX8_findFault_25 : decode cX8_findFault 25 = .ok (.if_icmp .ne 6, 3) := by decide +kernel
theorem dX8_findFault_28 : decode cX8_findFault 28 = .ok (.bipush (-6), 2) := by decide +kernel
theorem dX8_findFault_30 : decode cX8_findFault 30 = .ok (.ireturn, 1) := by decide +kernel
theorem dX8_findFault_31 : decode cX8_findFault 31 = .ok (.aload_n 0, 1) := by decide +kernel
theorem dX8_findFault_32 : decode cX8_findFault 32 = .ok (.bipush 59, 2) := by decide +kernel
theorem dX8_findFault_34 : decode cX8_findFault 34 = .ok (.invokevirtual 171, 3) := by decide +kernel
theorem dX8_findFault_37 : decode cX8_findFault 37 = .ok (.ifCond .ne (-32), 3) := by decide +kernel
theorem dX8_findFault_40 : decode cX8_findFault 40 = .ok (.aload_n 0, 1) := by decide +kernel
theorem dX8_findFault_41 : decode cX8_findFault 41 = .ok (.getfield 156, 3) := by decide +kernel
theorem dX8_findFault_44 : decode cX8_findFault 44 = .ok (.ireturn, 1) := by decide +kernel
set_option maxRecDepth 20000 in
theorem ggX8_fault_X8_findFault : GoodIn wsX8_fault wsX8_findFault := goodIn_r _ [5, 6, 7, 8, 9, 10, 4, 11, 12, 13, 14, 15, 16, 17, 18, 19, 20, 21, 22, 23, 24, 25, 26, 27, 28, 29, 30, 31, 32, 33, 34, 35, 36, 37, 38, 39, 40, 41, 42, 43, 44, 45, 46, 47, 48, 49, 50, 51, 52, 53, 54] (by decide +kernel) (by decide +kernel)
set_option maxRecDepth 20000 in
theorem gX8_fault_X8_findFault : GoodIn wsX8_fault (wsV RX8 192 RX8 yX8_findFault wsX8_findFault) := goodIn_app (goodIn_of _ (by decide +kernel)) ggX8_fault_X8_findFault
theorem dX8_fault_0 : decode cX8_fault 0 = .ok (.aload_n 0, 1) := by decide +kernel
theorem dX8_fault_1 : decode cX8_fault 1 = .ok (.invokevirtual 192, 3) := by decide +kernel
theorem dX8_fault_4 : decode cX8_fault 4 = .ok (.ireturn, 1) := by decide +kernel
set_option maxRecDepth 20000 in
theorem ggX8_whyNotDone_X8_whyNoStand : GoodIn wsX8_whyNotDone wsX8_whyNoStand := goodIn_r _ [11, 6, 12, 13, 10, 14, 15, 16, 17, 18, 19, 20, 21, 22, 23, 24, 25, 26, 38, 39, 40, 41, 42, 43, 44, 45, 46, 47, 48, 49, 50, 51] (by decide +kernel) (by decide +kernel)
set_option maxRecDepth 20000 in
theorem gX8_whyNotDone_X8_whyNoStand : GoodIn wsX8_whyNotDone (wsV RX8 104 RX8 yX8_whyNoStand wsX8_whyNoStand) := goodIn_app (goodIn_of _ (by decide +kernel)) ggX8_whyNotDone_X8_whyNoStand
set_option maxRecDepth 20000 in
theorem ggX8_whyNotDone_X8_whyNoCrew : GoodIn wsX8_whyNotDone wsX8_whyNoCrew := goodIn_r _ [30, 6, 12, 13, 10, 14, 38, 39, 40, 41, 42, 43, 44, 45, 46, 47, 48, 49, 50, 51] (by decide +kernel) (by decide +kernel)
set_option maxRecDepth 20000 in
theorem gX8_whyNotDone_X8_whyNoCrew : GoodIn wsX8_whyNotDone (wsV RX8 111 RX8 yX8_whyNoCrew wsX8_whyNoCrew) := goodIn_app (goodIn_of _ (by decide +kernel)) ggX8_whyNotDone_X8_whyNoCrew
set_option maxRecDepth 20000 in
theorem ggX8_whyNotDone_X8_isValue : GoodIn wsX8_whyNotDone wsX8_isValue := goodIn_r _ [33, 12, 13, 10, 14] (by decide +kernel) (by decide +kernel)
set_option maxRecDepth 20000 in
theorem gX8_whyNotDone_X8_isValue : GoodIn wsX8_whyNotDone (va_wsS RX8 95 yX8_isValue wsX8_isValue) := goodIn_app (goodIn_of _ (by decide +kernel)) ggX8_whyNotDone_X8_isValue
set_option maxRecDepth 20000 in
theorem ggX8_whyNotDone_X8_whyNotPassed : GoodIn wsX8_whyNotDone wsX8_whyNotPassed := goodIn_r _ [37, 6, 12, 13, 10, 14, 38, 39, 40, 41, 42, 43, 44, 45, 46, 47, 48, 49, 50, 51] (by decide +kernel) (by decide +kernel)
set_option maxRecDepth 20000 in
theorem gX8_whyNotDone_X8_whyNotPassed : GoodIn wsX8_whyNotDone (wsV RX8 120 RX8 yX8_whyNotPassed wsX8_whyNotPassed) := goodIn_app (goodIn_of _ (by decide +kernel)) ggX8_whyNotDone_X8_whyNotPassed
theorem dX8_whyNotDone_0 : decode cX8_whyNotDone 0 = .ok (.aload_n 0, 1) := by decide +kernel
theorem dX8_whyNotDone_1 : decode cX8_whyNotDone 1 = .ok (.getfield 183, 3) := by decide +kernel
theorem dX8_whyNotDone_4 : decode cX8_whyNotDone 4 = .ok (.lookupswitch 105 #[(43, 44), (99, 65), (100, 78), (116, 96)], 44) := by decide +kernel
theorem dX8_whyNotDone_48 : decode cX8_whyNotDone 48 = .ok (.aload_n 0, 1) := by decide +kernel
theorem dX8_whyNotDone_49 : decode cX8_whyNotDone 49 = .ok (.aload_n 0, 1) := by decide +kernel
theorem dX8_whyNotDone_50 : decode cX8_whyNotDone 50 = .ok (.getfield 168, 3) := by decide +kernel
theorem dX8_whyNotDone_53 : decode cX8_whyNotDone 53 = .ok (.aload_n 0, 1) := by decide +kernel
theorem dX8_whyNotDone_54 : decode cX8_whyNotDone 54 = .ok (.getfield 174, 3) := by decide +kernel
theorem dX8_whyNotDone_57 : decode cX8_whyNotDone 57 = .ok (.aload_n 0, 1) := by decide +kernel
theorem dX8_whyNotDone_58 : decode cX8_whyNotDone 58 = .ok (.getfield 177, 3) := by decide +kernel
theorem dX8_whyNotDone_61 : decode cX8_whyNotDone 61 = .ok (.aload_n 0, 1) := by decide +kernel
theorem dX8_whyNotDone_62 : decode cX8_whyNotDone 62 = .ok (.getfield 180, 3) := by decide +kernel
theorem dX8_whyNotDone_65 : decode cX8_whyNotDone 65 = .ok (.invokevirtual 104, 3) := by decide +kernel
theorem dX8_whyNotDone_68 : decode cX8_whyNotDone 68 = .ok (.ireturn, 1) := by decide +kernel
theorem dX8_whyNotDone_69 : decode cX8_whyNotDone 69 = .ok (.aload_n 0, 1) := by decide +kernel
theorem dX8_whyNotDone_70 : decode cX8_whyNotDone 70 = .ok (.aload_n 0, 1) := by decide +kernel
theorem dX8_whyNotDone_71 : decode cX8_whyNotDone 71 = .ok (.getfield 168, 3) := by decide +kernel
theorem dX8_whyNotDone_74 : decode cX8_whyNotDone 74 = .ok (.aload_n 0, 1) := by decide +kernel
theorem dX8_whyNotDone_75 : decode cX8_whyNotDone 75 = .ok (.getfield 174, 3) := by decide +kernel
theorem dX8_whyNotDone_78 : decode cX8_whyNotDone 78 = .ok (.invokevirtual 111, 3) := by decide +kernel
theorem dX8_whyNotDone_81 : decode cX8_whyNotDone 81 = .ok (.ireturn, 1) := by decide +kernel
theorem dX8_whyNotDone_82 : decode cX8_whyNotDone 82 = .ok (.iconst 0, 1) := by decide +kernel
theorem dX8_whyNotDone_83 : decode cX8_whyNotDone 83 = .ok (.aload_n 0, 1) := by decide +kernel
theorem dX8_whyNotDone_84 : decode cX8_whyNotDone 84 = .ok (.getfield 168, 3) := by decide +kernel
theorem dX8_whyNotDone_87 : decode cX8_whyNotDone 87 = .ok (.invokestatic 95, 3) := by decide +kernel
theorem dX8_whyNotDone_90 : decode cX8_whyNotDone 90 = .ok (.ifCond .eq 7, 3) := by decide +kernel
theorem dX8_whyNotDone_93 : decode cX8_whyNotDone 93 = .ok (.iconst 0, 1) := by decide +kernel
theorem dX8_whyNotDone_94 : decode cX8_whyNotDone 94 = .ok (.goto 5, 3) := by decide +kernel
theorem dX8_whyNotDone_97 : decode cX8_whyNotDone 97 = .ok (.bipush (-2), 2) := by decide +kernel
theorem dX8_whyNotDone_99 : decode cX8_whyNotDone 99 = .ok (.ireturn, 1) := by decide +kernel
theorem dX8_whyNotDone_100 : decode cX8_whyNotDone 100 = .ok (.aload_n 0, 1) := by decide +kernel
theorem dX8_whyNotDone_101 : decode cX8_whyNotDone 101 = .ok (.aload_n 0, 1) := by decide +kernel
theorem dX8_whyNotDone_102 : decode cX8_whyNotDone 102 = .ok (.getfield 168, 3) := by decide +kernel
theorem dX8_whyNotDone_105 : decode cX8_whyNotDone 105 = .ok (.invokevirtual 120, 3) := by decide +kernel
theorem dX8_whyNotDone_108 : decode cX8_whyNotDone 108 = .ok (.ireturn, 1) := by decide +kernel
theorem dX8_whyNotDone_109 : decode cX8_whyNotDone 109 = .ok (.aload_n 0, 1) := by decide +kernel
theorem dX8_whyNotDone_110 : decode cX8_whyNotDone 110 = .ok (.getfield 7, 3) := by decide +kernel
theorem dX8_whyNotDone_113 : decode cX8_whyNotDone 113 = .ok (.bipush 6, 2) := by decide +kernel
theorem dX8_whyNotDone_115 : decode cX8_whyNotDone 115 = .ok (.iaload, 1) := by decide +kernel
theorem dX8_whyNotDone_116 : decode cX8_whyNotDone 116 = .ok (.iconst 1, 1) := by decide +kernel
theorem dX8_whyNotDone_117 : decode cX8_whyNotDone 117 = .ok (.if_icmp .ne 8, 3) := by decide +kernel
theorem dX8_whyNotDone_120 : decode cX8_whyNotDone 120 = .ok (.bipush (-5), 2) := by decide +kernel
theorem dX8_whyNotDone_122 : decode cX8_whyNotDone 122 = .ok (.goto 4, 3) := by decide +kernel
theorem dX8_whyNotDone_125 : decode cX8_whyNotDone 125 = .ok (.iconst 0, 1) := by decide +kernel
theorem dX8_whyNotDone_126 : decode cX8_whyNotDone 126 = .ok (.ireturn, 1) := by decide +kernel
set_option maxRecDepth 20000 in
theorem ggX8_does_X8_comes : GoodIn wsX8_does wsX8_comes := goodIn_r _ [11, 6, 12, 13, 14, 10, 15, 88, 89, 90, 91, 92, 93, 94, 95, 96, 97, 98, 99, 100, 101] (by decide +kernel) (by decide +kernel)
set_option maxRecDepth 20000 in
theorem gX8_does_X8_comes : GoodIn wsX8_does (wsV RX8 108 RX8 yX8_comes wsX8_comes) := goodIn_app (goodIn_of _ (by decide +kernel)) ggX8_does_X8_comes
set_option maxRecDepth 20000 in
theorem ggX8_does_X8_comesCrew : GoodIn wsX8_does wsX8_comesCrew := goodIn_r _ [19, 6, 20, 21, 22, 10, 23, 88, 89, 90, 91, 92, 93, 94, 95, 96, 97, 98, 99, 100, 101] (by decide +kernel) (by decide +kernel)
set_option maxRecDepth 20000 in
theorem gX8_does_X8_comesCrew : GoodIn wsX8_does (wsV RX8 114 RX8 yX8_comesCrew wsX8_comesCrew) := goodIn_app (goodIn_of _ (by decide +kernel)) ggX8_does_X8_comesCrew
set_option maxRecDepth 20000 in
theorem ggX8_does_X8_passes : GoodIn wsX8_does wsX8_passes := goodIn_r _ [27, 28, 29, 30, 10, 31, 6, 32, 33, 34, 35, 36, 37, 38, 39, 40, 41, 42, 43, 12, 13, 14, 15, 44, 45, 46, 47, 48, 49, 50, 51, 52, 53, 54, 55, 56, 57, 58, 59, 60, 61, 62, 63, 64, 65, 66, 67, 20, 21, 22, 23, 68, 69, 70, 71, 72, 73, 74, 75, 76, 77, 78, 79, 80, 81, 82, 83, 88, 89, 90, 91, 92, 93, 94, 95, 96, 97, 98, 99, 100, 101] (by decide +kernel) (by decide +kernel)
set_option maxRecDepth 20000 in
theorem gX8_does_X8_passes : GoodIn wsX8_does (wsV RX8 123 RX8 yX8_passes wsX8_passes) := goodIn_app (goodIn_of _ (by decide +kernel)) ggX8_does_X8_passes
set_option maxRecDepth 20000 in
theorem ggX8_does_X8_ends : GoodIn wsX8_does wsX8_ends := goodIn_r _ [87, 6, 40, 41, 42, 10, 43, 20, 21, 22, 23, 12, 13, 14, 15, 88, 89, 90, 91, 92, 93, 94, 95, 96, 97, 98, 99, 100, 101] (by decide +kernel) (by decide +kernel)
set_option maxRecDepth 20000 in
theorem gX8_does_X8_ends : GoodIn wsX8_does (wsV RX8 117 RX8 yX8_ends wsX8_ends) := goodIn_app (goodIn_of _ (by decide +kernel)) ggX8_does_X8_ends
theorem dX8_does_0 : decode cX8_does 0 = .ok (.aload_n 0, 1) := by decide +kernel
theorem dX8_does_1 : decode cX8_does 1 = .ok (.getfield 183, 3) := by decide +kernel
theorem dX8_does_4 : decode cX8_does 4 = .ok (.lookupswitch 109 #[(43, 44), (99, 68), (100, 84), (116, 97)], 44) := by decide +kernel
theorem dX8_does_48 : decode cX8_does 48 = .ok (.aload_n 0, 1) := by decide +kernel
theorem dX8_does_49 : decode cX8_does 49 = .ok (.aload_n 0, 1) := by decide +kernel
theorem dX8_does_50 : decode cX8_does 50 = .ok (.getfield 168, 3) := by decide +kernel
theorem dX8_does_53 : decode cX8_does 53 = .ok (.aload_n 0, 1) := by decide +kernel
theorem dX8_does_54 : decode cX8_does 54 = .ok (.getfield 174, 3) := by decide +kernel
theorem dX8_does_57 : decode cX8_does 57 = .ok (.aload_n 0, 1) := by decide +kernel
theorem dX8_does_58 : decode cX8_does 58 = .ok (.getfield 177, 3) := by decide +kernel
theorem dX8_does_61 : decode cX8_does 61 = .ok (.aload_n 0, 1) := by decide +kernel
theorem dX8_does_62 : decode cX8_does 62 = .ok (.getfield 180, 3) := by decide +kernel
theorem dX8_does_65 : decode cX8_does 65 = .ok (.invokevirtual 108, 3) := by decide +kernel
theorem dX8_does_68 : decode cX8_does 68 = .ok (.pop, 1) := by decide +kernel
theorem dX8_does_69 : decode cX8_does 69 = .ok (.goto 49, 3) := by decide +kernel
theorem dX8_does_72 : decode cX8_does 72 = .ok (.aload_n 0, 1) := by decide +kernel
theorem dX8_does_73 : decode cX8_does 73 = .ok (.aload_n 0, 1) := by decide +kernel
theorem dX8_does_74 : decode cX8_does 74 = .ok (.getfield 168, 3) := by decide +kernel
theorem dX8_does_77 : decode cX8_does 77 = .ok (.aload_n 0, 1) := by decide +kernel
theorem dX8_does_78 : decode cX8_does 78 = .ok (.getfield 174, 3) := by decide +kernel
theorem dX8_does_81 : decode cX8_does 81 = .ok (.invokevirtual 114, 3) := by decide +kernel
theorem dX8_does_84 : decode cX8_does 84 = .ok (.pop, 1) := by decide +kernel
theorem dX8_does_85 : decode cX8_does 85 = .ok (.goto 33, 3) := by decide +kernel
theorem dX8_does_88 : decode cX8_does 88 = .ok (.aload_n 0, 1) := by decide +kernel
theorem dX8_does_89 : decode cX8_does 89 = .ok (.getfield 7, 3) := by decide +kernel
theorem dX8_does_92 : decode cX8_does 92 = .ok (.iconst 0, 1) := by decide +kernel
theorem dX8_does_93 : decode cX8_does 93 = .ok (.aload_n 0, 1) := by decide +kernel
theorem dX8_does_94 : decode cX8_does 94 = .ok (.getfield 168, 3) := by decide +kernel
theorem dX8_does_97 : decode cX8_does 97 = .ok (.iastore, 1) := by decide +kernel
theorem dX8_does_98 : decode cX8_does 98 = .ok (.goto 20, 3) := by decide +kernel
theorem dX8_does_101 : decode cX8_does 101 = .ok (.aload_n 0, 1) := by decide +kernel
theorem dX8_does_102 : decode cX8_does 102 = .ok (.aload_n 0, 1) := by decide +kernel
theorem dX8_does_103 : decode cX8_does 103 = .ok (.getfield 168, 3) := by decide +kernel
theorem dX8_does_106 : decode cX8_does 106 = .ok (.invokevirtual 123, 3) := by decide +kernel
theorem dX8_does_109 : decode cX8_does 109 = .ok (.pop, 1) := by decide +kernel
theorem dX8_does_110 : decode cX8_does 110 = .ok (.goto 8, 3) := by decide +kernel
theorem dX8_does_113 : decode cX8_does 113 = .ok (.aload_n 0, 1) := by decide +kernel
theorem dX8_does_114 : decode cX8_does 114 = .ok (.invokevirtual 117, 3) := by decide +kernel
theorem dX8_does_117 : decode cX8_does 117 = .ok (.pop, 1) := by decide +kernel
theorem dX8_does_118 : decode cX8_does 118 = .ok (.return_, 1) := by decide +kernel
set_option maxRecDepth 20000 in
theorem ggX8_carryOut_X8_findFault : GoodIn wsX8_carryOut wsX8_findFault := goodIn_r _ [7, 1, 2, 8, 9, 10, 6, 11, 12, 13, 14, 15, 16, 17, 18, 19, 20, 21, 22, 23, 24, 25, 26, 27, 28, 29, 30, 31, 32, 33, 34, 35, 36, 37, 38, 39, 40, 158, 159, 160, 161, 162, 163, 164, 165, 166, 167, 168, 169, 170, 171] (by decide +kernel) (by decide +kernel)
set_option maxRecDepth 20000 in
theorem gX8_carryOut_X8_findFault : GoodIn wsX8_carryOut (wsV RX8 192 RX8 yX8_findFault wsX8_findFault) := goodIn_app (goodIn_of _ (by decide +kernel)) ggX8_carryOut_X8_findFault
set_option maxRecDepth 20000 in
theorem ggX8_carryOut_X8_record : GoodIn wsX8_carryOut wsX8_record := goodIn_r _ [44, 45, 46, 47, 48, 49, 6, 50, 158, 159, 160, 161, 162, 163, 164, 165, 166, 167, 168, 169, 170, 171] (by decide +kernel) (by decide +kernel)
set_option maxRecDepth 20000 in
theorem gX8_carryOut_X8_record : GoodIn wsX8_carryOut (wsV RX8 98 RX8 yX8_record wsX8_record) := goodIn_app (goodIn_of _ (by decide +kernel)) ggX8_carryOut_X8_record
set_option maxRecDepth 20000 in
theorem ggX8_carryOut_X8_readsOrder : GoodIn wsX8_carryOut wsX8_readsOrder := goodIn_r _ [11, 1, 12, 13, 14, 15, 16, 17, 6, 18, 2, 19, 20, 21, 22, 23, 24, 25, 26, 27, 28, 29, 30, 31, 32, 33, 34, 35, 36, 37, 38, 39, 40, 158, 159, 160, 161, 162, 163, 164, 165, 166, 167, 168, 169, 170, 171] (by decide +kernel) (by decide +kernel)
set_option maxRecDepth 20000 in
theorem gX8_carryOut_X8_readsOrder : GoodIn wsX8_carryOut (wsV RX8 189 RX8 yX8_readsOrder wsX8_readsOrder) := goodIn_app (goodIn_of _ (by decide +kernel)) ggX8_carryOut_X8_readsOrder
set_option maxRecDepth 20000 in
theorem ggX8_carryOut_X8_isNext : GoodIn wsX8_carryOut wsX8_isNext := goodIn_r _ [40, 1, 15, 16, 17, 6, 18, 2, 19, 158, 159, 160, 161, 162, 163, 164, 165, 166, 167, 168, 169, 170, 171] (by decide +kernel) (by decide +kernel)
set_option maxRecDepth 20000 in
theorem gX8_carryOut_X8_isNext : GoodIn wsX8_carryOut (wsV RX8 171 RX8 yX8_isNext wsX8_isNext) := goodIn_app (goodIn_of _ (by decide +kernel)) ggX8_carryOut_X8_isNext
set_option maxRecDepth 20000 in
theorem ggX8_carryOut_X8_whyNotDone : GoodIn wsX8_carryOut wsX8_whyNotDone := goodIn_r _ [54, 12, 13, 14, 24, 25, 47, 55, 56, 57, 6, 58, 34, 35, 36, 59, 60, 61, 62, 63, 64, 65, 66, 67, 68, 69, 70, 71, 72, 73, 74, 75, 76, 77, 78, 79, 80, 81, 158, 159, 160, 161, 162, 163, 164, 165, 166, 167, 168, 169, 170, 171] (by decide +kernel) (by decide +kernel)
set_option maxRecDepth 20000 in
theorem gX8_carryOut_X8_whyNotDone : GoodIn wsX8_carryOut (wsV RX8 195 RX8 yX8_whyNotDone wsX8_whyNotDone) := goodIn_app (goodIn_of _ (by decide +kernel)) ggX8_carryOut_X8_whyNotDone
set_option maxRecDepth 20000 in
theorem ggX8_carryOut_X8_does : GoodIn wsX8_carryOut wsX8_does := goodIn_r _ [85, 12, 13, 14, 24, 25, 47, 86, 87, 88, 6, 89, 90, 91, 92, 93, 94, 95, 96, 97, 98, 99, 100, 101, 102, 103, 104, 105, 106, 107, 108, 109, 110, 111, 112, 113, 63, 64, 65, 66, 67, 68, 69, 70, 114, 115, 116, 117, 118, 119, 120, 121, 122, 123, 124, 125, 126, 127, 128, 129, 130, 131, 132, 133, 134, 135, 136, 137, 138, 139, 140, 141, 142, 143, 144, 145, 146, 147, 148, 149, 150, 151, 152, 153, 154, 155, 156, 157, 158, 159, 160, 161, 162, 163, 164, 165, 166, 167, 168, 169, 170, 171] (by decide +kernel) (by decide +kernel)
set_option maxRecDepth 20000 in
theorem gX8_carryOut_X8_does : GoodIn wsX8_carryOut (wsV RX8 198 RX8 yX8_does wsX8_does) := goodIn_app (goodIn_of _ (by decide +kernel)) ggX8_carryOut_X8_does
theorem dX8_carryOut_0 : decode cX8_carryOut 0 = .ok (.aload_n 0, 1) := by decide +kernel
theorem dX8_carryOut_1 : decode cX8_carryOut 1 = .ok (.invokevirtual 192, 3) := by decide +kernel
theorem dX8_carryOut_4 : decode cX8_carryOut 4 = .ok (.bipush (-6), 2) := by decide +kernel
theorem dX8_carryOut_6 : decode cX8_carryOut 6 = .ok (.if_icmp .eq 6, 3) := by decide +kernel
theorem dX8_carryOut_9 : decode cX8_carryOut 9 = .ok (.bipush (-3), 2) := by decide +kernel
theorem dX8_carryOut_11 : decode cX8_carryOut 11 = .ok (.ireturn, 1) := by decide +kernel
theorem dX8_carryOut_12 : decode cX8_carryOut 12 = .ok (.aload_n 0, 1) := by decide +kernel
theorem dX8_carryOut_13 : decode cX8_carryOut 13 = .ok (.invokevirtual 98, 3) := by decide +kernel
theorem dX8_carryOut_16 : decode cX8_carryOut 16 = .ok (.iconst 0, 1) := by decide +kernel
theorem dX8_carryOut_17 : decode cX8_carryOut 17 = .ok (.istore_n 1, 1) := by decide +kernel
theorem dX8_carryOut_18 : decode cX8_carryOut 18 = .ok (.aload_n 0, 1) := by decide +kernel
theorem dX8_carryOut_19 : decode cX8_carryOut 19 = .ok (.iconst 0, 1) := by decide +kernel
theorem dX8_carryOut_20 : decode cX8_carryOut 20 = .ok (.putfield 156, 3) := by decide +kernel
theorem dX8_carryOut_23 : decode cX8_carryOut 23 = .ok (.iconst 1, 1) := by decide +kernel
theorem dX8_carryOut_24 : decode cX8_carryOut 24 = .ok (.istore_n 2, 1) := by decide +kernel
theorem dX8_carryOut_25 : decode cX8_carryOut 25 = .ok (.iload_n 2, 1) := by decide +kernel
theorem dX8_carryOut_26 : decode cX8_carryOut 26 = .ok (.ifCond .eq 53, 3) := by decide +kernel
theorem dX8_carryOut_29 : decode cX8_carryOut 29 = .ok (.aload_n 0, 1) := by decide +kernel
theorem dX8_carryOut_30 : decode cX8_carryOut 30 = .ok (.getfield 156, 3) := by decide +kernel
theorem dX8_carryOut_33 : decode cX8_carryOut 33 = .ok (.aload_n 0, 1) := by decide +kernel
theorem dX8_carryOut_34 : decode cX8_carryOut 34 = .ok (.getfield 141, 3) := by decide +kernel
theorem dX8_carryOut_37 : decode cX8_carryOut 37 = .ok (.if_icmp .ge 42, 3) := by decide +kernel
theorem dX8_carryOut_40 : decode cX8_carryOut 40 = .ok (.aload_n 0, 1) := by decide +kernel
theorem dX8_carryOut_41 : decode cX8_carryOut 41 = .ok (.invokevirtual 189, 3) := by decide +kernel
theorem dX8_carryOut_44 : decode cX8_carryOut 44 = .ok (.pop, 1) := by decide +kernel
theorem dX8_carryOut_45 : decode cX8_carryOut 45 = .ok (.aload_n 0, 1) := by decide +kernel
theorem dX8_carryOut_46 : decode cX8_carryOut 46 = .ok (.bipush 59, 2) := by decide +kernel
theorem dX8_carryOut_48 : decode cX8_carryOut 48 = .ok (.invokevirtual 171, 3) := by decide +kernel
theorem dX8_carryOut_51 : decode cX8_carryOut 51 = .ok (.pop, 1) := by decide +kernel
theorem dX8_carryOut_52 : decode cX8_carryOut 52 = .ok (.aload_n 0, 1) := by decide +kernel
theorem dX8_carryOut_53 : decode cX8_carryOut 53 = .ok (.invokevirtual 195, 3) := by decide +kernel
theorem dX8_carryOut_56 : decode cX8_carryOut 56 = .ok (.ifCond .ne 7, 3) := by decide +kernel
theorem dX8_carryOut_59 : decode cX8_carryOut 59 = .ok (.iconst 1, 1) := by decide +kernel
theorem dX8_carryOut_60 : decode cX8_carryOut 60 = .ok (.goto 4, 3) := by decide +kernel
theorem dX8_carryOut_63 : decode cX8_carryOut 63 = .ok (.iconst 0, 1) := by decide +kernel
theorem dX8_carryOut_64 : decode cX8_carryOut 64 = .ok (.istore_n 2, 1) := by decide +kernel
theorem dX8_carryOut_65 : decode cX8_carryOut 65 = .ok (.iload_n 2, 1) := by decide +kernel
theorem dX8_carryOut_66 : decode cX8_carryOut 66 = .ok (.ifCond .eq (-41), 3) := by decide +kernel
theorem dX8_carryOut_69 : decode cX8_carryOut 69 = .ok (.aload_n 0, 1) := by decide +kernel
theorem dX8_carryOut_70 : decode cX8_carryOut 70 = .ok (.invokevirtual 198, 3) := by decide +kernel
theorem dX8_carryOut_73 : decode cX8_carryOut 73 = .ok (.iinc 1 1, 3) := by decide +kernel
theorem dX8_carryOut_76 : decode cX8_carryOut 76 = .ok (.goto (-51), 3) := by decide +kernel
theorem dX8_carryOut_79 : decode cX8_carryOut 79 = .ok (.aload_n 0, 1) := by decide +kernel
theorem dX8_carryOut_80 : decode cX8_carryOut 80 = .ok (.iconst 0, 1) := by decide +kernel
theorem dX8_carryOut_81 : decode cX8_carryOut 81 = .ok (.putfield 141, 3) := by decide +kernel
theorem dX8_carryOut_84 : decode cX8_carryOut 84 = .ok (.iload_n 1, 1) := by decide +kernel
theorem dX8_carryOut_85 : decode cX8_carryOut 85 = .ok (.ireturn, 1) := by decide +kernel
set_option maxRecDepth 20000 in
theorem ggX8_undo_X8_moves : GoodIn wsX8_undo wsX8_moves := goodIn_r _ [7] (by decide +kernel) (by decide +kernel)
set_option maxRecDepth 20000 in
theorem gX8_undo_X8_moves : GoodIn wsX8_undo (va_wsS RX8 32 yX8_moves wsX8_moves) := goodIn_app (goodIn_of _ (by decide +kernel)) ggX8_undo_X8_moves
theorem dX8_undo_0 : decode cX8_undo 0 = .ok (.aload_n 0, 1) := by decide +kernel
theorem dX8_undo_1 : decode cX8_undo 1 = .ok (.getfield 28, 3) := by decide +kernel
theorem dX8_undo_4 : decode cX8_undo 4 = .ok (.ifCond .ne 6, 3) := by decide +kernel
theorem dX8_undo_7 : decode cX8_undo 7 = .ok (.bipush (-5), 2) := by decide +kernel
theorem dX8_undo_9 : decode cX8_undo 9 = .ok (.ireturn, 1) := by decide +kernel
theorem dX8_undo_10 : decode cX8_undo 10 = .ok (.aload_n 0, 1) := by decide +kernel
theorem dX8_undo_11 : decode cX8_undo 11 = .ok (.dup, 1) := by decide +kernel
theorem dX8_undo_12 : decode cX8_undo 12 = .ok (.getfield 28, 3) := by decide +kernel
theorem dX8_undo_15 : decode cX8_undo 15 = .ok (.iconst 1, 1) := by decide +kernel
theorem dX8_undo_16 : decode cX8_undo 16 = .ok (.isub, 1) := by decide +kernel
theorem dX8_undo_17 : decode cX8_undo 17 = .ok (.putfield 28, 3) := by decide +kernel
theorem dX8_undo_20 : decode cX8_undo 20 = .ok (.aload_n 0, 1) := by decide +kernel
theorem dX8_undo_21 : decode cX8_undo 21 = .ok (.getfield 16, 3) := by decide +kernel
theorem dX8_undo_24 : decode cX8_undo 24 = .ok (.aload_n 0, 1) := by decide +kernel
theorem dX8_undo_25 : decode cX8_undo 25 = .ok (.getfield 28, 3) := by decide +kernel
theorem dX8_undo_28 : decode cX8_undo 28 = .ok (.sipush 250, 3) := by decide +kernel
theorem dX8_undo_31 : decode cX8_undo 31 = .ok (.imul, 1) := by decide +kernel
theorem dX8_undo_32 : decode cX8_undo 32 = .ok (.aload_n 0, 1) := by decide +kernel
theorem dX8_undo_33 : decode cX8_undo 33 = .ok (.getfield 7, 3) := by decide +kernel
theorem dX8_undo_36 : decode cX8_undo 36 = .ok (.iconst 0, 1) := by decide +kernel
theorem dX8_undo_37 : decode cX8_undo 37 = .ok (.invokestatic 32, 3) := by decide +kernel
theorem dX8_undo_40 : decode cX8_undo 40 = .ok (.aload_n 0, 1) := by decide +kernel
theorem dX8_undo_41 : decode cX8_undo 41 = .ok (.getfield 28, 3) := by decide +kernel
theorem dX8_undo_44 : decode cX8_undo 44 = .ok (.ireturn, 1) := by decide +kernel
set_option maxRecDepth 20000 in
theorem ggX8_save_X8_within : GoodIn wsX8_save wsX8_within := goodIn_r _ [7] (by decide +kernel) (by decide +kernel)
set_option maxRecDepth 20000 in
theorem gX8_save_X8_within : GoodIn wsX8_save (va_wsS RX8 36 yX8_within wsX8_within) := goodIn_app (goodIn_of _ (by decide +kernel)) ggX8_save_X8_within
set_option maxRecDepth 20000 in
theorem ggX8_save_X8_moves : GoodIn wsX8_save wsX8_moves := goodIn_r _ [10] (by decide +kernel) (by decide +kernel)
set_option maxRecDepth 20000 in
theorem gX8_save_X8_moves : GoodIn wsX8_save (va_wsS RX8 32 yX8_moves wsX8_moves) := goodIn_app (goodIn_of _ (by decide +kernel)) ggX8_save_X8_moves
theorem dX8_save_0 : decode cX8_save 0 = .ok (.iload_n 1, 1) := by decide +kernel
theorem dX8_save_1 : decode cX8_save 1 = .ok (.iconst 0, 1) := by decide +kernel
theorem dX8_save_2 : decode cX8_save 2 = .ok (.iconst 1, 1) := by decide +kernel
theorem dX8_save_3 : decode cX8_save 3 = .ok (.invokestatic 36, 3) := by decide +kernel
theorem dX8_save_6 : decode cX8_save 6 = .ok (.ifCond .ne 6, 3) := by decide +kernel
theorem dX8_save_9 : decode cX8_save 9 = .ok (.bipush (-2), 2) := by decide +kernel
theorem dX8_save_11 : decode cX8_save 11 = .ok (.ireturn, 1) := by decide +kernel
theorem dX8_save_12 : decode cX8_save 12 = .ok (.aload_n 0, 1) := by decide +kernel
theorem dX8_save_13 : decode cX8_save 13 = .ok (.getfield 7, 3) := by decide +kernel
theorem dX8_save_16 : decode cX8_save 16 = .ok (.iconst 0, 1) := by decide +kernel
theorem dX8_save_17 : decode cX8_save 17 = .ok (.aload_n 0, 1) := by decide +kernel
theorem dX8_save_18 : decode cX8_save 18 = .ok (.getfield 19, 3) := by decide +kernel
theorem dX8_save_21 : decode cX8_save 21 = .ok (.sipush 250, 3) := by decide +kernel
theorem dX8_save_24 : decode cX8_save 24 = .ok (.iload_n 1, 1) := by decide +kernel
theorem dX8_save_25 : decode cX8_save 25 = .ok (.imul, 1) := by decide +kernel
theorem dX8_save_26 : decode cX8_save 26 = .ok (.invokestatic 32, 3) := by decide +kernel
theorem dX8_save_29 : decode cX8_save 29 = .ok (.aload_n 0, 1) := by decide +kernel
theorem dX8_save_30 : decode cX8_save 30 = .ok (.getfield 22, 3) := by decide +kernel
theorem dX8_save_33 : decode cX8_save 33 = .ok (.iload_n 1, 1) := by decide +kernel
theorem dX8_save_34 : decode cX8_save 34 = .ok (.iconst 1, 1) := by decide +kernel
theorem dX8_save_35 : decode cX8_save 35 = .ok (.iastore, 1) := by decide +kernel
theorem dX8_save_36 : decode cX8_save 36 = .ok (.aload_n 0, 1) := by decide +kernel
theorem dX8_save_37 : decode cX8_save 37 = .ok (.getfield 7, 3) := by decide +kernel
theorem dX8_save_40 : decode cX8_save 40 = .ok (.iconst 4, 1) := by decide +kernel
theorem dX8_save_41 : decode cX8_save 41 = .ok (.iaload, 1) := by decide +kernel
theorem dX8_save_42 : decode cX8_save 42 = .ok (.ireturn, 1) := by decide +kernel
set_option maxRecDepth 20000 in
theorem ggX8_restore_X8_within : GoodIn wsX8_restore wsX8_within := goodIn_r _ [7] (by decide +kernel) (by decide +kernel)
set_option maxRecDepth 20000 in
theorem gX8_restore_X8_within : GoodIn wsX8_restore (va_wsS RX8 36 yX8_within wsX8_within) := goodIn_app (goodIn_of _ (by decide +kernel)) ggX8_restore_X8_within
set_option maxRecDepth 20000 in
theorem ggX8_restore_X8_record : GoodIn wsX8_restore wsX8_record := goodIn_r _ [11, 12, 13, 3, 14, 15, 6, 16, 17, 18, 19, 20, 21, 22, 23, 24, 25, 26, 27, 28, 29, 30] (by decide +kernel) (by decide +kernel)
set_option maxRecDepth 20000 in
theorem gX8_restore_X8_record : GoodIn wsX8_restore (wsV RX8 98 RX8 yX8_record wsX8_record) := goodIn_app (goodIn_of _ (by decide +kernel)) ggX8_restore_X8_record
set_option maxRecDepth 20000 in
theorem ggX8_restore_X8_moves : GoodIn wsX8_restore wsX8_moves := goodIn_r _ [16] (by decide +kernel) (by decide +kernel)
set_option maxRecDepth 20000 in
theorem gX8_restore_X8_moves : GoodIn wsX8_restore (va_wsS RX8 32 yX8_moves wsX8_moves) := goodIn_app (goodIn_of _ (by decide +kernel)) ggX8_restore_X8_moves
theorem dX8_restore_0 : decode cX8_restore 0 = .ok (.iload_n 1, 1) := by decide +kernel
theorem dX8_restore_1 : decode cX8_restore 1 = .ok (.iconst 0, 1) := by decide +kernel
theorem dX8_restore_2 : decode cX8_restore 2 = .ok (.iconst 1, 1) := by decide +kernel
theorem dX8_restore_3 : decode cX8_restore 3 = .ok (.invokestatic 36, 3) := by decide +kernel
theorem dX8_restore_6 : decode cX8_restore 6 = .ok (.ifCond .ne 6, 3) := by decide +kernel
theorem dX8_restore_9 : decode cX8_restore 9 = .ok (.bipush (-2), 2) := by decide +kernel
theorem dX8_restore_11 : decode cX8_restore 11 = .ok (.ireturn, 1) := by decide +kernel
theorem dX8_restore_12 : decode cX8_restore 12 = .ok (.aload_n 0, 1) := by decide +kernel
theorem dX8_restore_13 : decode cX8_restore 13 = .ok (.getfield 22, 3) := by decide +kernel
theorem dX8_restore_16 : decode cX8_restore 16 = .ok (.iload_n 1, 1) := by decide +kernel
theorem dX8_restore_17 : decode cX8_restore 17 = .ok (.iaload, 1) := by decide +kernel
theorem dX8_restore_18 : decode cX8_restore 18 = .ok (.ifCond .ne 6, 3) := by decide +kernel
theorem dX8_restore_21 : decode cX8_restore 21 = .ok (.bipush (-5), 2) := by decide +kernel
theorem dX8_restore_23 : decode cX8_restore 23 = .ok (.ireturn, 1) := by decide +kernel
theorem dX8_restore_24 : decode cX8_restore 24 = .ok (.aload_n 0, 1) := by decide +kernel
theorem dX8_restore_25 : decode cX8_restore 25 = .ok (.invokevirtual 98, 3) := by decide +kernel
theorem dX8_restore_28 : decode cX8_restore 28 = .ok (.aload_n 0, 1) := by decide +kernel
theorem dX8_restore_29 : decode cX8_restore 29 = .ok (.getfield 19, 3) := by decide +kernel
theorem dX8_restore_32 : decode cX8_restore 32 = .ok (.sipush 250, 3) := by decide +kernel
theorem dX8_restore_35 : decode cX8_restore 35 = .ok (.iload_n 1, 1) := by decide +kernel
theorem dX8_restore_36 : decode cX8_restore 36 = .ok (.imul, 1) := by decide +kernel
theorem dX8_restore_37 : decode cX8_restore 37 = .ok (.aload_n 0, 1) := by decide +kernel
theorem dX8_restore_38 : decode cX8_restore 38 = .ok (.getfield 7, 3) := by decide +kernel
theorem dX8_restore_41 : decode cX8_restore 41 = .ok (.iconst 0, 1) := by decide +kernel
theorem dX8_restore_42 : decode cX8_restore 42 = .ok (.invokestatic 32, 3) := by decide +kernel
theorem dX8_restore_45 : decode cX8_restore 45 = .ok (.aload_n 0, 1) := by decide +kernel
theorem dX8_restore_46 : decode cX8_restore 46 = .ok (.getfield 7, 3) := by decide +kernel
theorem dX8_restore_49 : decode cX8_restore 49 = .ok (.iconst 4, 1) := by decide +kernel
theorem dX8_restore_50 : decode cX8_restore 50 = .ok (.iaload, 1) := by decide +kernel
theorem dX8_restore_51 : decode cX8_restore 51 = .ok (.ireturn, 1) := by decide +kernel
theorem dJ9_max_7cf53_0 : decode cJ9_max_7cf53 0 = .ok (.iload_n 0, 1) := by decide +kernel
theorem dJ9_max_7cf53_1 : decode cJ9_max_7cf53 1 = .ok (.iload_n 1, 1) := by decide +kernel
theorem dJ9_max_7cf53_2 : decode cJ9_max_7cf53 2 = .ok (.if_icmp .lt 7, 3) := by decide +kernel
theorem dJ9_max_7cf53_5 : decode cJ9_max_7cf53 5 = .ok (.iload_n 0, 1) := by decide +kernel
theorem dJ9_max_7cf53_6 : decode cJ9_max_7cf53 6 = .ok (.goto 4, 3) := by decide +kernel
theorem dJ9_max_7cf53_9 : decode cJ9_max_7cf53 9 = .ok (.iload_n 1, 1) := by decide +kernel
theorem dJ9_max_7cf53_10 : decode cJ9_max_7cf53 10 = .ok (.ireturn, 1) := by decide +kernel
theorem dJ9_min_7cf53_0 : decode cJ9_min_7cf53 0 = .ok (.iload_n 0, 1) := by decide +kernel
theorem dJ9_min_7cf53_1 : decode cJ9_min_7cf53 1 = .ok (.iload_n 1, 1) := by decide +kernel
theorem dJ9_min_7cf53_2 : decode cJ9_min_7cf53 2 = .ok (.if_icmp .gt 7, 3) := by decide +kernel
theorem dJ9_min_7cf53_5 : decode cJ9_min_7cf53 5 = .ok (.iload_n 0, 1) := by decide +kernel
theorem dJ9_min_7cf53_6 : decode cJ9_min_7cf53 6 = .ok (.goto 4, 3) := by decide +kernel
theorem dJ9_min_7cf53_9 : decode cJ9_min_7cf53 9 = .ok (.iload_n 1, 1) := by decide +kernel
theorem dJ9_min_7cf53_10 : decode cJ9_min_7cf53 10 = .ok (.ireturn, 1) := by decide +kernel
