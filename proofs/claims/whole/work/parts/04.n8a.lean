theorem dX8_init_0 : decode cX8_init 0 = .ok (.aload_n 0, 1) := by decide +kernel
theorem dX8_init_1 : decode cX8_init 1 = .ok (.invokespecial 1, 3) := by decide +kernel
theorem dX8_init_4 : decode cX8_init 4 = .ok (.aload_n 0, 1) := by decide +kernel
theorem dX8_init_5 : decode cX8_init 5 = .ok (.sipush 250, 3) := by decide +kernel
theorem dX8_init_8 : decode cX8_init 8 = .ok (.newarray .int, 2) := by decide +kernel
theorem dX8_init_10 : decode cX8_init 10 = .ok (.putfield 7, 3) := by decide +kernel
theorem dX8_init_13 : decode cX8_init 13 = .ok (.aload_n 0, 1) := by decide +kernel
theorem dX8_init_14 : decode cX8_init 14 = .ok (.sipush 250, 3) := by decide +kernel
theorem dX8_init_17 : decode cX8_init 17 = .ok (.newarray .int, 2) := by decide +kernel
theorem dX8_init_19 : decode cX8_init 19 = .ok (.putfield 13, 3) := by decide +kernel
theorem dX8_init_22 : decode cX8_init 22 = .ok (.aload_n 0, 1) := by decide +kernel
theorem dX8_init_23 : decode cX8_init 23 = .ok (.sipush 1500, 3) := by decide +kernel
theorem dX8_init_26 : decode cX8_init 26 = .ok (.newarray .int, 2) := by decide +kernel
theorem dX8_init_28 : decode cX8_init 28 = .ok (.putfield 16, 3) := by decide +kernel
theorem dX8_init_31 : decode cX8_init 31 = .ok (.aload_n 0, 1) := by decide +kernel
theorem dX8_init_32 : decode cX8_init 32 = .ok (.sipush 500, 3) := by decide +kernel
theorem dX8_init_35 : decode cX8_init 35 = .ok (.newarray .int, 2) := by decide +kernel
theorem dX8_init_37 : decode cX8_init 37 = .ok (.putfield 19, 3) := by decide +kernel
theorem dX8_init_40 : decode cX8_init 40 = .ok (.aload_n 0, 1) := by decide +kernel
theorem dX8_init_41 : decode cX8_init 41 = .ok (.iconst 2, 1) := by decide +kernel
theorem dX8_init_42 : decode cX8_init 42 = .ok (.newarray .int, 2) := by decide +kernel
theorem dX8_init_44 : decode cX8_init 44 = .ok (.putfield 22, 3) := by decide +kernel
theorem dX8_init_47 : decode cX8_init 47 = .ok (.aload_n 0, 1) := by decide +kernel
theorem dX8_init_48 : decode cX8_init 48 = .ok (.bipush 80, 2) := by decide +kernel
theorem dX8_init_50 : decode cX8_init 50 = .ok (.newarray .int, 2) := by decide +kernel
theorem dX8_init_52 : decode cX8_init 52 = .ok (.putfield 25, 3) := by decide +kernel
theorem dX8_init_55 : decode cX8_init 55 = .ok (.aload_n 0, 1) := by decide +kernel
theorem dX8_init_56 : decode cX8_init 56 = .ok (.getfield 7, 3) := by decide +kernel
theorem dX8_init_59 : decode cX8_init 59 = .ok (.iconst 0, 1) := by decide +kernel
theorem dX8_init_60 : decode cX8_init 60 = .ok (.bipush 20, 2) := by decide +kernel
theorem dX8_init_62 : decode cX8_init 62 = .ok (.iastore, 1) := by decide +kernel
theorem dX8_init_63 : decode cX8_init 63 = .ok (.aload_n 0, 1) := by decide +kernel
theorem dX8_init_64 : decode cX8_init 64 = .ok (.getfield 7, 3) := by decide +kernel
theorem dX8_init_67 : decode cX8_init 67 = .ok (.iconst 1, 1) := by decide +kernel
theorem dX8_init_68 : decode cX8_init 68 = .ok (.iconst 2, 1) := by decide +kernel
theorem dX8_init_69 : decode cX8_init 69 = .ok (.iastore, 1) := by decide +kernel
theorem dX8_init_70 : decode cX8_init 70 = .ok (.aload_n 0, 1) := by decide +kernel
theorem dX8_init_71 : decode cX8_init 71 = .ok (.getfield 7, 3) := by decide +kernel
theorem dX8_init_74 : decode cX8_init 74 = .ok (.iconst 2, 1) := by decide +kernel
theorem dX8_init_75 : decode cX8_init 75 = .ok (.bipush 60, 2) := by decide +kernel
theorem dX8_init_77 : decode cX8_init 77 = .ok (.iastore, 1) := by decide +kernel
theorem dX8_init_78 : decode cX8_init 78 = .ok (.return_, 1) := by decide +kernel
theorem dX8_moves_0 : decode cX8_moves 0 = .ok (.iconst 0, 1) := by decide +kernel
theorem dX8_moves_1 : decode cX8_moves 1 = .ok (.istore 4, 2) := by decide +kernel
theorem dX8_moves_3 : decode cX8_moves 3 = .ok (.iload 4, 2) := by decide +kernel
theorem dX8_moves_5 : decode cX8_moves 5 = .ok (.sipush 250, 3) := by decide +kernel
theorem dX8_moves_8 : decode cX8_moves 8 = .ok (.if_icmp .ge 21, 3) := by decide +kernel
theorem dX8_moves_11 : decode cX8_moves 11 = .ok (.aload_n 2, 1) := by decide +kernel
theorem dX8_moves_12 : decode cX8_moves 12 = .ok (.iload_n 3, 1) := by decide +kernel
theorem dX8_moves_13 : decode cX8_moves 13 = .ok (.iload 4, 2) := by decide +kernel
theorem dX8_moves_15 : decode cX8_moves 15 = .ok (.iadd, 1) := by decide +kernel
theorem dX8_moves_16 : decode cX8_moves 16 = .ok (.aload_n 0, 1) := by decide +kernel
theorem dX8_moves_17 : decode cX8_moves 17 = .ok (.iload_n 1, 1) := by decide +kernel
theorem dX8_moves_18 : decode cX8_moves 18 = .ok (.iload 4, 2) := by decide +kernel
theorem dX8_moves_20 : decode cX8_moves 20 = .ok (.iadd, 1) := by decide +kernel
theorem dX8_moves_21 : decode cX8_moves 21 = .ok (.iaload, 1) := by decide +kernel
theorem dX8_moves_22 : decode cX8_moves 22 = .ok (.iastore, 1) := by decide +kernel
theorem dX8_moves_23 : decode cX8_moves 23 = .ok (.iinc 4 1, 3) := by decide +kernel
theorem dX8_moves_26 : decode cX8_moves 26 = .ok (.goto (-23), 3) := by decide +kernel
theorem dX8_moves_29 : decode cX8_moves 29 = .ok (.return_, 1) := by decide +kernel
theorem dX8_within_0 : decode cX8_within 0 = .ok (.iload_n 0, 1) := by decide +kernel
theorem dX8_within_1 : decode cX8_within 1 = .ok (.iload_n 1, 1) := by decide +kernel
theorem dX8_within_2 : decode cX8_within 2 = .ok (.if_icmp .lt 12, 3) := by decide +kernel
theorem dX8_within_5 : decode cX8_within 5 = .ok (.iload_n 0, 1) := by decide +kernel
theorem dX8_within_6 : decode cX8_within 6 = .ok (.iload_n 2, 1) := by decide +kernel
theorem dX8_within_7 : decode cX8_within 7 = .ok (.if_icmp .gt 7, 3) := by decide +kernel
theorem dX8_within_10 : decode cX8_within 10 = .ok (.iconst 1, 1) := by decide +kernel
theorem dX8_within_11 : decode cX8_within 11 = .ok (.goto 4, 3) := by decide +kernel
theorem dX8_within_14 : decode cX8_within 14 = .ok (.iconst 0, 1) := by decide +kernel
theorem dX8_within_15 : decode cX8_within 15 = .ok (.ireturn, 1) := by decide +kernel
set_option maxRecDepth 20000 in
theorem ggX8_record_X8_moves : GoodIn wsX8_record wsX8_moves := goodIn_r _ [7] (by decide +kernel) (by decide +kernel)
set_option maxRecDepth 20000 in
theorem gX8_record_X8_moves : GoodIn wsX8_record (va_wsS RX8 32 yX8_moves wsX8_moves) := goodIn_app (goodIn_of _ (by decide +kernel)) ggX8_record_X8_moves
theorem dX8_record_0 : decode cX8_record 0 = .ok (.aload_n 0, 1) := by decide +kernel
theorem dX8_record_1 : decode cX8_record 1 = .ok (.getfield 28, 3) := by decide +kernel
theorem dX8_record_4 : decode cX8_record 4 = .ok (.bipush 6, 2) := by decide +kernel
theorem dX8_record_6 : decode cX8_record 6 = .ok (.if_icmp .ne 44, 3) := by decide +kernel
theorem dX8_record_9 : decode cX8_record 9 = .ok (.iconst 0, 1) := by decide +kernel
theorem dX8_record_10 : decode cX8_record 10 = .ok (.istore_n 1, 1) := by decide +kernel
theorem dX8_record_11 : decode cX8_record 11 = .ok (.iload_n 1, 1) := by decide +kernel
theorem dX8_record_12 : decode cX8_record 12 = .ok (.sipush 1250, 3) := by decide +kernel
theorem dX8_record_15 : decode cX8_record 15 = .ok (.if_icmp .ge 25, 3) := by decide +kernel
theorem dX8_record_18 : decode cX8_record 18 = .ok (.aload_n 0, 1) := by decide +kernel
theorem dX8_record_19 : decode cX8_record 19 = .ok (.getfield 16, 3) := by decide +kernel
theorem dX8_record_22 : decode cX8_record 22 = .ok (.iload_n 1, 1) := by decide +kernel
theorem dX8_record_23 : decode cX8_record 23 = .ok (.aload_n 0, 1) := by decide +kernel
theorem dX8_record_24 : decode cX8_record 24 = .ok (.getfield 16, 3) := by decide +kernel
theorem dX8_record_27 : decode cX8_record 27 = .ok (.iload_n 1, 1) := by decide +kernel
theorem dX8_record_28 : decode cX8_record 28 = .ok (.sipush 250, 3) := by decide +kernel
theorem dX8_record_31 : decode cX8_record 31 = .ok (.iadd, 1) := by decide +kernel
theorem dX8_record_32 : decode cX8_record 32 = .ok (.iaload, 1) := by decide +kernel
theorem dX8_record_33 : decode cX8_record 33 = .ok (.iastore, 1) := by decide +kernel
theorem dX8_record_34 : decode cX8_record 34 = .ok (.iinc 1 1, 3) := by decide +kernel
theorem dX8_record_37 : decode cX8_record 37 = .ok (.goto (-26), 3) := by decide +kernel
theorem dX8_record_40 : decode cX8_record 40 = .ok (.aload_n 0, 1) := by decide +kernel
theorem dX8_record_41 : decode cX8_record 41 = .ok (.dup, 1) := by decide +kernel
theorem dX8_record_42 : decode cX8_record 42 = .ok (.getfield 28, 3) := by decide +kernel
theorem dX8_record_45 : decode cX8_record 45 = .ok (.iconst 1, 1) := by decide +kernel
theorem dX8_record_46 : decode cX8_record 46 = .ok (.isub, 1) := by decide +kernel
theorem dX8_record_47 : decode cX8_record 47 = .ok (.putfield 28, 3) := by decide +kernel
theorem dX8_record_50 : decode cX8_record 50 = .ok (.aload_n 0, 1) := by decide +kernel
theorem dX8_record_51 : decode cX8_record 51 = .ok (.getfield 7, 3) := by decide +kernel
theorem dX8_record_54 : decode cX8_record 54 = .ok (.iconst 0, 1) := by decide +kernel
theorem dX8_record_55 : decode cX8_record 55 = .ok (.aload_n 0, 1) := by decide +kernel
theorem dX8_record_56 : decode cX8_record 56 = .ok (.getfield 16, 3) := by decide +kernel
theorem dX8_record_59 : decode cX8_record 59 = .ok (.aload_n 0, 1) := by decide +kernel
theorem dX8_record_60 : decode cX8_record 60 = .ok (.getfield 28, 3) := by decide +kernel
theorem dX8_record_63 : decode cX8_record 63 = .ok (.sipush 250, 3) := by decide +kernel
theorem dX8_record_66 : decode cX8_record 66 = .ok (.imul, 1) := by decide +kernel
theorem dX8_record_67 : decode cX8_record 67 = .ok (.invokestatic 32, 3) := by decide +kernel
theorem dX8_record_70 : decode cX8_record 70 = .ok (.aload_n 0, 1) := by decide +kernel
theorem dX8_record_71 : decode cX8_record 71 = .ok (.dup, 1) := by decide +kernel
theorem dX8_record_72 : decode cX8_record 72 = .ok (.getfield 28, 3) := by decide +kernel
theorem dX8_record_75 : decode cX8_record 75 = .ok (.iconst 1, 1) := by decide +kernel
theorem dX8_record_76 : decode cX8_record 76 = .ok (.iadd, 1) := by decide +kernel
theorem dX8_record_77 : decode cX8_record 77 = .ok (.putfield 28, 3) := by decide +kernel
theorem dX8_record_80 : decode cX8_record 80 = .ok (.return_, 1) := by decide +kernel
set_option maxRecDepth 20000 in
theorem ggX8_isStand_X8_within : GoodIn wsX8_isStand wsX8_within := goodIn_r _ [5] (by decide +kernel) (by decide +kernel)
set_option maxRecDepth 20000 in
theorem gX8_isStand_X8_within : GoodIn wsX8_isStand (va_wsS RX8 36 yX8_within wsX8_within) := goodIn_app (goodIn_of _ (by decide +kernel)) ggX8_isStand_X8_within
theorem dX8_isStand_0 : decode cX8_isStand 0 = .ok (.iload_n 1, 1) := by decide +kernel
theorem dX8_isStand_1 : decode cX8_isStand 1 = .ok (.iconst 0, 1) := by decide +kernel
theorem dX8_isStand_2 : decode cX8_isStand 2 = .ok (.aload_n 0, 1) := by decide +kernel
theorem dX8_isStand_3 : decode cX8_isStand 3 = .ok (.getfield 7, 3) := by decide +kernel
theorem dX8_isStand_6 : decode cX8_isStand 6 = .ok (.iconst 4, 1) := by decide +kernel
theorem dX8_isStand_7 : decode cX8_isStand 7 = .ok (.iaload, 1) := by decide +kernel
theorem dX8_isStand_8 : decode cX8_isStand 8 = .ok (.iconst 1, 1) := by decide +kernel
theorem dX8_isStand_9 : decode cX8_isStand 9 = .ok (.isub, 1) := by decide +kernel
theorem dX8_isStand_10 : decode cX8_isStand 10 = .ok (.invokestatic 36, 3) := by decide +kernel
theorem dX8_isStand_13 : decode cX8_isStand 13 = .ok (.ireturn, 1) := by decide +kernel
set_option maxRecDepth 20000 in
theorem ggX8_isCrew_X8_within : GoodIn wsX8_isCrew wsX8_within := goodIn_r _ [5] (by decide +kernel) (by decide +kernel)
set_option maxRecDepth 20000 in
theorem gX8_isCrew_X8_within : GoodIn wsX8_isCrew (va_wsS RX8 36 yX8_within wsX8_within) := goodIn_app (goodIn_of _ (by decide +kernel)) ggX8_isCrew_X8_within
theorem dX8_isCrew_0 : decode cX8_isCrew 0 = .ok (.iload_n 1, 1) := by decide +kernel
theorem dX8_isCrew_1 : decode cX8_isCrew 1 = .ok (.iconst 0, 1) := by decide +kernel
theorem dX8_isCrew_2 : decode cX8_isCrew 2 = .ok (.aload_n 0, 1) := by decide +kernel
theorem dX8_isCrew_3 : decode cX8_isCrew 3 = .ok (.getfield 7, 3) := by decide +kernel
theorem dX8_isCrew_6 : decode cX8_isCrew 6 = .ok (.iconst 5, 1) := by decide +kernel
theorem dX8_isCrew_7 : decode cX8_isCrew 7 = .ok (.iaload, 1) := by decide +kernel
theorem dX8_isCrew_8 : decode cX8_isCrew 8 = .ok (.iconst 1, 1) := by decide +kernel
theorem dX8_isCrew_9 : decode cX8_isCrew 9 = .ok (.isub, 1) := by decide +kernel
theorem dX8_isCrew_10 : decode cX8_isCrew 10 = .ok (.invokestatic 36, 3) := by decide +kernel
theorem dX8_isCrew_13 : decode cX8_isCrew 13 = .ok (.ireturn, 1) := by decide +kernel
theorem dX8_part_0 : decode cX8_part 0 = .ok (.aload_n 0, 1) := by decide +kernel
theorem dX8_part_1 : decode cX8_part 1 = .ok (.getfield 7, 3) := by decide +kernel
theorem dX8_part_4 : decode cX8_part 4 = .ok (.bipush 8, 2) := by decide +kernel
theorem dX8_part_6 : decode cX8_part 6 = .ok (.bipush 10, 2) := by decide +kernel
theorem dX8_part_8 : decode cX8_part 8 = .ok (.iload_n 1, 1) := by decide +kernel
theorem dX8_part_9 : decode cX8_part 9 = .ok (.imul, 1) := by decide +kernel
theorem dX8_part_10 : decode cX8_part 10 = .ok (.iadd, 1) := by decide +kernel
theorem dX8_part_11 : decode cX8_part 11 = .ok (.iload_n 2, 1) := by decide +kernel
theorem dX8_part_12 : decode cX8_part 12 = .ok (.iadd, 1) := by decide +kernel
theorem dX8_part_13 : decode cX8_part 13 = .ok (.iaload, 1) := by decide +kernel
theorem dX8_part_14 : decode cX8_part 14 = .ok (.ireturn, 1) := by decide +kernel
theorem dX8_setPart_0 : decode cX8_setPart 0 = .ok (.aload_n 0, 1) := by decide +kernel
theorem dX8_setPart_1 : decode cX8_setPart 1 = .ok (.getfield 7, 3) := by decide +kernel
theorem dX8_setPart_4 : decode cX8_setPart 4 = .ok (.bipush 8, 2) := by decide +kernel
theorem dX8_setPart_6 : decode cX8_setPart 6 = .ok (.bipush 10, 2) := by decide +kernel
theorem dX8_setPart_8 : decode cX8_setPart 8 = .ok (.iload_n 1, 1) := by decide +kernel
theorem dX8_setPart_9 : decode cX8_setPart 9 = .ok (.imul, 1) := by decide +kernel
theorem dX8_setPart_10 : decode cX8_setPart 10 = .ok (.iadd, 1) := by decide +kernel
theorem dX8_setPart_11 : decode cX8_setPart 11 = .ok (.iload_n 2, 1) := by decide +kernel
theorem dX8_setPart_12 : decode cX8_setPart 12 = .ok (.iadd, 1) := by decide +kernel
theorem dX8_setPart_13 : decode cX8_setPart 13 = .ok (.iload_n 3, 1) := by decide +kernel
theorem dX8_setPart_14 : decode cX8_setPart 14 = .ok (.iastore, 1) := by decide +kernel
theorem dX8_setPart_15 : decode cX8_setPart 15 = .ok (.return_, 1) := by decide +kernel
theorem dX8_ofCrewPart_0 : decode cX8_ofCrewPart 0 = .ok (.aload_n 0, 1) := by decide +kernel
theorem dX8_ofCrewPart_1 : decode cX8_ofCrewPart 1 = .ok (.getfield 7, 3) := by decide +kernel
theorem dX8_ofCrewPart_4 : decode cX8_ofCrewPart 4 = .ok (.sipush 208, 3) := by decide +kernel
theorem dX8_ofCrewPart_7 : decode cX8_ofCrewPart 7 = .ok (.bipush 7, 2) := by decide +kernel
theorem dX8_ofCrewPart_9 : decode cX8_ofCrewPart 9 = .ok (.iload_n 1, 1) := by decide +kernel
theorem dX8_ofCrewPart_10 : decode cX8_ofCrewPart 10 = .ok (.imul, 1) := by decide +kernel
theorem dX8_ofCrewPart_11 : decode cX8_ofCrewPart 11 = .ok (.iadd, 1) := by decide +kernel
theorem dX8_ofCrewPart_12 : decode cX8_ofCrewPart 12 = .ok (.iload_n 2, 1) := by decide +kernel
theorem dX8_ofCrewPart_13 : decode cX8_ofCrewPart 13 = .ok (.iadd, 1) := by decide +kernel
theorem dX8_ofCrewPart_14 : decode cX8_ofCrewPart 14 = .ok (.iaload, 1) := by decide +kernel
theorem dX8_ofCrewPart_15 : decode cX8_ofCrewPart 15 = .ok (.ireturn, 1) := by decide +kernel
theorem dX8_setCrew_0 : decode cX8_setCrew 0 = .ok (.aload_n 0, 1) := by decide +kernel
theorem dX8_setCrew_1 : decode cX8_setCrew 1 = .ok (.getfield 7, 3) := by decide +kernel
theorem dX8_setCrew_4 : decode cX8_setCrew 4 = .ok (.sipush 208, 3) := by decide +kernel
theorem dX8_setCrew_7 : decode cX8_setCrew 7 = .ok (.bipush 7, 2) := by decide +kernel
theorem dX8_setCrew_9 : decode cX8_setCrew 9 = .ok (.iload_n 1, 1) := by decide +kernel
theorem dX8_setCrew_10 : decode cX8_setCrew 10 = .ok (.imul, 1) := by decide +kernel
theorem dX8_setCrew_11 : decode cX8_setCrew 11 = .ok (.iadd, 1) := by decide +kernel
theorem dX8_setCrew_12 : decode cX8_setCrew 12 = .ok (.iload_n 2, 1) := by decide +kernel
theorem dX8_setCrew_13 : decode cX8_setCrew 13 = .ok (.iadd, 1) := by decide +kernel
theorem dX8_setCrew_14 : decode cX8_setCrew 14 = .ok (.iload_n 3, 1) := by decide +kernel
theorem dX8_setCrew_15 : decode cX8_setCrew 15 = .ok (.iastore, 1) := by decide +kernel
theorem dX8_setCrew_16 : decode cX8_setCrew 16 = .ok (.return_, 1) := by decide +kernel
set_option maxRecDepth 20000 in
theorem ggX8_isHow_X8_part : GoodIn wsX8_isHow wsX8_part := goodIn_r _ [5, 6, 7, 8, 9, 10, 11, 12, 13, 14, 15, 16, 17, 18, 19, 20] (by decide +kernel) (by decide +kernel)
set_option maxRecDepth 20000 in
theorem gX8_isHow_X8_part : GoodIn wsX8_isHow (wsV RX8 40 RX8 yX8_part wsX8_part) := goodIn_app (goodIn_of _ (by decide +kernel)) ggX8_isHow_X8_part
theorem dX8_isHow_0 : decode cX8_isHow 0 = .ok (.aload_n 0, 1) := by decide +kernel
theorem dX8_isHow_1 : decode cX8_isHow 1 = .ok (.iload_n 1, 1) := by decide +kernel
theorem dX8_isHow_2 : decode cX8_isHow 2 = .ok (.iconst 4, 1) := by decide +kernel
theorem dX8_isHow_3 : decode cX8_isHow 3 = .ok (.invokevirtual 40, 3) := by decide +kernel
theorem dX8_isHow_6 : decode cX8_isHow 6 = .ok (.iload_n 2, 1) := by decide +kernel
theorem dX8_isHow_7 : decode cX8_isHow 7 = .ok (.if_icmp .ne 7, 3) := by decide +kernel
theorem dX8_isHow_10 : decode cX8_isHow 10 = .ok (.iconst 1, 1) := by decide +kernel
theorem dX8_isHow_11 : decode cX8_isHow 11 = .ok (.goto 4, 3) := by decide +kernel
theorem dX8_isHow_14 : decode cX8_isHow 14 = .ok (.iconst 0, 1) := by decide +kernel
theorem dX8_isHow_15 : decode cX8_isHow 15 = .ok (.ireturn, 1) := by decide +kernel
set_option maxRecDepth 20000 in
theorem ggX8_withHow_X8_isHow : GoodIn wsX8_withHow wsX8_isHow := goodIn_r _ [6, 7, 8, 9, 5, 10, 1, 11, 12, 13, 14, 15, 16, 17, 18, 19, 20, 21, 22, 23, 24] (by decide +kernel) (by decide +kernel)
set_option maxRecDepth 20000 in
theorem gX8_withHow_X8_isHow : GoodIn wsX8_withHow (wsV RX8 44 RX8 yX8_isHow wsX8_isHow) := goodIn_app (goodIn_of _ (by decide +kernel)) ggX8_withHow_X8_isHow
theorem dX8_withHow_0 : decode cX8_withHow 0 = .ok (.iconst 0, 1) := by decide +kernel
theorem dX8_withHow_1 : decode cX8_withHow 1 = .ok (.istore_n 2, 1) := by decide +kernel
theorem dX8_withHow_2 : decode cX8_withHow 2 = .ok (.iconst 0, 1) := by decide +kernel
theorem dX8_withHow_3 : decode cX8_withHow 3 = .ok (.istore_n 3, 1) := by decide +kernel
theorem dX8_withHow_4 : decode cX8_withHow 4 = .ok (.iload_n 3, 1) := by decide +kernel
theorem dX8_withHow_5 : decode cX8_withHow 5 = .ok (.aload_n 0, 1) := by decide +kernel
theorem dX8_withHow_6 : decode cX8_withHow 6 = .ok (.getfield 7, 3) := by decide +kernel
theorem dX8_withHow_9 : decode cX8_withHow 9 = .ok (.iconst 4, 1) := by decide +kernel
theorem dX8_withHow_10 : decode cX8_withHow 10 = .ok (.iaload, 1) := by decide +kernel
theorem dX8_withHow_11 : decode cX8_withHow 11 = .ok (.if_icmp .ge 26, 3) := by decide +kernel
theorem dX8_withHow_14 : decode cX8_withHow 14 = .ok (.iload_n 2, 1) := by decide +kernel
theorem dX8_withHow_15 : decode cX8_withHow 15 = .ok (.aload_n 0, 1) := by decide +kernel
theorem dX8_withHow_16 : decode cX8_withHow 16 = .ok (.iload_n 3, 1) := by decide +kernel
theorem dX8_withHow_17 : decode cX8_withHow 17 = .ok (.iload_n 1, 1) := by decide +kernel
theorem dX8_withHow_18 : decode cX8_withHow 18 = .ok (.invokevirtual 44, 3) := by decide +kernel
theorem dX8_withHow_21 : decode cX8_withHow 21 = .ok (.ifCond .eq 7, 3) := by decide +kernel
theorem dX8_withHow_24 : decode cX8_withHow 24 = .ok (.iconst 1, 1) := by decide +kernel
theorem dX8_withHow_25 : decode cX8_withHow 25 = .ok (.goto 4, 3) := by decide +kernel
theorem dX8_withHow_28 : decode cX8_withHow 28 = .ok (.iconst 0, 1) := by decide +kernel
theorem dX8_withHow_29 : decode cX8_withHow 29 = .ok (.iadd, 1) := by decide +kernel
theorem dX8_withHow_30 : decode cX8_withHow 30 = .ok (.istore_n 2, 1) := by decide +kernel
theorem dX8_withHow_31 : decode cX8_withHow 31 = .ok (.iinc 3 1, 3) := by decide +kernel
theorem dX8_withHow_34 : decode cX8_withHow 34 = .ok (.goto (-30), 3) := by decide +kernel
theorem dX8_withHow_37 : decode cX8_withHow 37 = .ok (.iload_n 2, 1) := by decide +kernel
theorem dX8_withHow_38 : decode cX8_withHow 38 = .ok (.ireturn, 1) := by decide +kernel
set_option maxRecDepth 20000 in
theorem ggX8_standingOn_X8_part : GoodIn wsX8_standingOn wsX8_part := goodIn_r _ [6, 1, 11, 12, 13, 14, 15, 16, 17, 18, 19, 20, 21, 22, 23, 24] (by decide +kernel) (by decide +kernel)
set_option maxRecDepth 20000 in
theorem gX8_standingOn_X8_part : GoodIn wsX8_standingOn (wsV RX8 40 RX8 yX8_part wsX8_part) := goodIn_app (goodIn_of _ (by decide +kernel)) ggX8_standingOn_X8_part
set_option maxRecDepth 20000 in
theorem ggX8_standingOn_X8_isHow : GoodIn wsX8_standingOn wsX8_isHow := goodIn_r _ [10, 2, 3, 4, 5, 6, 1, 11, 12, 13, 14, 15, 16, 17, 18, 19, 20, 21, 22, 23, 24] (by decide +kernel) (by decide +kernel)
set_option maxRecDepth 20000 in
theorem gX8_standingOn_X8_isHow : GoodIn wsX8_standingOn (wsV RX8 44 RX8 yX8_isHow wsX8_isHow) := goodIn_app (goodIn_of _ (by decide +kernel)) ggX8_standingOn_X8_isHow
theorem dX8_standingOn_0 : decode cX8_standingOn 0 = .ok (.iconst 0, 1) := by decide +kernel
theorem dX8_standingOn_1 : decode cX8_standingOn 1 = .ok (.istore_n 2, 1) := by decide +kernel
theorem dX8_standingOn_2 : decode cX8_standingOn 2 = .ok (.iconst 0, 1) := by decide +kernel
theorem dX8_standingOn_3 : decode cX8_standingOn 3 = .ok (.istore_n 3, 1) := by decide +kernel
theorem dX8_standingOn_4 : decode cX8_standingOn 4 = .ok (.iload_n 3, 1) := by decide +kernel
theorem dX8_standingOn_5 : decode cX8_standingOn 5 = .ok (.aload_n 0, 1) := by decide +kernel
theorem dX8_standingOn_6 : decode cX8_standingOn 6 = .ok (.getfield 7, 3) := by decide +kernel
theorem dX8_standingOn_9 : decode cX8_standingOn 9 = .ok (.iconst 4, 1) := by decide +kernel
theorem dX8_standingOn_10 : decode cX8_standingOn 10 = .ok (.iaload, 1) := by decide +kernel
theorem dX8_standingOn_11 : decode cX8_standingOn 11 = .ok (.if_icmp .ge 39, 3) := by decide +kernel
theorem dX8_standingOn_14 : decode cX8_standingOn 14 = .ok (.iload_n 2, 1) := by decide +kernel
theorem dX8_standingOn_15 : decode cX8_standingOn 15 = .ok (.aload_n 0, 1) := by decide +kernel
theorem dX8_standingOn_16 : decode cX8_standingOn 16 = .ok (.iload_n 3, 1) := by decide +kernel
theorem dX8_standingOn_17 : decode cX8_standingOn 17 = .ok (.iconst 3, 1) := by decide +kernel
theorem dX8_standingOn_18 : decode cX8_standingOn 18 = .ok (.invokevirtual 40, 3) := by decide +kernel
theorem dX8_standingOn_21 : decode cX8_standingOn 21 = .ok (.iload_n 1, 1) := by decide +kernel
theorem dX8_standingOn_22 : decode cX8_standingOn 22 = .ok (.if_icmp .ne 19, 3) := by decide +kernel
theorem dX8_standingOn_25 : decode cX8_standingOn 25 = .ok (.aload_n 0, 1) := by decide +kernel
theorem dX8_standingOn_26 : decode cX8_standingOn 26 = .ok (.iload_n 3, 1) := by decide +kernel
theorem dX8_standingOn_27 : decode cX8_standingOn 27 = .ok (.bipush 6, 2) := by decide +kernel
theorem dX8_standingOn_29 : decode cX8_standingOn 29 = .ok (.invokevirtual 44, 3) := by decide +kernel
theorem dX8_standingOn_32 : decode cX8_standingOn 32 = .ok (.ifCond .ne 9, 3) := by decide +kernel
theorem dX8_standingOn_35 : decode cX8_standingOn 35 = .ok (.iconst 1, 1) := by decide +kernel
theorem dX8_standingOn_36 : decode cX8_standingOn 36 = .ok (.iload_n 3, 1) := by decide +kernel
theorem dX8_standingOn_37 : decode cX8_standingOn 37 = .ok (.ishl, 1) := by decide +kernel
theorem dX8_standingOn_38 : decode cX8_standingOn 38 = .ok (.goto 4, 3) := by decide +kernel
theorem dX8_standingOn_41 : decode cX8_standingOn 41 = .ok (.iconst 0, 1) := by decide +kernel
theorem dX8_standingOn_42 : decode cX8_standingOn 42 = .ok (.ior, 1) := by decide +kernel
theorem dX8_standingOn_43 : decode cX8_standingOn 43 = .ok (.istore_n 2, 1) := by decide +kernel
theorem dX8_standingOn_44 : decode cX8_standingOn 44 = .ok (.iinc 3 1, 3) := by decide +kernel
theorem dX8_standingOn_47 : decode cX8_standingOn 47 = .ok (.goto (-43), 3) := by decide +kernel
theorem dX8_standingOn_50 : decode cX8_standingOn 50 = .ok (.iload_n 2, 1) := by decide +kernel
theorem dX8_standingOn_51 : decode cX8_standingOn 51 = .ok (.ireturn, 1) := by decide +kernel
set_option maxRecDepth 20000 in
theorem ggX8_meters_X8_isHow : GoodIn wsX8_meters wsX8_isHow := goodIn_r _ [6, 7, 8, 9, 5, 10, 1, 11, 12, 13, 14, 15, 16, 17, 18, 19, 20, 21, 22, 23, 24] (by decide +kernel) (by decide +kernel)
set_option maxRecDepth 20000 in
theorem gX8_meters_X8_isHow : GoodIn wsX8_meters (wsV RX8 44 RX8 yX8_isHow wsX8_isHow) := goodIn_app (goodIn_of _ (by decide +kernel)) ggX8_meters_X8_isHow
set_option maxRecDepth 20000 in
theorem ggX8_meters_X8_part : GoodIn wsX8_meters wsX8_part := goodIn_r _ [10, 1, 11, 12, 13, 14, 15, 16, 17, 18, 19, 20, 21, 22, 23, 24] (by decide +kernel) (by decide +kernel)
set_option maxRecDepth 20000 in
theorem gX8_meters_X8_part : GoodIn wsX8_meters (wsV RX8 40 RX8 yX8_part wsX8_part) := goodIn_app (goodIn_of _ (by decide +kernel)) ggX8_meters_X8_part
theorem dX8_meters_0 : decode cX8_meters 0 = .ok (.iconst 0, 1) := by decide +kernel
theorem dX8_meters_1 : decode cX8_meters 1 = .ok (.istore_n 1, 1) := by decide +kernel
theorem dX8_meters_2 : decode cX8_meters 2 = .ok (.iconst 0, 1) := by decide +kernel
theorem dX8_meters_3 : decode cX8_meters 3 = .ok (.istore_n 2, 1) := by decide +kernel
theorem dX8_meters_4 : decode cX8_meters 4 = .ok (.iload_n 2, 1) := by decide +kernel
theorem dX8_meters_5 : decode cX8_meters 5 = .ok (.aload_n 0, 1) := by decide +kernel
theorem dX8_meters_6 : decode cX8_meters 6 = .ok (.getfield 7, 3) := by decide +kernel
theorem dX8_meters_9 : decode cX8_meters 9 = .ok (.iconst 4, 1) := by decide +kernel
theorem dX8_meters_10 : decode cX8_meters 10 = .ok (.iaload, 1) := by decide +kernel
theorem dX8_meters_11 : decode cX8_meters 11 = .ok (.if_icmp .ge 31, 3) := by decide +kernel
theorem dX8_meters_14 : decode cX8_meters 14 = .ok (.iload_n 1, 1) := by decide +kernel
theorem dX8_meters_15 : decode cX8_meters 15 = .ok (.aload_n 0, 1) := by decide +kernel
theorem dX8_meters_16 : decode cX8_meters 16 = .ok (.iload_n 2, 1) := by decide +kernel
theorem dX8_meters_17 : decode cX8_meters 17 = .ok (.iconst 1, 1) := by decide +kernel
theorem dX8_meters_18 : decode cX8_meters 18 = .ok (.invokevirtual 44, 3) := by decide +kernel
theorem dX8_meters_21 : decode cX8_meters 21 = .ok (.ifCond .eq 12, 3) := by decide +kernel
theorem dX8_meters_24 : decode cX8_meters 24 = .ok (.aload_n 0, 1) := by decide +kernel
theorem dX8_meters_25 : decode cX8_meters 25 = .ok (.iload_n 2, 1) := by decide +kernel
theorem dX8_meters_26 : decode cX8_meters 26 = .ok (.iconst 1, 1) := by decide +kernel
theorem dX8_meters_27 : decode cX8_meters 27 = .ok (.invokevirtual 40, 3) := by decide +kernel
theorem dX8_meters_30 : decode cX8_meters 30 = .ok (.goto 4, 3) := by decide +kernel
theorem dX8_meters_33 : decode cX8_meters 33 = .ok (.iconst 0, 1) := by decide +kernel
theorem dX8_meters_34 : decode cX8_meters 34 = .ok (.iadd, 1) := by decide +kernel
theorem dX8_meters_35 : decode cX8_meters 35 = .ok (.istore_n 1, 1) := by decide +kernel
theorem dX8_meters_36 : decode cX8_meters 36 = .ok (.iinc 2 1, 3) := by decide +kernel
theorem dX8_meters_39 : decode cX8_meters 39 = .ok (.goto (-35), 3) := by decide +kernel
theorem dX8_meters_42 : decode cX8_meters 42 = .ok (.iload_n 1, 1) := by decide +kernel
theorem dX8_meters_43 : decode cX8_meters 43 = .ok (.ireturn, 1) := by decide +kernel
set_option maxRecDepth 20000 in
theorem ggX8_loadOf_X8_part : GoodIn wsX8_loadOf wsX8_part := goodIn_r _ [6, 1, 7, 8, 9, 10, 11, 12, 13, 14, 15, 16, 17, 18, 19, 20] (by decide +kernel) (by decide +kernel)
set_option maxRecDepth 20000 in
theorem gX8_loadOf_X8_part : GoodIn wsX8_loadOf (wsV RX8 40 RX8 yX8_part wsX8_part) := goodIn_app (goodIn_of _ (by decide +kernel)) ggX8_loadOf_X8_part
theorem dX8_loadOf_0 : decode cX8_loadOf 0 = .ok (.iconst 0, 1) := by decide +kernel
theorem dX8_loadOf_1 : decode cX8_loadOf 1 = .ok (.istore_n 2, 1) := by decide +kernel
theorem dX8_loadOf_2 : decode cX8_loadOf 2 = .ok (.iconst 0, 1) := by decide +kernel
theorem dX8_loadOf_3 : decode cX8_loadOf 3 = .ok (.istore_n 3, 1) := by decide +kernel
theorem dX8_loadOf_4 : decode cX8_loadOf 4 = .ok (.iload_n 3, 1) := by decide +kernel
theorem dX8_loadOf_5 : decode cX8_loadOf 5 = .ok (.aload_n 0, 1) := by decide +kernel
theorem dX8_loadOf_6 : decode cX8_loadOf 6 = .ok (.getfield 7, 3) := by decide +kernel
theorem dX8_loadOf_9 : decode cX8_loadOf 9 = .ok (.iconst 4, 1) := by decide +kernel
theorem dX8_loadOf_10 : decode cX8_loadOf 10 = .ok (.iaload, 1) := by decide +kernel
theorem dX8_loadOf_11 : decode cX8_loadOf 11 = .ok (.if_icmp .ge 33, 3) := by decide +kernel
theorem dX8_loadOf_14 : decode cX8_loadOf 14 = .ok (.iload_n 2, 1) := by decide +kernel
theorem dX8_loadOf_15 : decode cX8_loadOf 15 = .ok (.aload_n 0, 1) := by decide +kernel
theorem dX8_loadOf_16 : decode cX8_loadOf 16 = .ok (.iload_n 3, 1) := by decide +kernel
theorem dX8_loadOf_17 : decode cX8_loadOf 17 = .ok (.bipush 6, 2) := by decide +kernel
theorem dX8_loadOf_19 : decode cX8_loadOf 19 = .ok (.invokevirtual 40, 3) := by decide +kernel
theorem dX8_loadOf_22 : decode cX8_loadOf 22 = .ok (.iload_n 1, 1) := by decide +kernel
theorem dX8_loadOf_23 : decode cX8_loadOf 23 = .ok (.if_icmp .ne 12, 3) := by decide +kernel
theorem dX8_loadOf_26 : decode cX8_loadOf 26 = .ok (.aload_n 0, 1) := by decide +kernel
theorem dX8_loadOf_27 : decode cX8_loadOf 27 = .ok (.iload_n 3, 1) := by decide +kernel
theorem dX8_loadOf_28 : decode cX8_loadOf 28 = .ok (.iconst 2, 1) := by decide +kernel
theorem dX8_loadOf_29 : decode cX8_loadOf 29 = .ok (.invokevirtual 40, 3) := by decide +kernel
theorem dX8_loadOf_32 : decode cX8_loadOf 32 = .ok (.goto 4, 3) := by decide +kernel
theorem dX8_loadOf_35 : decode cX8_loadOf 35 = .ok (.iconst 0, 1) := by decide +kernel
theorem dX8_loadOf_36 : decode cX8_loadOf 36 = .ok (.iadd, 1) := by decide +kernel
theorem dX8_loadOf_37 : decode cX8_loadOf 37 = .ok (.istore_n 2, 1) := by decide +kernel
theorem dX8_loadOf_38 : decode cX8_loadOf 38 = .ok (.iinc 3 1, 3) := by decide +kernel
theorem dX8_loadOf_41 : decode cX8_loadOf 41 = .ok (.goto (-37), 3) := by decide +kernel
theorem dX8_loadOf_44 : decode cX8_loadOf 44 = .ok (.iload_n 2, 1) := by decide +kernel
theorem dX8_loadOf_45 : decode cX8_loadOf 45 = .ok (.ireturn, 1) := by decide +kernel
set_option maxRecDepth 20000 in
theorem ggX8_hasBase_X8_part : GoodIn wsX8_hasBase wsX8_part := goodIn_r _ [5, 6, 11, 12, 13, 14, 15, 16, 17, 18, 19, 20, 21, 22, 23, 24] (by decide +kernel) (by decide +kernel)
set_option maxRecDepth 20000 in
theorem gX8_hasBase_X8_part : GoodIn wsX8_hasBase (wsV RX8 40 RX8 yX8_part wsX8_part) := goodIn_app (goodIn_of _ (by decide +kernel)) ggX8_hasBase_X8_part
set_option maxRecDepth 20000 in
theorem ggX8_hasBase_X8_isHow : GoodIn wsX8_hasBase wsX8_isHow := goodIn_r _ [10, 1, 2, 3, 4, 5, 6, 11, 12, 13, 14, 15, 16, 17, 18, 19, 20, 21, 22, 23, 24] (by decide +kernel) (by decide +kernel)
set_option maxRecDepth 20000 in
theorem gX8_hasBase_X8_isHow : GoodIn wsX8_hasBase (wsV RX8 44 RX8 yX8_isHow wsX8_isHow) := goodIn_app (goodIn_of _ (by decide +kernel)) ggX8_hasBase_X8_isHow
theorem dX8_hasBase_0 : decode cX8_hasBase 0 = .ok (.aload_n 0, 1) := by decide +kernel
theorem dX8_hasBase_1 : decode cX8_hasBase 1 = .ok (.iload_n 1, 1) := by decide +kernel
theorem dX8_hasBase_2 : decode cX8_hasBase 2 = .ok (.iconst 3, 1) := by decide +kernel
theorem dX8_hasBase_3 : decode cX8_hasBase 3 = .ok (.invokevirtual 40, 3) := by decide +kernel
theorem dX8_hasBase_6 : decode cX8_hasBase 6 = .ok (.bipush (-6), 2) := by decide +kernel
theorem dX8_hasBase_8 : decode cX8_hasBase 8 = .ok (.if_icmp .eq 17, 3) := by decide +kernel
theorem dX8_hasBase_11 : decode cX8_hasBase 11 = .ok (.aload_n 0, 1) := by decide +kernel
theorem dX8_hasBase_12 : decode cX8_hasBase 12 = .ok (.aload_n 0, 1) := by decide +kernel
theorem dX8_hasBase_13 : decode cX8_hasBase 13 = .ok (.iload_n 1, 1) := by decide +kernel
theorem dX8_hasBase_14 : decode cX8_hasBase 14 = .ok (.iconst 3, 1) := by decide +kernel
theorem dX8_hasBase_15 : decode cX8_hasBase 15 = .ok (.invokevirtual 40, 3) := by decide +kernel
theorem dX8_hasBase_18 : decode cX8_hasBase 18 = .ok (.iconst 4, 1) := by decide +kernel
theorem dX8_hasBase_19 : decode cX8_hasBase 19 = .ok (.invokevirtual 44, 3) := by decide +kernel
theorem dX8_hasBase_22 : decode cX8_hasBase 22 = .ok (.ifCond .eq 7, 3) := by decide +kernel
theorem dX8_hasBase_25 : decode cX8_hasBase 25 = .ok (.iconst 1, 1) := by decide +kernel
theorem dX8_hasBase_26 : decode cX8_hasBase 26 = .ok (.goto 4, 3) := by decide +kernel
theorem dX8_hasBase_29 : decode cX8_hasBase 29 = .ok (.iconst 0, 1) := by decide +kernel
theorem dX8_hasBase_30 : decode cX8_hasBase 30 = .ok (.ireturn, 1) := by decide +kernel
set_option maxRecDepth 20000 in
theorem ggX8_lorries_X8_isHow : GoodIn wsX8_lorries wsX8_isHow := goodIn_r _ [6, 7, 8, 9, 5, 10, 1, 19, 20, 21, 22, 23, 24, 25, 26, 27, 28, 29, 30, 31, 32] (by decide +kernel) (by decide +kernel)
set_option maxRecDepth 20000 in
theorem gX8_lorries_X8_isHow : GoodIn wsX8_lorries (wsV RX8 44 RX8 yX8_isHow wsX8_isHow) := goodIn_app (goodIn_of _ (by decide +kernel)) ggX8_lorries_X8_isHow
set_option maxRecDepth 20000 in
theorem ggX8_lorries_X8_part : GoodIn wsX8_lorries wsX8_part := goodIn_r _ [10, 1, 19, 20, 21, 22, 23, 24, 25, 26, 27, 28, 29, 30, 31, 32] (by decide +kernel) (by decide +kernel)
set_option maxRecDepth 20000 in
theorem gX8_lorries_X8_part : GoodIn wsX8_lorries (wsV RX8 40 RX8 yX8_part wsX8_part) := goodIn_app (goodIn_of _ (by decide +kernel)) ggX8_lorries_X8_part
set_option maxRecDepth 20000 in
theorem ggX8_lorries_X8_setPart : GoodIn wsX8_lorries wsX8_setPart := goodIn_r _ [14, 1, 19, 20, 21, 22, 23, 24, 25, 26, 27, 28, 29, 30, 31, 32] (by decide +kernel) (by decide +kernel)
set_option maxRecDepth 20000 in
theorem gX8_lorries_X8_setPart : GoodIn wsX8_lorries (wsV RX8 48 RX8 yX8_setPart wsX8_setPart) := goodIn_app (goodIn_of _ (by decide +kernel)) ggX8_lorries_X8_setPart
set_option maxRecDepth 20000 in
theorem ggX8_lorries_X8_meters : GoodIn wsX8_lorries wsX8_meters := goodIn_r _ [18, 1, 2, 3, 4, 5, 6, 7, 8, 9, 10, 19, 20, 21, 22, 23, 24, 25, 26, 27, 28, 29, 30, 31, 32] (by decide +kernel) (by decide +kernel)
set_option maxRecDepth 20000 in
theorem gX8_lorries_X8_meters : GoodIn wsX8_lorries (wsV RX8 52 RX8 yX8_meters wsX8_meters) := goodIn_app (goodIn_of _ (by decide +kernel)) ggX8_lorries_X8_meters
theorem dX8_lorries_0 : decode cX8_lorries 0 = .ok (.iconst 0, 1) := by decide +kernel
theorem dX8_lorries_1 : decode cX8_lorries 1 = .ok (.istore_n 1, 1) := by decide +kernel
theorem dX8_lorries_2 : decode cX8_lorries 2 = .ok (.iload_n 1, 1) := by decide +kernel
theorem dX8_lorries_3 : decode cX8_lorries 3 = .ok (.aload_n 0, 1) := by decide +kernel
theorem dX8_lorries_4 : decode cX8_lorries 4 = .ok (.getfield 7, 3) := by decide +kernel
theorem dX8_lorries_7 : decode cX8_lorries 7 = .ok (.iconst 4, 1) := by decide +kernel
theorem dX8_lorries_8 : decode cX8_lorries 8 = .ok (.iaload, 1) := by decide +kernel
theorem dX8_lorries_9 : decode cX8_lorries 9 = .ok (.if_icmp .ge 35, 3) := by decide +kernel
theorem dX8_lorries_12 : decode cX8_lorries 12 = .ok (.aload_n 0, 1) := by decide +kernel
theorem dX8_lorries_13 : decode cX8_lorries 13 = .ok (.iload_n 1, 1) := by decide +kernel
theorem dX8_lorries_14 : decode cX8_lorries 14 = .ok (.iconst 1, 1) := by decide +kernel
theorem dX8_lorries_15 : decode cX8_lorries 15 = .ok (.invokevirtual 44, 3) := by decide +kernel
theorem dX8_lorries_18 : decode cX8_lorries 18 = .ok (.ifCond .eq 20, 3) := by decide +kernel
theorem dX8_lorries_21 : decode cX8_lorries 21 = .ok (.aload_n 0, 1) := by decide +kernel
theorem dX8_lorries_22 : decode cX8_lorries 22 = .ok (.iload_n 1, 1) := by decide +kernel
theorem dX8_lorries_23 : decode cX8_lorries 23 = .ok (.bipush 8, 2) := by decide +kernel
theorem dX8_lorries_25 : decode cX8_lorries 25 = .ok (.invokevirtual 40, 3) := by decide +kernel
theorem dX8_lorries_28 : decode cX8_lorries 28 = .ok (.ifCond .ne 10, 3) := by decide +kernel
theorem dX8_lorries_31 : decode cX8_lorries 31 = .ok (.aload_n 0, 1) := by decide +kernel
theorem dX8_lorries_32 : decode cX8_lorries 32 = .ok (.iload_n 1, 1) := by decide +kernel
theorem dX8_lorries_33 : decode cX8_lorries 33 = .ok (.iconst 4, 1) := by decide +kernel
theorem dX8_lorries_34 : decode cX8_lorries 34 = .ok (.iconst 2, 1) := by decide +kernel
theorem dX8_lorries_35 : decode cX8_lorries 35 = .ok (.invokevirtual 48, 3) := by decide +kernel
theorem dX8_lorries_38 : decode cX8_lorries 38 = .ok (.iinc 1 1, 3) := by decide +kernel
theorem dX8_lorries_41 : decode cX8_lorries 41 = .ok (.goto (-39), 3) := by decide +kernel
theorem dX8_lorries_44 : decode cX8_lorries 44 = .ok (.iconst 1, 1) := by decide +kernel
theorem dX8_lorries_45 : decode cX8_lorries 45 = .ok (.istore_n 1, 1) := by decide +kernel
theorem dX8_lorries_46 : decode cX8_lorries 46 = .ok (.iconst 0, 1) := by decide +kernel
theorem dX8_lorries_47 : decode cX8_lorries 47 = .ok (.istore_n 2, 1) := by decide +kernel
theorem dX8_lorries_48 : decode cX8_lorries 48 = .ok (.iload_n 2, 1) := by decide +kernel
theorem dX8_lorries_49 : decode cX8_lorries 49 = .ok (.aload_n 0, 1) := by decide +kernel
theorem dX8_lorries_50 : decode cX8_lorries 50 = .ok (.getfield 7, 3) := by decide +kernel
theorem dX8_lorries_53 : decode cX8_lorries 53 = .ok (.iconst 4, 1) := by decide +kernel
theorem dX8_lorries_54 : decode cX8_lorries 54 = .ok (.iaload, 1) := by decide +kernel
theorem dX8_lorries_55 : decode cX8_lorries 55 = .ok (.if_icmp .ge 72, 3) := by decide +kernel
theorem dX8_lorries_58 : decode cX8_lorries 58 = .ok (.iload_n 1, 1) := by decide +kernel
theorem dX8_lorries_59 : decode cX8_lorries 59 = .ok (.ifCond .eq 68, 3) := by decide +kernel
theorem dX8_lorries_62 : decode cX8_lorries 62 = .ok (.aload_n 0, 1) := by decide +kernel
theorem dX8_lorries_63 : decode cX8_lorries 63 = .ok (.iload_n 2, 1) := by decide +kernel
theorem dX8_lorries_64 : decode cX8_lorries 64 = .ok (.iconst 0, 1) := by decide +kernel
theorem dX8_lorries_65 : decode cX8_lorries 65 = .ok (.invokevirtual 44, 3) := by decide +kernel
theorem dX8_lorries_68 : decode cX8_lorries 68 = .ok (.ifCond .eq 53, 3) := by decide +kernel
theorem dX8_lorries_71 : decode cX8_lorries 71 = .ok (.aload_n 0, 1) := by decide +kernel
theorem dX8_lorries_72 : decode cX8_lorries 72 = .ok (.invokevirtual 52, 3) := by decide +kernel
theorem dX8_lorries_75 : decode cX8_lorries 75 = .ok (.aload_n 0, 1) := by decide +kernel
theorem dX8_lorries_76 : decode cX8_lorries 76 = .ok (.iload_n 2, 1) := by decide +kernel
theorem dX8_lorries_77 : decode cX8_lorries 77 = .ok (.iconst 1, 1) := by decide +kernel
theorem dX8_lorries_78 : decode cX8_lorries 78 = .ok (.invokevirtual 40, 3) := by decide +kernel
theorem dX8_lorries_81 : decode cX8_lorries 81 = .ok (.iadd, 1) := by decide +kernel
theorem dX8_lorries_82 : decode cX8_lorries 82 = .ok (.aload_n 0, 1) := by decide +kernel
theorem dX8_lorries_83 : decode cX8_lorries 83 = .ok (.getfield 7, 3) := by decide +kernel
theorem dX8_lorries_86 : decode cX8_lorries 86 = .ok (.iconst 0, 1) := by decide +kernel
theorem dX8_lorries_87 : decode cX8_lorries 87 = .ok (.iaload, 1) := by decide +kernel
theorem dX8_lorries_88 : decode cX8_lorries 88 = .ok (.if_icmp .gt 7, 3) := by decide +kernel
theorem dX8_lorries_91 : decode cX8_lorries 91 = .ok (.iconst 1, 1) := by decide +kernel
theorem dX8_lorries_92 : decode cX8_lorries 92 = .ok (.goto 4, 3) := by decide +kernel
theorem dX8_lorries_95 : decode cX8_lorries 95 = .ok (.iconst 0, 1) := by decide +kernel
theorem dX8_lorries_96 : decode cX8_lorries 96 = .ok (.istore_n 1, 1) := by decide +kernel
theorem dX8_lorries_97 : decode cX8_lorries 97 = .ok (.iload_n 1, 1) := by decide +kernel
theorem dX8_lorries_98 : decode cX8_lorries 98 = .ok (.ifCond .eq 23, 3) := by decide +kernel
theorem dX8_lorries_101 : decode cX8_lorries 101 = .ok (.aload_n 0, 1) := by decide +kernel
theorem dX8_lorries_102 : decode cX8_lorries 102 = .ok (.iload_n 2, 1) := by decide +kernel
theorem dX8_lorries_103 : decode cX8_lorries 103 = .ok (.iconst 4, 1) := by decide +kernel
theorem dX8_lorries_104 : decode cX8_lorries 104 = .ok (.iconst 1, 1) := by decide +kernel
theorem dX8_lorries_105 : decode cX8_lorries 105 = .ok (.invokevirtual 48, 3) := by decide +kernel
theorem dX8_lorries_108 : decode cX8_lorries 108 = .ok (.aload_n 0, 1) := by decide +kernel
theorem dX8_lorries_109 : decode cX8_lorries 109 = .ok (.iload_n 2, 1) := by decide +kernel
theorem dX8_lorries_110 : decode cX8_lorries 110 = .ok (.bipush 8, 2) := by decide +kernel
theorem dX8_lorries_112 : decode cX8_lorries 112 = .ok (.aload_n 0, 1) := by decide +kernel
theorem dX8_lorries_113 : decode cX8_lorries 113 = .ok (.getfield 7, 3) := by decide +kernel
theorem dX8_lorries_116 : decode cX8_lorries 116 = .ok (.iconst 1, 1) := by decide +kernel
theorem dX8_lorries_117 : decode cX8_lorries 117 = .ok (.iaload, 1) := by decide +kernel
theorem dX8_lorries_118 : decode cX8_lorries 118 = .ok (.invokevirtual 48, 3) := by decide +kernel
theorem dX8_lorries_121 : decode cX8_lorries 121 = .ok (.iinc 2 1, 3) := by decide +kernel
theorem dX8_lorries_124 : decode cX8_lorries 124 = .ok (.goto (-76), 3) := by decide +kernel
theorem dX8_lorries_127 : decode cX8_lorries 127 = .ok (.iconst 0, 1) := by decide +kernel
theorem dX8_lorries_128 : decode cX8_lorries 128 = .ok (.istore_n 2, 1) := by decide +kernel
theorem dX8_lorries_129 : decode cX8_lorries 129 = .ok (.iload_n 2, 1) := by decide +kernel
theorem dX8_lorries_130 : decode cX8_lorries 130 = .ok (.aload_n 0, 1) := by decide +kernel
theorem dX8_lorries_131 : decode cX8_lorries 131 = .ok (.getfield 7, 3) := by decide +kernel
theorem dX8_lorries_134 : decode cX8_lorries 134 = .ok (.iconst 4, 1) := by decide +kernel
theorem dX8_lorries_135 : decode cX8_lorries 135 = .ok (.iaload, 1) := by decide +kernel
theorem dX8_lorries_136 : decode cX8_lorries 136 = .ok (.if_icmp .ge 34, 3) := by decide +kernel
theorem dX8_lorries_139 : decode cX8_lorries 139 = .ok (.aload_n 0, 1) := by decide +kernel
theorem dX8_lorries_140 : decode cX8_lorries 140 = .ok (.iload_n 2, 1) := by decide +kernel
theorem dX8_lorries_141 : decode cX8_lorries 141 = .ok (.iconst 1, 1) := by decide +kernel
theorem dX8_lorries_142 : decode cX8_lorries 142 = .ok (.invokevirtual 44, 3) := by decide +kernel
theorem dX8_lorries_145 : decode cX8_lorries 145 = .ok (.ifCond .eq 19, 3) := by decide +kernel
theorem dX8_lorries_148 : decode cX8_lorries 148 = .ok (.aload_n 0, 1) := by decide +kernel
theorem dX8_lorries_149 : decode cX8_lorries 149 = .ok (.iload_n 2, 1) := by decide +kernel
theorem dX8_lorries_150 : decode cX8_lorries 150 = .ok (.bipush 8, 2) := by decide +kernel
theorem dX8_lorries_152 : decode cX8_lorries 152 = .ok (.aload_n 0, 1) := by decide +kernel
theorem dX8_lorries_153 : decode cX8_lorries 153 = .ok (.iload_n 2, 1) := by decide +kernel
theorem dX8_lorries_154 : decode cX8_lorries 154 = .ok (.bipush 8, 2) := by decide +kernel
theorem dX8_lorries_156 : decode cX8_lorries 156 = .ok (.invokevirtual 40, 3) := by decide +kernel
theorem dX8_lorries_159 : decode cX8_lorries 159 = .ok (.iconst 1, 1) := by decide +kernel
theorem dX8_lorries_160 : decode cX8_lorries 160 = .ok (.isub, 1) := by decide +kernel
theorem dX8_lorries_161 : decode cX8_lorries 161 = .ok (.invokevirtual 48, 3) := by decide +kernel
theorem dX8_lorries_164 : decode cX8_lorries 164 = .ok (.iinc 2 1, 3) := by decide +kernel
theorem dX8_lorries_167 : decode cX8_lorries 167 = .ok (.goto (-38), 3) := by decide +kernel
theorem dX8_lorries_170 : decode cX8_lorries 170 = .ok (.return_, 1) := by decide +kernel
set_option maxRecDepth 20000 in
theorem ggX8_nextStand_X8_isHow : GoodIn wsX8_nextStand wsX8_isHow := goodIn_r _ [6, 7, 8, 9, 5, 10, 1, 19, 20, 21, 22, 23, 24, 25, 26, 27, 28, 29, 30, 31, 32] (by decide +kernel) (by decide +kernel)
set_option maxRecDepth 20000 in
theorem gX8_nextStand_X8_isHow : GoodIn wsX8_nextStand (wsV RX8 44 RX8 yX8_isHow wsX8_isHow) := goodIn_app (goodIn_of _ (by decide +kernel)) ggX8_nextStand_X8_isHow
set_option maxRecDepth 20000 in
theorem ggX8_nextStand_X8_standingOn : GoodIn wsX8_nextStand wsX8_standingOn := goodIn_r _ [14, 1, 7, 8, 9, 5, 10, 2, 3, 4, 6, 19, 20, 21, 22, 23, 24, 25, 26, 27, 28, 29, 30, 31, 32] (by decide +kernel) (by decide +kernel)
set_option maxRecDepth 20000 in
theorem gX8_nextStand_X8_standingOn : GoodIn wsX8_nextStand (wsV RX8 56 RX8 yX8_standingOn wsX8_standingOn) := goodIn_app (goodIn_of _ (by decide +kernel)) ggX8_nextStand_X8_standingOn
set_option maxRecDepth 20000 in
theorem ggX8_nextStand_X8_hasBase : GoodIn wsX8_nextStand wsX8_hasBase := goodIn_r _ [18, 7, 8, 9, 5, 10, 1, 2, 3, 4, 6, 19, 20, 21, 22, 23, 24, 25, 26, 27, 28, 29, 30, 31, 32] (by decide +kernel) (by decide +kernel)
set_option maxRecDepth 20000 in
theorem gX8_nextStand_X8_hasBase : GoodIn wsX8_nextStand (wsV RX8 60 RX8 yX8_hasBase wsX8_hasBase) := goodIn_app (goodIn_of _ (by decide +kernel)) ggX8_nextStand_X8_hasBase
theorem dX8_nextStand_0 : decode cX8_nextStand 0 = .ok (.bipush (-6), 2) := by decide +kernel
theorem dX8_nextStand_2 : decode cX8_nextStand 2 = .ok (.istore_n 1, 1) := by decide +kernel
theorem dX8_nextStand_3 : decode cX8_nextStand 3 = .ok (.iconst 0, 1) := by decide +kernel
theorem dX8_nextStand_4 : decode cX8_nextStand 4 = .ok (.istore_n 2, 1) := by decide +kernel
theorem dX8_nextStand_5 : decode cX8_nextStand 5 = .ok (.iload_n 2, 1) := by decide +kernel
theorem dX8_nextStand_6 : decode cX8_nextStand 6 = .ok (.aload_n 0, 1) := by decide +kernel
theorem dX8_nextStand_7 : decode cX8_nextStand 7 = .ok (.getfield 7, 3) := by decide +kernel
theorem dX8_nextStand_10 : decode cX8_nextStand 10 = .ok (.iconst 4, 1) := by decide +kernel
theorem dX8_nextStand_11 : decode cX8_nextStand 11 = .ok (.iaload, 1) := by decide +kernel
theorem dX8_nextStand_12 : decode cX8_nextStand 12 = .ok (.if_icmp .ge 106, 3) := by decide +kernel
theorem dX8_nextStand_15 : decode cX8_nextStand 15 = .ok (.aload_n 0, 1) := by decide +kernel
theorem dX8_nextStand_16 : decode cX8_nextStand 16 = .ok (.getfield 7, 3) := by decide +kernel
theorem dX8_nextStand_19 : decode cX8_nextStand 19 = .ok (.bipush 6, 2) := by decide +kernel
theorem dX8_nextStand_21 : decode cX8_nextStand 21 = .ok (.iaload, 1) := by decide +kernel
theorem dX8_nextStand_22 : decode cX8_nextStand 22 = .ok (.iconst 1, 1) := by decide +kernel
theorem dX8_nextStand_23 : decode cX8_nextStand 23 = .ok (.if_icmp .ne 7, 3) := by decide +kernel
theorem dX8_nextStand_26 : decode cX8_nextStand 26 = .ok (.iload_n 2, 1) := by decide +kernel
theorem dX8_nextStand_27 : decode cX8_nextStand 27 = .ok (.goto 13, 3) := by decide +kernel
theorem dX8_nextStand_30 : decode cX8_nextStand 30 = .ok (.aload_n 0, 1) := by decide +kernel
theorem dX8_nextStand_31 : decode cX8_nextStand 31 = .ok (.getfield 7, 3) := by decide +kernel
theorem dX8_nextStand_34 : decode cX8_nextStand 34 = .ok (.iconst 4, 1) := by decide +kernel
theorem dX8_nextStand_35 : decode cX8_nextStand 35 = .ok (.iaload, 1) := by decide +kernel
theorem dX8_nextStand_36 : decode cX8_nextStand 36 = .ok (.iconst 1, 1) := by decide +kernel
theorem dX8_nextStand_37 : decode cX8_nextStand 37 = .ok (.isub, 1) := by decide +kernel
theorem dX8_nextStand_38 : decode cX8_nextStand 38 = .ok (.iload_n 2, 1) := by decide +kernel
theorem dX8_nextStand_39 : decode cX8_nextStand 39 = .ok (.isub, 1) := by decide +kernel
theorem dX8_nextStand_40 : decode cX8_nextStand 40 = .ok (.istore_n 3, 1) := by decide +kernel
theorem dX8_nextStand_41 : decode cX8_nextStand 41 = .ok (.aload_n 0, 1) := by decide +kernel
theorem dX8_nextStand_42 : decode cX8_nextStand 42 = .ok (.getfield 7, 3) := by decide +kernel
theorem dX8_nextStand_45 : decode cX8_nextStand 45 = .ok (.bipush 6, 2) := by decide +kernel
theorem dX8_nextStand_47 : decode cX8_nextStand 47 = .ok (.iaload, 1) := by decide +kernel
theorem dX8_nextStand_48 : decode cX8_nextStand 48 = .ok (.iconst 1, 1) := by decide +kernel
theorem dX8_nextStand_49 : decode cX8_nextStand 49 = .ok (.if_icmp .ne 28, 3) := by decide +kernel
theorem dX8_nextStand_52 : decode cX8_nextStand 52 = .ok (.aload_n 0, 1) := by decide +kernel
theorem dX8_nextStand_53 : decode cX8_nextStand 53 = .ok (.iload_n 3, 1) := by decide +kernel
theorem dX8_nextStand_54 : decode cX8_nextStand 54 = .ok (.iconst 4, 1) := by decide +kernel
theorem dX8_nextStand_55 : decode cX8_nextStand 55 = .ok (.invokevirtual 44, 3) := by decide +kernel
theorem dX8_nextStand_58 : decode cX8_nextStand 58 = .ok (.ifCond .eq 15, 3) := by decide +kernel
theorem dX8_nextStand_61 : decode cX8_nextStand 61 = .ok (.aload_n 0, 1) := by decide +kernel
theorem dX8_nextStand_62 : decode cX8_nextStand 62 = .ok (.iload_n 3, 1) := by decide +kernel
theorem dX8_nextStand_63 : decode cX8_nextStand 63 = .ok (.invokevirtual 56, 3) := by decide +kernel
theorem dX8_nextStand_66 : decode cX8_nextStand 66 = .ok (.ifCond .ne 7, 3) := by decide +kernel
theorem dX8_nextStand_69 : decode cX8_nextStand 69 = .ok (.iconst 1, 1) := by decide +kernel
theorem dX8_nextStand_70 : decode cX8_nextStand 70 = .ok (.goto 29, 3) := by decide +kernel
theorem dX8_nextStand_73 : decode cX8_nextStand 73 = .ok (.iconst 0, 1) := by decide +kernel
theorem dX8_nextStand_74 : decode cX8_nextStand 74 = .ok (.goto 25, 3) := by decide +kernel
theorem dX8_nextStand_77 : decode cX8_nextStand 77 = .ok (.aload_n 0, 1) := by decide +kernel
theorem dX8_nextStand_78 : decode cX8_nextStand 78 = .ok (.iload_n 3, 1) := by decide +kernel
theorem dX8_nextStand_79 : decode cX8_nextStand 79 = .ok (.iconst 2, 1) := by decide +kernel
theorem dX8_nextStand_80 : decode cX8_nextStand 80 = .ok (.invokevirtual 44, 3) := by decide +kernel
theorem dX8_nextStand_83 : decode cX8_nextStand 83 = .ok (.ifCond .eq 15, 3) := by decide +kernel
theorem dX8_nextStand_86 : decode cX8_nextStand 86 = .ok (.aload_n 0, 1) := by decide +kernel
theorem dX8_nextStand_87 : decode cX8_nextStand 87 = .ok (.iload_n 3, 1) := by decide +kernel
theorem dX8_nextStand_88 : decode cX8_nextStand 88 = .ok (.invokevirtual 60, 3) := by decide +kernel
theorem dX8_nextStand_91 : decode cX8_nextStand 91 = .ok (.ifCond .eq 7, 3) := by decide +kernel
theorem dX8_nextStand_94 : decode cX8_nextStand 94 = .ok (.iconst 1, 1) := by decide +kernel
theorem dX8_nextStand_95 : decode cX8_nextStand 95 = .ok (.goto 4, 3) := by decide +kernel
theorem dX8_nextStand_98 : decode cX8_nextStand 98 = .ok (.iconst 0, 1) := by decide +kernel
theorem dX8_nextStand_99 : decode cX8_nextStand 99 = .ok (.istore 4, 2) := by decide +kernel
theorem dX8_nextStand_101 : decode cX8_nextStand 101 = .ok (.iload 4, 2) := by decide +kernel
theorem dX8_nextStand_103 : decode cX8_nextStand 103 = .ok (.ifCond .eq 7, 3) := by decide +kernel
theorem dX8_nextStand_106 : decode cX8_nextStand 106 = .ok (.iload_n 3, 1) := by decide +kernel
theorem dX8_nextStand_107 : decode cX8_nextStand 107 = .ok (.goto 4, 3) := by decide +kernel
theorem dX8_nextStand_110 : decode cX8_nextStand 110 = .ok (.iload_n 1, 1) := by decide +kernel
theorem dX8_nextStand_111 : decode cX8_nextStand 111 = .ok (.istore_n 1, 1) := by decide +kernel
theorem dX8_nextStand_112 : decode cX8_nextStand 112 = .ok (.iinc 2 1, 3) := by decide +kernel
theorem dX8_nextStand_115 : decode cX8_nextStand 115 = .ok (.goto (-110), 3) := by decide +kernel
theorem dX8_nextStand_118 : decode cX8_nextStand 118 = .ok (.iload_n 1, 1) := by decide +kernel
theorem dX8_nextStand_119 : decode cX8_nextStand 119 = .ok (.ireturn, 1) := by decide +kernel
set_option maxRecDepth 20000 in
theorem ggX8_takes_X8_setCrew : GoodIn wsX8_takes wsX8_setCrew := goodIn_r _ [6, 1, 15, 16, 17, 18, 19, 20, 21, 22, 23, 24, 25, 26, 27, 28] (by decide +kernel) (by decide +kernel)
set_option maxRecDepth 20000 in
theorem gX8_takes_X8_setCrew : GoodIn wsX8_takes (wsV RX8 64 RX8 yX8_setCrew wsX8_setCrew) := goodIn_app (goodIn_of _ (by decide +kernel)) ggX8_takes_X8_setCrew
set_option maxRecDepth 20000 in
theorem ggX8_takes_X8_setPart : GoodIn wsX8_takes wsX8_setPart := goodIn_r _ [10, 1, 15, 16, 17, 18, 19, 20, 21, 22, 23, 24, 25, 26, 27, 28] (by decide +kernel) (by decide +kernel)
set_option maxRecDepth 20000 in
theorem gX8_takes_X8_setPart : GoodIn wsX8_takes (wsV RX8 48 RX8 yX8_setPart wsX8_setPart) := goodIn_app (goodIn_of _ (by decide +kernel)) ggX8_takes_X8_setPart
set_option maxRecDepth 20000 in
theorem ggX8_takes_X8_part : GoodIn wsX8_takes wsX8_part := goodIn_r _ [14, 1, 15, 16, 17, 18, 19, 20, 21, 22, 23, 24, 25, 26, 27, 28] (by decide +kernel) (by decide +kernel)
set_option maxRecDepth 20000 in
theorem gX8_takes_X8_part : GoodIn wsX8_takes (wsV RX8 40 RX8 yX8_part wsX8_part) := goodIn_app (goodIn_of _ (by decide +kernel)) ggX8_takes_X8_part
theorem dX8_takes_0 : decode cX8_takes 0 = .ok (.aload_n 0, 1) := by decide +kernel
theorem dX8_takes_1 : decode cX8_takes 1 = .ok (.getfield 7, 3) := by decide +kernel
theorem dX8_takes_4 : decode cX8_takes 4 = .ok (.bipush 6, 2) := by decide +kernel
theorem dX8_takes_6 : decode cX8_takes 6 = .ok (.iaload, 1) := by decide +kernel
theorem dX8_takes_7 : decode cX8_takes 7 = .ok (.iconst 1, 1) := by decide +kernel
theorem dX8_takes_8 : decode cX8_takes 8 = .ok (.if_icmp .ne 7, 3) := by decide +kernel
theorem dX8_takes_11 : decode cX8_takes 11 = .ok (.iconst 1, 1) := by decide +kernel
theorem dX8_takes_12 : decode cX8_takes 12 = .ok (.goto 4, 3) := by decide +kernel
theorem dX8_takes_15 : decode cX8_takes 15 = .ok (.iconst 0, 1) := by decide +kernel
theorem dX8_takes_16 : decode cX8_takes 16 = .ok (.istore_n 3, 1) := by decide +kernel
theorem dX8_takes_17 : decode cX8_takes 17 = .ok (.aload_n 0, 1) := by decide +kernel
theorem dX8_takes_18 : decode cX8_takes 18 = .ok (.iload_n 1, 1) := by decide +kernel
theorem dX8_takes_19 : decode cX8_takes 19 = .ok (.iconst 2, 1) := by decide +kernel
theorem dX8_takes_20 : decode cX8_takes 20 = .ok (.iload_n 2, 1) := by decide +kernel
theorem dX8_takes_21 : decode cX8_takes 21 = .ok (.invokevirtual 64, 3) := by decide +kernel
theorem dX8_takes_24 : decode cX8_takes 24 = .ok (.aload_n 0, 1) := by decide +kernel
theorem dX8_takes_25 : decode cX8_takes 25 = .ok (.iload_n 2, 1) := by decide +kernel
theorem dX8_takes_26 : decode cX8_takes 26 = .ok (.bipush 7, 2) := by decide +kernel
theorem dX8_takes_28 : decode cX8_takes 28 = .ok (.iload_n 1, 1) := by decide +kernel
theorem dX8_takes_29 : decode cX8_takes 29 = .ok (.invokevirtual 48, 3) := by decide +kernel
theorem dX8_takes_32 : decode cX8_takes 32 = .ok (.aload_n 0, 1) := by decide +kernel
theorem dX8_takes_33 : decode cX8_takes 33 = .ok (.iload_n 2, 1) := by decide +kernel
theorem dX8_takes_34 : decode cX8_takes 34 = .ok (.iconst 4, 1) := by decide +kernel
theorem dX8_takes_35 : decode cX8_takes 35 = .ok (.iload_n 3, 1) := by decide +kernel
theorem dX8_takes_36 : decode cX8_takes 36 = .ok (.ifCond .eq 7, 3) := by decide +kernel
theorem dX8_takes_39 : decode cX8_takes 39 = .ok (.iconst 5, 1) := by decide +kernel
theorem dX8_takes_40 : decode cX8_takes 40 = .ok (.goto 4, 3) := by decide +kernel
theorem dX8_takes_43 : decode cX8_takes 43 = .ok (.iconst 3, 1) := by decide +kernel
theorem dX8_takes_44 : decode cX8_takes 44 = .ok (.invokevirtual 48, 3) := by decide +kernel
theorem dX8_takes_47 : decode cX8_takes 47 = .ok (.iload_n 3, 1) := by decide +kernel
theorem dX8_takes_48 : decode cX8_takes 48 = .ok (.ifCond .eq 28, 3) := by decide +kernel
theorem dX8_takes_51 : decode cX8_takes 51 = .ok (.aload_n 0, 1) := by decide +kernel
theorem dX8_takes_52 : decode cX8_takes 52 = .ok (.iload_n 2, 1) := by decide +kernel
theorem dX8_takes_53 : decode cX8_takes 53 = .ok (.iconst 5, 1) := by decide +kernel
theorem dX8_takes_54 : decode cX8_takes 54 = .ok (.aload_n 0, 1) := by decide +kernel
theorem dX8_takes_55 : decode cX8_takes 55 = .ok (.iload_n 2, 1) := by decide +kernel
theorem dX8_takes_56 : decode cX8_takes 56 = .ok (.iconst 0, 1) := by decide +kernel
theorem dX8_takes_57 : decode cX8_takes 57 = .ok (.invokevirtual 40, 3) := by decide +kernel
theorem dX8_takes_60 : decode cX8_takes 60 = .ok (.iconst 1, 1) := by decide +kernel
theorem dX8_takes_61 : decode cX8_takes 61 = .ok (.iadd, 1) := by decide +kernel
theorem dX8_takes_62 : decode cX8_takes 62 = .ok (.iconst 2, 1) := by decide +kernel
theorem dX8_takes_63 : decode cX8_takes 63 = .ok (.idiv, 1) := by decide +kernel
theorem dX8_takes_64 : decode cX8_takes 64 = .ok (.invokevirtual 48, 3) := by decide +kernel
theorem dX8_takes_67 : decode cX8_takes 67 = .ok (.aload_n 0, 1) := by decide +kernel
theorem dX8_takes_68 : decode cX8_takes 68 = .ok (.iload_n 2, 1) := by decide +kernel
theorem dX8_takes_69 : decode cX8_takes 69 = .ok (.bipush 6, 2) := by decide +kernel
theorem dX8_takes_71 : decode cX8_takes 71 = .ok (.bipush (-6), 2) := by decide +kernel
theorem dX8_takes_73 : decode cX8_takes 73 = .ok (.invokevirtual 48, 3) := by decide +kernel
theorem dX8_takes_76 : decode cX8_takes 76 = .ok (.return_, 1) := by decide +kernel
set_option maxRecDepth 20000 in
theorem ggX8_leastLoaded_X8_loadOf : GoodIn wsX8_leastLoaded wsX8_loadOf := goodIn_r _ [5, 6, 7, 8, 9, 4, 10, 11, 12, 13, 14, 15, 16, 17, 18, 19, 20, 21, 22, 23, 24] (by decide +kernel) (by decide +kernel)
set_option maxRecDepth 20000 in
theorem gX8_leastLoaded_X8_loadOf : GoodIn wsX8_leastLoaded (wsV RX8 67 RX8 yX8_loadOf wsX8_loadOf) := goodIn_app (goodIn_of _ (by decide +kernel)) ggX8_leastLoaded_X8_loadOf
theorem dX8_leastLoaded_0 : decode cX8_leastLoaded 0 = .ok (.iconst 0, 1) := by decide +kernel
theorem dX8_leastLoaded_1 : decode cX8_leastLoaded 1 = .ok (.istore_n 1, 1) := by decide +kernel
theorem dX8_leastLoaded_2 : decode cX8_leastLoaded 2 = .ok (.iconst 1, 1) := by decide +kernel
theorem dX8_leastLoaded_3 : decode cX8_leastLoaded 3 = .ok (.istore_n 2, 1) := by decide +kernel
theorem dX8_leastLoaded_4 : decode cX8_leastLoaded 4 = .ok (.iload_n 2, 1) := by decide +kernel
theorem dX8_leastLoaded_5 : decode cX8_leastLoaded 5 = .ok (.iconst 3, 1) := by decide +kernel
theorem dX8_leastLoaded_6 : decode cX8_leastLoaded 6 = .ok (.if_icmp .ge 28, 3) := by decide +kernel
theorem dX8_leastLoaded_9 : decode cX8_leastLoaded 9 = .ok (.aload_n 0, 1) := by decide +kernel
theorem dX8_leastLoaded_10 : decode cX8_leastLoaded 10 = .ok (.iload_n 2, 1) := by decide +kernel
theorem dX8_leastLoaded_11 : decode cX8_leastLoaded 11 = .ok (.invokevirtual 67, 3) := by decide +kernel
theorem dX8_leastLoaded_14 : decode cX8_leastLoaded 14 = .ok (.aload_n 0, 1) := by decide +kernel
theorem dX8_leastLoaded_15 : decode cX8_leastLoaded 15 = .ok (.iload_n 1, 1) := by decide +kernel
theorem dX8_leastLoaded_16 : decode cX8_leastLoaded 16 = .ok (.invokevirtual 67, 3) := by decide +kernel
theorem dX8_leastLoaded_19 : decode cX8_leastLoaded 19 = .ok (.if_icmp .ge 7, 3) := by decide +kernel
theorem dX8_leastLoaded_22 : decode cX8_leastLoaded 22 = .ok (.iload_n 2, 1) := by decide +kernel
theorem dX8_leastLoaded_23 : decode cX8_leastLoaded 23 = .ok (.goto 4, 3) := by decide +kernel
theorem dX8_leastLoaded_26 : decode cX8_leastLoaded 26 = .ok (.iload_n 1, 1) := by decide +kernel
theorem dX8_leastLoaded_27 : decode cX8_leastLoaded 27 = .ok (.istore_n 1, 1) := by decide +kernel
theorem dX8_leastLoaded_28 : decode cX8_leastLoaded 28 = .ok (.iinc 2 1, 3) := by decide +kernel
theorem dX8_leastLoaded_31 : decode cX8_leastLoaded 31 = .ok (.goto (-27), 3) := by decide +kernel
theorem dX8_leastLoaded_34 : decode cX8_leastLoaded 34 = .ok (.iload_n 1, 1) := by decide +kernel
theorem dX8_leastLoaded_35 : decode cX8_leastLoaded 35 = .ok (.ireturn, 1) := by decide +kernel
set_option maxRecDepth 20000 in
theorem ggX8_finishes_X8_setCrew : GoodIn wsX8_finishes wsX8_setCrew := goodIn_r _ [6, 1, 31, 32, 33, 34, 35, 36, 37, 38, 39, 40, 41, 42, 43, 44] (by decide +kernel) (by decide +kernel)
set_option maxRecDepth 20000 in
theorem gX8_finishes_X8_setCrew : GoodIn wsX8_finishes (wsV RX8 64 RX8 yX8_setCrew wsX8_setCrew) := goodIn_app (goodIn_of _ (by decide +kernel)) ggX8_finishes_X8_setCrew
set_option maxRecDepth 20000 in
theorem ggX8_finishes_X8_setPart : GoodIn wsX8_finishes wsX8_setPart := goodIn_r _ [10, 1, 31, 32, 33, 34, 35, 36, 37, 38, 39, 40, 41, 42, 43, 44] (by decide +kernel) (by decide +kernel)
set_option maxRecDepth 20000 in
theorem gX8_finishes_X8_setPart : GoodIn wsX8_finishes (wsV RX8 48 RX8 yX8_setPart wsX8_setPart) := goodIn_app (goodIn_of _ (by decide +kernel)) ggX8_finishes_X8_setPart
set_option maxRecDepth 20000 in
theorem ggX8_finishes_X8_isHow : GoodIn wsX8_finishes wsX8_isHow := goodIn_r _ [14, 15, 16, 17, 5, 18, 1, 31, 32, 33, 34, 35, 36, 37, 38, 39, 40, 41, 42, 43, 44] (by decide +kernel) (by decide +kernel)
set_option maxRecDepth 20000 in
theorem gX8_finishes_X8_isHow : GoodIn wsX8_finishes (wsV RX8 44 RX8 yX8_isHow wsX8_isHow) := goodIn_app (goodIn_of _ (by decide +kernel)) ggX8_finishes_X8_isHow
set_option maxRecDepth 20000 in
theorem ggX8_finishes_X8_leastLoaded : GoodIn wsX8_finishes wsX8_leastLoaded := goodIn_r _ [22, 23, 24, 25, 5, 26, 1, 15, 16, 17, 18, 31, 32, 33, 34, 35, 36, 37, 38, 39, 40, 41, 42, 43, 44] (by decide +kernel) (by decide +kernel)
set_option maxRecDepth 20000 in
theorem gX8_finishes_X8_leastLoaded : GoodIn wsX8_finishes (wsV RX8 70 RX8 yX8_leastLoaded wsX8_leastLoaded) := goodIn_app (goodIn_of _ (by decide +kernel)) ggX8_finishes_X8_leastLoaded
set_option maxRecDepth 20000 in
theorem ggX8_finishes_X8_loadOf : GoodIn wsX8_finishes wsX8_loadOf := goodIn_r _ [26, 1, 15, 16, 17, 5, 18, 31, 32, 33, 34, 35, 36, 37, 38, 39, 40, 41, 42, 43, 44] (by decide +kernel) (by decide +kernel)
set_option maxRecDepth 20000 in
theorem gX8_finishes_X8_loadOf : GoodIn wsX8_finishes (wsV RX8 67 RX8 yX8_loadOf wsX8_loadOf) := goodIn_app (goodIn_of _ (by decide +kernel)) ggX8_finishes_X8_loadOf
set_option maxRecDepth 20000 in
theorem ggX8_finishes_X8_part : GoodIn wsX8_finishes wsX8_part := goodIn_r _ [18, 1, 31, 32, 33, 34, 35, 36, 37, 38, 39, 40, 41, 42, 43, 44] (by decide +kernel) (by decide +kernel)
set_option maxRecDepth 20000 in
theorem gX8_finishes_X8_part : GoodIn wsX8_finishes (wsV RX8 40 RX8 yX8_part wsX8_part) := goodIn_app (goodIn_of _ (by decide +kernel)) ggX8_finishes_X8_part
set_option maxRecDepth 20000 in
theorem ggX8_finishes_X8_ofCrewPart : GoodIn wsX8_finishes wsX8_ofCrewPart := goodIn_r _ [30, 1, 31, 32, 33, 34, 35, 36, 37, 38, 39, 40, 41, 42, 43, 44] (by decide +kernel) (by decide +kernel)
set_option maxRecDepth 20000 in
theorem gX8_finishes_X8_ofCrewPart : GoodIn wsX8_finishes (wsV RX8 73 RX8 yX8_ofCrewPart wsX8_ofCrewPart) := goodIn_app (goodIn_of _ (by decide +kernel)) ggX8_finishes_X8_ofCrewPart
theorem dX8_finishes_0 : decode cX8_finishes 0 = .ok (.aload_n 0, 1) := by decide +kernel
theorem dX8_finishes_1 : decode cX8_finishes 1 = .ok (.iload_n 1, 1) := by decide +kernel
theorem dX8_finishes_2 : decode cX8_finishes 2 = .ok (.iconst 2, 1) := by decide +kernel
theorem dX8_finishes_3 : decode cX8_finishes 3 = .ok (.bipush (-6), 2) := by decide +kernel
theorem dX8_finishes_5 : decode cX8_finishes 5 = .ok (.invokevirtual 64, 3) := by decide +kernel
theorem dX8_finishes_8 : decode cX8_finishes 8 = .ok (.aload_n 0, 1) := by decide +kernel
theorem dX8_finishes_9 : decode cX8_finishes 9 = .ok (.iload_n 2, 1) := by decide +kernel
theorem dX8_finishes_10 : decode cX8_finishes 10 = .ok (.bipush 7, 2) := by decide +kernel
theorem dX8_finishes_12 : decode cX8_finishes 12 = .ok (.bipush (-6), 2) := by decide +kernel
theorem dX8_finishes_14 : decode cX8_finishes 14 = .ok (.invokevirtual 48, 3) := by decide +kernel
theorem dX8_finishes_17 : decode cX8_finishes 17 = .ok (.aload_n 0, 1) := by decide +kernel
theorem dX8_finishes_18 : decode cX8_finishes 18 = .ok (.iload_n 2, 1) := by decide +kernel
theorem dX8_finishes_19 : decode cX8_finishes 19 = .ok (.iconst 3, 1) := by decide +kernel
theorem dX8_finishes_20 : decode cX8_finishes 20 = .ok (.invokevirtual 44, 3) := by decide +kernel
theorem dX8_finishes_23 : decode cX8_finishes 23 = .ok (.ifCond .eq 66, 3) := by decide +kernel
theorem dX8_finishes_26 : decode cX8_finishes 26 = .ok (.aload_n 0, 1) := by decide +kernel
theorem dX8_finishes_27 : decode cX8_finishes 27 = .ok (.invokevirtual 70, 3) := by decide +kernel
theorem dX8_finishes_30 : decode cX8_finishes 30 = .ok (.istore_n 3, 1) := by decide +kernel
theorem dX8_finishes_31 : decode cX8_finishes 31 = .ok (.aload_n 0, 1) := by decide +kernel
theorem dX8_finishes_32 : decode cX8_finishes 32 = .ok (.iload_n 2, 1) := by decide +kernel
theorem dX8_finishes_33 : decode cX8_finishes 33 = .ok (.iconst 4, 1) := by decide +kernel
theorem dX8_finishes_34 : decode cX8_finishes 34 = .ok (.iconst 4, 1) := by decide +kernel
theorem dX8_finishes_35 : decode cX8_finishes 35 = .ok (.invokevirtual 48, 3) := by decide +kernel
theorem dX8_finishes_38 : decode cX8_finishes 38 = .ok (.aload_n 0, 1) := by decide +kernel
theorem dX8_finishes_39 : decode cX8_finishes 39 = .ok (.iload_n 2, 1) := by decide +kernel
theorem dX8_finishes_40 : decode cX8_finishes 40 = .ok (.bipush 6, 2) := by decide +kernel
theorem dX8_finishes_42 : decode cX8_finishes 42 = .ok (.aload_n 0, 1) := by decide +kernel
theorem dX8_finishes_43 : decode cX8_finishes 43 = .ok (.iload_n 3, 1) := by decide +kernel
theorem dX8_finishes_44 : decode cX8_finishes 44 = .ok (.invokevirtual 67, 3) := by decide +kernel
theorem dX8_finishes_47 : decode cX8_finishes 47 = .ok (.aload_n 0, 1) := by decide +kernel
theorem dX8_finishes_48 : decode cX8_finishes 48 = .ok (.iload_n 2, 1) := by decide +kernel
theorem dX8_finishes_49 : decode cX8_finishes 49 = .ok (.iconst 2, 1) := by decide +kernel
theorem dX8_finishes_50 : decode cX8_finishes 50 = .ok (.invokevirtual 40, 3) := by decide +kernel
theorem dX8_finishes_53 : decode cX8_finishes 53 = .ok (.iadd, 1) := by decide +kernel
theorem dX8_finishes_54 : decode cX8_finishes 54 = .ok (.aload_n 0, 1) := by decide +kernel
theorem dX8_finishes_55 : decode cX8_finishes 55 = .ok (.getfield 7, 3) := by decide +kernel
theorem dX8_finishes_58 : decode cX8_finishes 58 = .ok (.iconst 2, 1) := by decide +kernel
theorem dX8_finishes_59 : decode cX8_finishes 59 = .ok (.iaload, 1) := by decide +kernel
theorem dX8_finishes_60 : decode cX8_finishes 60 = .ok (.if_icmp .gt 7, 3) := by decide +kernel
theorem dX8_finishes_63 : decode cX8_finishes 63 = .ok (.iload_n 3, 1) := by decide +kernel
theorem dX8_finishes_64 : decode cX8_finishes 64 = .ok (.goto 5, 3) := by decide +kernel
theorem dX8_finishes_67 : decode cX8_finishes 67 = .ok (.bipush (-6), 2) := by decide +kernel
theorem dX8_finishes_69 : decode cX8_finishes 69 = .ok (.invokevirtual 48, 3) := by decide +kernel
theorem dX8_finishes_72 : decode cX8_finishes 72 = .ok (.aload_n 0, 1) := by decide +kernel
theorem dX8_finishes_73 : decode cX8_finishes 73 = .ok (.iload_n 1, 1) := by decide +kernel
theorem dX8_finishes_74 : decode cX8_finishes 74 = .ok (.iconst 5, 1) := by decide +kernel
theorem dX8_finishes_75 : decode cX8_finishes 75 = .ok (.aload_n 0, 1) := by decide +kernel
theorem dX8_finishes_76 : decode cX8_finishes 76 = .ok (.iload_n 1, 1) := by decide +kernel
theorem dX8_finishes_77 : decode cX8_finishes 77 = .ok (.iconst 5, 1) := by decide +kernel
theorem dX8_finishes_78 : decode cX8_finishes 78 = .ok (.invokevirtual 73, 3) := by decide +kernel
theorem dX8_finishes_81 : decode cX8_finishes 81 = .ok (.iconst 1, 1) := by decide +kernel
theorem dX8_finishes_82 : decode cX8_finishes 82 = .ok (.iadd, 1) := by decide +kernel
theorem dX8_finishes_83 : decode cX8_finishes 83 = .ok (.invokevirtual 64, 3) := by decide +kernel
theorem dX8_finishes_86 : decode cX8_finishes 86 = .ok (.goto 55, 3) := by decide +kernel
theorem dX8_finishes_89 : decode cX8_finishes 89 = .ok (.aload_n 0, 1) := by decide +kernel
theorem dX8_finishes_90 : decode cX8_finishes 90 = .ok (.iload_n 2, 1) := by decide +kernel
theorem dX8_finishes_91 : decode cX8_finishes 91 = .ok (.iconst 4, 1) := by decide +kernel
theorem dX8_finishes_92 : decode cX8_finishes 92 = .ok (.bipush 6, 2) := by decide +kernel
theorem dX8_finishes_94 : decode cX8_finishes 94 = .ok (.invokevirtual 48, 3) := by decide +kernel
theorem dX8_finishes_97 : decode cX8_finishes 97 = .ok (.aload_n 0, 1) := by decide +kernel
theorem dX8_finishes_98 : decode cX8_finishes 98 = .ok (.iload_n 1, 1) := by decide +kernel
theorem dX8_finishes_99 : decode cX8_finishes 99 = .ok (.bipush 6, 2) := by decide +kernel
theorem dX8_finishes_101 : decode cX8_finishes 101 = .ok (.aload_n 0, 1) := by decide +kernel
theorem dX8_finishes_102 : decode cX8_finishes 102 = .ok (.iload_n 1, 1) := by decide +kernel
theorem dX8_finishes_103 : decode cX8_finishes 103 = .ok (.bipush 6, 2) := by decide +kernel
theorem dX8_finishes_105 : decode cX8_finishes 105 = .ok (.invokevirtual 73, 3) := by decide +kernel
theorem dX8_finishes_108 : decode cX8_finishes 108 = .ok (.iconst 1, 1) := by decide +kernel
theorem dX8_finishes_109 : decode cX8_finishes 109 = .ok (.iadd, 1) := by decide +kernel
theorem dX8_finishes_110 : decode cX8_finishes 110 = .ok (.invokevirtual 64, 3) := by decide +kernel
theorem dX8_finishes_113 : decode cX8_finishes 113 = .ok (.aload_n 0, 1) := by decide +kernel
theorem dX8_finishes_114 : decode cX8_finishes 114 = .ok (.getfield 7, 3) := by decide +kernel
theorem dX8_finishes_117 : decode cX8_finishes 117 = .ok (.bipush 7, 2) := by decide +kernel
theorem dX8_finishes_119 : decode cX8_finishes 119 = .ok (.dup2, 1) := by decide +kernel
theorem dX8_finishes_120 : decode cX8_finishes 120 = .ok (.iaload, 1) := by decide +kernel
theorem dX8_finishes_121 : decode cX8_finishes 121 = .ok (.iload_n 2, 1) := by decide +kernel
theorem dX8_finishes_122 : decode cX8_finishes 122 = .ok (.aload_n 0, 1) := by decide +kernel
theorem dX8_finishes_123 : decode cX8_finishes 123 = .ok (.getfield 7, 3) := by decide +kernel
theorem dX8_finishes_126 : decode cX8_finishes 126 = .ok (.iconst 3, 1) := by decide +kernel
theorem dX8_finishes_127 : decode cX8_finishes 127 = .ok (.iaload, 1) := by decide +kernel
theorem dX8_finishes_128 : decode cX8_finishes 128 = .ok (.iadd, 1) := by decide +kernel
theorem dX8_finishes_129 : decode cX8_finishes 129 = .ok (.iconst 4, 1) := by decide +kernel
theorem dX8_finishes_130 : decode cX8_finishes 130 = .ok (.irem, 1) := by decide +kernel
theorem dX8_finishes_131 : decode cX8_finishes 131 = .ok (.ifCond .ne 7, 3) := by decide +kernel
theorem dX8_finishes_134 : decode cX8_finishes 134 = .ok (.iconst 1, 1) := by decide +kernel
theorem dX8_finishes_135 : decode cX8_finishes 135 = .ok (.goto 4, 3) := by decide +kernel
theorem dX8_finishes_138 : decode cX8_finishes 138 = .ok (.iconst 0, 1) := by decide +kernel
theorem dX8_finishes_139 : decode cX8_finishes 139 = .ok (.iadd, 1) := by decide +kernel
theorem dX8_finishes_140 : decode cX8_finishes 140 = .ok (.iastore, 1) := by decide +kernel
theorem dX8_finishes_141 : decode cX8_finishes 141 = .ok (.return_, 1) := by decide +kernel
set_option maxRecDepth 20000 in
theorem ggX8_works_X8_ofCrewPart : GoodIn wsX8_works wsX8_ofCrewPart := goodIn_r _ [5, 6, 35, 36, 37, 38, 39, 40, 41, 42, 43, 44, 45, 46, 47, 48] (by decide +kernel) (by decide +kernel)
set_option maxRecDepth 20000 in
theorem gX8_works_X8_ofCrewPart : GoodIn wsX8_works (wsV RX8 73 RX8 yX8_ofCrewPart wsX8_ofCrewPart) := goodIn_app (goodIn_of _ (by decide +kernel)) ggX8_works_X8_ofCrewPart
set_option maxRecDepth 20000 in
theorem ggX8_works_X8_part : GoodIn wsX8_works wsX8_part := goodIn_r _ [10, 6, 35, 36, 37, 38, 39, 40, 41, 42, 43, 44, 45, 46, 47, 48] (by decide +kernel) (by decide +kernel)
set_option maxRecDepth 20000 in
theorem gX8_works_X8_part : GoodIn wsX8_works (wsV RX8 40 RX8 yX8_part wsX8_part) := goodIn_app (goodIn_of _ (by decide +kernel)) ggX8_works_X8_part
set_option maxRecDepth 20000 in
theorem ggX8_works_X8_setPart : GoodIn wsX8_works wsX8_setPart := goodIn_r _ [14, 6, 35, 36, 37, 38, 39, 40, 41, 42, 43, 44, 45, 46, 47, 48] (by decide +kernel) (by decide +kernel)
set_option maxRecDepth 20000 in
theorem gX8_works_X8_setPart : GoodIn wsX8_works (wsV RX8 48 RX8 yX8_setPart wsX8_setPart) := goodIn_app (goodIn_of _ (by decide +kernel)) ggX8_works_X8_setPart
set_option maxRecDepth 20000 in
theorem ggX8_works_X8_setCrew : GoodIn wsX8_works wsX8_setCrew := goodIn_r _ [18, 6, 35, 36, 37, 38, 39, 40, 41, 42, 43, 44, 45, 46, 47, 48] (by decide +kernel) (by decide +kernel)
set_option maxRecDepth 20000 in
theorem gX8_works_X8_setCrew : GoodIn wsX8_works (wsV RX8 64 RX8 yX8_setCrew wsX8_setCrew) := goodIn_app (goodIn_of _ (by decide +kernel)) ggX8_works_X8_setCrew
set_option maxRecDepth 20000 in
theorem ggX8_works_X8_finishes : GoodIn wsX8_works wsX8_finishes := goodIn_r _ [22, 6, 15, 16, 17, 4, 18, 11, 12, 13, 14, 23, 24, 25, 26, 7, 8, 9, 10, 27, 28, 29, 30, 31, 32, 33, 34, 1, 2, 3, 5, 35, 36, 37, 38, 39, 40, 41, 42, 43, 44, 45, 46, 47, 48] (by decide +kernel) (by decide +kernel)
set_option maxRecDepth 20000 in
theorem gX8_works_X8_finishes : GoodIn wsX8_works (wsV RX8 76 RX8 yX8_finishes wsX8_finishes) := goodIn_app (goodIn_of _ (by decide +kernel)) ggX8_works_X8_finishes
theorem dX8_works_0 : decode cX8_works 0 = .ok (.aload_n 0, 1) := by decide +kernel
theorem dX8_works_1 : decode cX8_works 1 = .ok (.iload_n 1, 1) := by decide +kernel
theorem dX8_works_2 : decode cX8_works 2 = .ok (.iconst 2, 1) := by decide +kernel
theorem dX8_works_3 : decode cX8_works 3 = .ok (.invokevirtual 73, 3) := by decide +kernel
theorem dX8_works_6 : decode cX8_works 6 = .ok (.istore_n 2, 1) := by decide +kernel
theorem dX8_works_7 : decode cX8_works 7 = .ok (.aload_n 0, 1) := by decide +kernel
theorem dX8_works_8 : decode cX8_works 8 = .ok (.iload_n 2, 1) := by decide +kernel
theorem dX8_works_9 : decode cX8_works 9 = .ok (.iconst 5, 1) := by decide +kernel
theorem dX8_works_10 : decode cX8_works 10 = .ok (.invokevirtual 40, 3) := by decide +kernel
theorem dX8_works_13 : decode cX8_works 13 = .ok (.aload_n 0, 1) := by decide +kernel
theorem dX8_works_14 : decode cX8_works 14 = .ok (.iload_n 1, 1) := by decide +kernel
theorem dX8_works_15 : decode cX8_works 15 = .ok (.iconst 0, 1) := by decide +kernel
theorem dX8_works_16 : decode cX8_works 16 = .ok (.invokevirtual 73, 3) := by decide +kernel
theorem dX8_works_19 : decode cX8_works 19 = .ok (.isub, 1) := by decide +kernel
theorem dX8_works_20 : decode cX8_works 20 = .ok (.istore_n 3, 1) := by decide +kernel
theorem dX8_works_21 : decode cX8_works 21 = .ok (.aload_n 0, 1) := by decide +kernel
theorem dX8_works_22 : decode cX8_works 22 = .ok (.iload_n 2, 1) := by decide +kernel
theorem dX8_works_23 : decode cX8_works 23 = .ok (.iconst 5, 1) := by decide +kernel
theorem dX8_works_24 : decode cX8_works 24 = .ok (.iload_n 3, 1) := by decide +kernel
theorem dX8_works_25 : decode cX8_works 25 = .ok (.ifCond .ge 7, 3) := by decide +kernel
theorem dX8_works_28 : decode cX8_works 28 = .ok (.iconst 0, 1) := by decide +kernel
theorem dX8_works_29 : decode cX8_works 29 = .ok (.goto 4, 3) := by decide +kernel
theorem dX8_works_32 : decode cX8_works 32 = .ok (.iload_n 3, 1) := by decide +kernel
theorem dX8_works_33 : decode cX8_works 33 = .ok (.invokevirtual 48, 3) := by decide +kernel
theorem dX8_works_36 : decode cX8_works 36 = .ok (.aload_n 0, 1) := by decide +kernel
theorem dX8_works_37 : decode cX8_works 37 = .ok (.iload_n 2, 1) := by decide +kernel
theorem dX8_works_38 : decode cX8_works 38 = .ok (.bipush 9, 2) := by decide +kernel
theorem dX8_works_40 : decode cX8_works 40 = .ok (.aload_n 0, 1) := by decide +kernel
theorem dX8_works_41 : decode cX8_works 41 = .ok (.iload_n 2, 1) := by decide +kernel
theorem dX8_works_42 : decode cX8_works 42 = .ok (.bipush 9, 2) := by decide +kernel
theorem dX8_works_44 : decode cX8_works 44 = .ok (.invokevirtual 40, 3) := by decide +kernel
theorem dX8_works_47 : decode cX8_works 47 = .ok (.iconst 1, 1) := by decide +kernel
theorem dX8_works_48 : decode cX8_works 48 = .ok (.iadd, 1) := by decide +kernel
theorem dX8_works_49 : decode cX8_works 49 = .ok (.invokevirtual 48, 3) := by decide +kernel
theorem dX8_works_52 : decode cX8_works 52 = .ok (.aload_n 0, 1) := by decide +kernel
theorem dX8_works_53 : decode cX8_works 53 = .ok (.iload_n 1, 1) := by decide +kernel
theorem dX8_works_54 : decode cX8_works 54 = .ok (.iconst 3, 1) := by decide +kernel
theorem dX8_works_55 : decode cX8_works 55 = .ok (.aload_n 0, 1) := by decide +kernel
theorem dX8_works_56 : decode cX8_works 56 = .ok (.iload_n 1, 1) := by decide +kernel
theorem dX8_works_57 : decode cX8_works 57 = .ok (.iconst 3, 1) := by decide +kernel
theorem dX8_works_58 : decode cX8_works 58 = .ok (.invokevirtual 73, 3) := by decide +kernel
theorem dX8_works_61 : decode cX8_works 61 = .ok (.iconst 1, 1) := by decide +kernel
theorem dX8_works_62 : decode cX8_works 62 = .ok (.iadd, 1) := by decide +kernel
theorem dX8_works_63 : decode cX8_works 63 = .ok (.invokevirtual 64, 3) := by decide +kernel
theorem dX8_works_66 : decode cX8_works 66 = .ok (.aload_n 0, 1) := by decide +kernel
theorem dX8_works_67 : decode cX8_works 67 = .ok (.iload_n 1, 1) := by decide +kernel
theorem dX8_works_68 : decode cX8_works 68 = .ok (.iconst 4, 1) := by decide +kernel
theorem dX8_works_69 : decode cX8_works 69 = .ok (.aload_n 0, 1) := by decide +kernel
theorem dX8_works_70 : decode cX8_works 70 = .ok (.iload_n 1, 1) := by decide +kernel
theorem dX8_works_71 : decode cX8_works 71 = .ok (.iconst 4, 1) := by decide +kernel
theorem dX8_works_72 : decode cX8_works 72 = .ok (.invokevirtual 73, 3) := by decide +kernel
theorem dX8_works_75 : decode cX8_works 75 = .ok (.aload_n 0, 1) := by decide +kernel
theorem dX8_works_76 : decode cX8_works 76 = .ok (.iload_n 1, 1) := by decide +kernel
theorem dX8_works_77 : decode cX8_works 77 = .ok (.iconst 1, 1) := by decide +kernel
theorem dX8_works_78 : decode cX8_works 78 = .ok (.invokevirtual 73, 3) := by decide +kernel
theorem dX8_works_81 : decode cX8_works 81 = .ok (.iadd, 1) := by decide +kernel
theorem dX8_works_82 : decode cX8_works 82 = .ok (.invokevirtual 64, 3) := by decide +kernel
theorem dX8_works_85 : decode cX8_works 85 = .ok (.iload_n 3, 1) := by decide +kernel
theorem dX8_works_86 : decode cX8_works 86 = .ok (.ifCond .le 5, 3) := by decide +kernel
theorem dX8_works_89 : decode cX8_works 89 = .ok (.iconst 0, 1) := by decide +kernel
theorem dX8_works_90 : decode cX8_works 90 = .ok (.ireturn, 1) := by decide +kernel
theorem dX8_works_91 : decode cX8_works 91 = .ok (.aload_n 0, 1) := by decide +kernel
theorem dX8_works_92 : decode cX8_works 92 = .ok (.iload_n 1, 1) := by decide +kernel
theorem dX8_works_93 : decode cX8_works 93 = .ok (.iload_n 2, 1) := by decide +kernel
theorem dX8_works_94 : decode cX8_works 94 = .ok (.invokevirtual 76, 3) := by decide +kernel
theorem dX8_works_97 : decode cX8_works 97 = .ok (.iconst 1, 1) := by decide +kernel
theorem dX8_works_98 : decode cX8_works 98 = .ok (.ireturn, 1) := by decide +kernel
set_option maxRecDepth 20000 in
theorem ggX8_passesOne_X8_lorries : GoodIn wsX8_passesOne wsX8_lorries := goodIn_r _ [6, 1, 7, 8, 9, 5, 10, 11, 12, 13, 14, 15, 16, 17, 18, 19, 20, 21, 22, 63, 64, 65, 66, 67, 68, 69, 70, 71, 72, 73, 74, 75, 76] (by decide +kernel) (by decide +kernel)
set_option maxRecDepth 20000 in
theorem gX8_passesOne_X8_lorries : GoodIn wsX8_passesOne (wsV RX8 80 RX8 yX8_lorries wsX8_lorries) := goodIn_app (goodIn_of _ (by decide +kernel)) ggX8_passesOne_X8_lorries
set_option maxRecDepth 20000 in
theorem ggX8_passesOne_X8_ofCrewPart : GoodIn wsX8_passesOne wsX8_ofCrewPart := goodIn_r _ [26, 1, 63, 64, 65, 66, 67, 68, 69, 70, 71, 72, 73, 74, 75, 76] (by decide +kernel) (by decide +kernel)
set_option maxRecDepth 20000 in
theorem gX8_passesOne_X8_ofCrewPart : GoodIn wsX8_passesOne (wsV RX8 73 RX8 yX8_ofCrewPart wsX8_ofCrewPart) := goodIn_app (goodIn_of _ (by decide +kernel)) ggX8_passesOne_X8_ofCrewPart
set_option maxRecDepth 20000 in
theorem ggX8_passesOne_X8_nextStand : GoodIn wsX8_passesOne wsX8_nextStand := goodIn_r _ [30, 1, 7, 8, 9, 5, 10, 11, 12, 13, 14, 31, 32, 33, 34, 35, 36, 37, 38, 63, 64, 65, 66, 67, 68, 69, 70, 71, 72, 73, 74, 75, 76] (by decide +kernel) (by decide +kernel)
set_option maxRecDepth 20000 in
theorem gX8_passesOne_X8_nextStand : GoodIn wsX8_passesOne (wsV RX8 83 RX8 yX8_nextStand wsX8_nextStand) := goodIn_app (goodIn_of _ (by decide +kernel)) ggX8_passesOne_X8_nextStand
set_option maxRecDepth 20000 in
theorem ggX8_passesOne_X8_takes : GoodIn wsX8_passesOne wsX8_takes := goodIn_r _ [42, 1, 43, 44, 45, 5, 46, 15, 16, 17, 18, 11, 12, 13, 14, 63, 64, 65, 66, 67, 68, 69, 70, 71, 72, 73, 74, 75, 76] (by decide +kernel) (by decide +kernel)
set_option maxRecDepth 20000 in
theorem gX8_passesOne_X8_takes : GoodIn wsX8_passesOne (wsV RX8 86 RX8 yX8_takes wsX8_takes) := goodIn_app (goodIn_of _ (by decide +kernel)) ggX8_passesOne_X8_takes
set_option maxRecDepth 20000 in
theorem ggX8_passesOne_X8_works : GoodIn wsX8_passesOne wsX8_works := goodIn_r _ [50, 23, 24, 25, 5, 26, 1, 11, 12, 13, 14, 15, 16, 17, 18, 43, 44, 45, 46, 51, 52, 53, 54, 7, 8, 9, 10, 55, 56, 57, 58, 59, 60, 61, 62, 63, 64, 65, 66, 67, 68, 69, 70, 71, 72, 73, 74, 75, 76] (by decide +kernel) (by decide +kernel)
set_option maxRecDepth 20000 in
theorem gX8_passesOne_X8_works : GoodIn wsX8_passesOne (wsV RX8 89 RX8 yX8_works wsX8_works) := goodIn_app (goodIn_of _ (by decide +kernel)) ggX8_passesOne_X8_works
theorem dX8_passesOne_0 : decode cX8_passesOne 0 = .ok (.iconst 0, 1) := by decide +kernel
theorem dX8_passesOne_1 : decode cX8_passesOne 1 = .ok (.istore_n 1, 1) := by decide +kernel
theorem dX8_passesOne_2 : decode cX8_passesOne 2 = .ok (.aload_n 0, 1) := by decide +kernel
theorem dX8_passesOne_3 : decode cX8_passesOne 3 = .ok (.invokevirtual 80, 3) := by decide +kernel
theorem dX8_passesOne_6 : decode cX8_passesOne 6 = .ok (.iconst 0, 1) := by decide +kernel
theorem dX8_passesOne_7 : decode cX8_passesOne 7 = .ok (.istore_n 2, 1) := by decide +kernel
theorem dX8_passesOne_8 : decode cX8_passesOne 8 = .ok (.iload_n 2, 1) := by decide +kernel
theorem dX8_passesOne_9 : decode cX8_passesOne 9 = .ok (.aload_n 0, 1) := by decide +kernel
theorem dX8_passesOne_10 : decode cX8_passesOne 10 = .ok (.getfield 7, 3) := by decide +kernel
theorem dX8_passesOne_13 : decode cX8_passesOne 13 = .ok (.iconst 5, 1) := by decide +kernel
theorem dX8_passesOne_14 : decode cX8_passesOne 14 = .ok (.iaload, 1) := by decide +kernel
theorem dX8_passesOne_15 : decode cX8_passesOne 15 = .ok (.if_icmp .ge 42, 3) := by decide +kernel
theorem dX8_passesOne_18 : decode cX8_passesOne 18 = .ok (.aload_n 0, 1) := by decide +kernel
theorem dX8_passesOne_19 : decode cX8_passesOne 19 = .ok (.iload_n 2, 1) := by decide +kernel
theorem dX8_passesOne_20 : decode cX8_passesOne 20 = .ok (.iconst 2, 1) := by decide +kernel
theorem dX8_passesOne_21 : decode cX8_passesOne 21 = .ok (.invokevirtual 73, 3) := by decide +kernel
theorem dX8_passesOne_24 : decode cX8_passesOne 24 = .ok (.bipush (-6), 2) := by decide +kernel
theorem dX8_passesOne_26 : decode cX8_passesOne 26 = .ok (.if_icmp .ne 10, 3) := by decide +kernel
theorem dX8_passesOne_29 : decode cX8_passesOne 29 = .ok (.aload_n 0, 1) := by decide +kernel
theorem dX8_passesOne_30 : decode cX8_passesOne 30 = .ok (.invokevirtual 83, 3) := by decide +kernel
theorem dX8_passesOne_33 : decode cX8_passesOne 33 = .ok (.goto 5, 3) := by decide +kernel
theorem dX8_passesOne_36 : decode cX8_passesOne 36 = .ok (.bipush (-6), 2) := by decide +kernel
theorem dX8_passesOne_38 : decode cX8_passesOne 38 = .ok (.istore_n 3, 1) := by decide +kernel
theorem dX8_passesOne_39 : decode cX8_passesOne 39 = .ok (.iload_n 3, 1) := by decide +kernel
theorem dX8_passesOne_40 : decode cX8_passesOne 40 = .ok (.bipush (-6), 2) := by decide +kernel
theorem dX8_passesOne_42 : decode cX8_passesOne 42 = .ok (.if_icmp .eq 9, 3) := by decide +kernel
theorem dX8_passesOne_45 : decode cX8_passesOne 45 = .ok (.aload_n 0, 1) := by decide +kernel
theorem dX8_passesOne_46 : decode cX8_passesOne 46 = .ok (.iload_n 2, 1) := by decide +kernel
theorem dX8_passesOne_47 : decode cX8_passesOne 47 = .ok (.iload_n 3, 1) := by decide +kernel
theorem dX8_passesOne_48 : decode cX8_passesOne 48 = .ok (.invokevirtual 86, 3) := by decide +kernel
theorem dX8_passesOne_51 : decode cX8_passesOne 51 = .ok (.iinc 2 1, 3) := by decide +kernel
theorem dX8_passesOne_54 : decode cX8_passesOne 54 = .ok (.goto (-46), 3) := by decide +kernel
theorem dX8_passesOne_57 : decode cX8_passesOne 57 = .ok (.iconst 0, 1) := by decide +kernel
theorem dX8_passesOne_58 : decode cX8_passesOne 58 = .ok (.istore_n 2, 1) := by decide +kernel
theorem dX8_passesOne_59 : decode cX8_passesOne 59 = .ok (.iload_n 2, 1) := by decide +kernel
theorem dX8_passesOne_60 : decode cX8_passesOne 60 = .ok (.aload_n 0, 1) := by decide +kernel
theorem dX8_passesOne_61 : decode cX8_passesOne 61 = .ok (.getfield 7, 3) := by decide +kernel
theorem dX8_passesOne_64 : decode cX8_passesOne 64 = .ok (.iconst 5, 1) := by decide +kernel
theorem dX8_passesOne_65 : decode cX8_passesOne 65 = .ok (.iaload, 1) := by decide +kernel
theorem dX8_passesOne_66 : decode cX8_passesOne 66 = .ok (.if_icmp .ge 36, 3) := by decide +kernel
theorem dX8_passesOne_69 : decode cX8_passesOne 69 = .ok (.iload_n 1, 1) := by decide +kernel
theorem dX8_passesOne_70 : decode cX8_passesOne 70 = .ok (.aload_n 0, 1) := by decide +kernel
theorem dX8_passesOne_71 : decode cX8_passesOne 71 = .ok (.iload_n 2, 1) := by decide +kernel
theorem dX8_passesOne_72 : decode cX8_passesOne 72 = .ok (.iconst 2, 1) := by decide +kernel
theorem dX8_passesOne_73 : decode cX8_passesOne 73 = .ok (.invokevirtual 73, 3) := by decide +kernel
theorem dX8_passesOne_76 : decode cX8_passesOne 76 = .ok (.bipush (-6), 2) := by decide +kernel
theorem dX8_passesOne_78 : decode cX8_passesOne 78 = .ok (.if_icmp .eq 15, 3) := by decide +kernel
theorem dX8_passesOne_81 : decode cX8_passesOne 81 = .ok (.aload_n 0, 1) := by decide +kernel
theorem dX8_passesOne_82 : decode cX8_passesOne 82 = .ok (.iload_n 2, 1) := by decide +kernel
theorem dX8_passesOne_83 : decode cX8_passesOne 83 = .ok (.invokevirtual 89, 3) := by decide +kernel
theorem dX8_passesOne_86 : decode cX8_passesOne 86 = .ok (.ifCond .eq 7, 3) := by decide +kernel
theorem dX8_passesOne_89 : decode cX8_passesOne 89 = .ok (.iconst 1, 1) := by decide +kernel
theorem dX8_passesOne_90 : decode cX8_passesOne 90 = .ok (.goto 4, 3) := by decide +kernel
theorem dX8_passesOne_93 : decode cX8_passesOne 93 = .ok (.iconst 0, 1) := by decide +kernel
theorem dX8_passesOne_94 : decode cX8_passesOne 94 = .ok (.iadd, 1) := by decide +kernel
theorem dX8_passesOne_95 : decode cX8_passesOne 95 = .ok (.istore_n 1, 1) := by decide +kernel
theorem dX8_passesOne_96 : decode cX8_passesOne 96 = .ok (.iinc 2 1, 3) := by decide +kernel
theorem dX8_passesOne_99 : decode cX8_passesOne 99 = .ok (.goto (-40), 3) := by decide +kernel
theorem dX8_passesOne_102 : decode cX8_passesOne 102 = .ok (.aload_n 0, 1) := by decide +kernel
theorem dX8_passesOne_103 : decode cX8_passesOne 103 = .ok (.getfield 7, 3) := by decide +kernel
theorem dX8_passesOne_106 : decode cX8_passesOne 106 = .ok (.iconst 3, 1) := by decide +kernel
theorem dX8_passesOne_107 : decode cX8_passesOne 107 = .ok (.dup2, 1) := by decide +kernel
theorem dX8_passesOne_108 : decode cX8_passesOne 108 = .ok (.iaload, 1) := by decide +kernel
theorem dX8_passesOne_109 : decode cX8_passesOne 109 = .ok (.iconst 1, 1) := by decide +kernel
theorem dX8_passesOne_110 : decode cX8_passesOne 110 = .ok (.iadd, 1) := by decide +kernel
theorem dX8_passesOne_111 : decode cX8_passesOne 111 = .ok (.iastore, 1) := by decide +kernel
theorem dX8_passesOne_112 : decode cX8_passesOne 112 = .ok (.iload_n 1, 1) := by decide +kernel
theorem dX8_passesOne_113 : decode cX8_passesOne 113 = .ok (.ireturn, 1) := by decide +kernel
set_option maxRecDepth 20000 in
theorem ggX8_passes_X8_passesOne : GoodIn wsX8_passes wsX8_passesOne := goodIn_r _ [5, 6, 7, 8, 9, 4, 10, 11, 12, 13, 14, 15, 16, 17, 18, 19, 20, 21, 22, 23, 24, 25, 26, 27, 28, 29, 30, 31, 32, 33, 34, 35, 36, 37, 38, 39, 40, 41, 42, 43, 44, 45, 46, 47, 48, 49, 50, 51, 52, 53, 54, 55, 56, 57, 58, 59, 60, 61, 62, 63, 64, 65, 66, 67, 68, 69, 70, 71, 72, 73, 74, 75, 76, 77, 78, 79, 80] (by decide +kernel) (by decide +kernel)
set_option maxRecDepth 20000 in
theorem gX8_passes_X8_passesOne : GoodIn wsX8_passes (wsV RX8 92 RX8 yX8_passesOne wsX8_passesOne) := goodIn_app (goodIn_of _ (by decide +kernel)) ggX8_passes_X8_passesOne
theorem dX8_passes_0 : decode cX8_passes 0 = .ok (.iconst 0, 1) := by decide +kernel
theorem dX8_passes_1 : decode cX8_passes 1 = .ok (.istore_n 2, 1) := by decide +kernel
theorem dX8_passes_2 : decode cX8_passes 2 = .ok (.iconst 0, 1) := by decide +kernel
theorem dX8_passes_3 : decode cX8_passes 3 = .ok (.istore_n 3, 1) := by decide +kernel
theorem dX8_passes_4 : decode cX8_passes 4 = .ok (.iload_n 3, 1) := by decide +kernel
theorem dX8_passes_5 : decode cX8_passes 5 = .ok (.iload_n 1, 1) := by decide +kernel
theorem dX8_passes_6 : decode cX8_passes 6 = .ok (.if_icmp .ge 16, 3) := by decide +kernel
theorem dX8_passes_9 : decode cX8_passes 9 = .ok (.iload_n 2, 1) := by decide +kernel
theorem dX8_passes_10 : decode cX8_passes 10 = .ok (.aload_n 0, 1) := by decide +kernel
theorem dX8_passes_11 : decode cX8_passes 11 = .ok (.invokevirtual 92, 3) := by decide +kernel
theorem dX8_passes_14 : decode cX8_passes 14 = .ok (.iadd, 1) := by decide +kernel
theorem dX8_passes_15 : decode cX8_passes 15 = .ok (.istore_n 2, 1) := by decide +kernel
theorem dX8_passes_16 : decode cX8_passes 16 = .ok (.iinc 3 1, 3) := by decide +kernel
theorem dX8_passes_19 : decode cX8_passes 19 = .ok (.goto (-15), 3) := by decide +kernel
theorem dX8_passes_22 : decode cX8_passes 22 = .ok (.iload_n 2, 1) := by decide +kernel
theorem dX8_passes_23 : decode cX8_passes 23 = .ok (.ireturn, 1) := by decide +kernel
set_option maxRecDepth 20000 in
theorem ggX8_isValue_X8_within : GoodIn wsX8_isValue wsX8_within := goodIn_r _ [4] (by decide +kernel) (by decide +kernel)
set_option maxRecDepth 20000 in
theorem gX8_isValue_X8_within : GoodIn wsX8_isValue (va_wsS RX8 36 yX8_within wsX8_within) := goodIn_app (goodIn_of _ (by decide +kernel)) ggX8_isValue_X8_within
theorem dX8_isValue_0 : decode cX8_isValue 0 = .ok (.iload_n 0, 1) := by decide +kernel
theorem dX8_isValue_1 : decode cX8_isValue 1 = .ok (.ifCond .ne 13, 3) := by decide +kernel
theorem dX8_isValue_4 : decode cX8_isValue 4 = .ok (.iload_n 1, 1) := by decide +kernel
theorem dX8_isValue_5 : decode cX8_isValue 5 = .ok (.iconst 1, 1) := by decide +kernel
theorem dX8_isValue_6 : decode cX8_isValue 6 = .ok (.bipush 60, 2) := by decide +kernel
theorem dX8_isValue_8 : decode cX8_isValue 8 = .ok (.invokestatic 36, 3) := by decide +kernel
theorem dX8_isValue_11 : decode cX8_isValue 11 = .ok (.goto 39, 3) := by decide +kernel
theorem dX8_isValue_14 : decode cX8_isValue 14 = .ok (.iload_n 0, 1) := by decide +kernel
theorem dX8_isValue_15 : decode cX8_isValue 15 = .ok (.iconst 1, 1) := by decide +kernel
theorem dX8_isValue_16 : decode cX8_isValue 16 = .ok (.if_icmp .ne 13, 3) := by decide +kernel
theorem dX8_isValue_19 : decode cX8_isValue 19 = .ok (.iload_n 1, 1) := by decide +kernel
theorem dX8_isValue_20 : decode cX8_isValue 20 = .ok (.iconst 1, 1) := by decide +kernel
theorem dX8_isValue_21 : decode cX8_isValue 21 = .ok (.bipush 9, 2) := by decide +kernel
theorem dX8_isValue_23 : decode cX8_isValue 23 = .ok (.invokestatic 36, 3) := by decide +kernel
theorem dX8_isValue_26 : decode cX8_isValue 26 = .ok (.goto 24, 3) := by decide +kernel
theorem dX8_isValue_29 : decode cX8_isValue 29 = .ok (.iload_n 0, 1) := by decide +kernel
theorem dX8_isValue_30 : decode cX8_isValue 30 = .ok (.iconst 2, 1) := by decide +kernel
theorem dX8_isValue_31 : decode cX8_isValue 31 = .ok (.if_icmp .ne 18, 3) := by decide +kernel
theorem dX8_isValue_34 : decode cX8_isValue 34 = .ok (.iload_n 1, 1) := by decide +kernel
theorem dX8_isValue_35 : decode cX8_isValue 35 = .ok (.iconst 1, 1) := by decide +kernel
theorem dX8_isValue_36 : decode cX8_isValue 36 = .ok (.sipush 999, 3) := by decide +kernel
theorem dX8_isValue_39 : decode cX8_isValue 39 = .ok (.invokestatic 36, 3) := by decide +kernel
theorem dX8_isValue_42 : decode cX8_isValue 42 = .ok (.ifCond .eq 7, 3) := by decide +kernel
theorem dX8_isValue_45 : decode cX8_isValue 45 = .ok (.iconst 1, 1) := by decide +kernel
theorem dX8_isValue_46 : decode cX8_isValue 46 = .ok (.goto 4, 3) := by decide +kernel
theorem dX8_isValue_49 : decode cX8_isValue 49 = .ok (.iconst 0, 1) := by decide +kernel
theorem dX8_isValue_50 : decode cX8_isValue 50 = .ok (.ireturn, 1) := by decide +kernel
set_option maxRecDepth 20000 in
theorem ggX8_set_X8_isValue : GoodIn wsX8_set wsX8_isValue := goodIn_r _ [5, 6, 7, 4, 8] (by decide +kernel) (by decide +kernel)
set_option maxRecDepth 20000 in
theorem gX8_set_X8_isValue : GoodIn wsX8_set (va_wsS RX8 95 yX8_isValue wsX8_isValue) := goodIn_app (goodIn_of _ (by decide +kernel)) ggX8_set_X8_isValue
set_option maxRecDepth 20000 in
theorem ggX8_set_X8_record : GoodIn wsX8_set wsX8_record := goodIn_r _ [12, 13, 14, 1, 15, 16, 4, 17, 18, 19, 20, 21, 22, 23, 24, 25, 26, 27, 28, 29, 30, 31] (by decide +kernel) (by decide +kernel)
set_option maxRecDepth 20000 in
theorem gX8_set_X8_record : GoodIn wsX8_set (wsV RX8 98 RX8 yX8_record wsX8_record) := goodIn_app (goodIn_of _ (by decide +kernel)) ggX8_set_X8_record
theorem dX8_set_0 : decode cX8_set 0 = .ok (.iload_n 1, 1) := by decide +kernel
theorem dX8_set_1 : decode cX8_set 1 = .ok (.iload_n 2, 1) := by decide +kernel
theorem dX8_set_2 : decode cX8_set 2 = .ok (.invokestatic 95, 3) := by decide +kernel
theorem dX8_set_5 : decode cX8_set 5 = .ok (.ifCond .ne 6, 3) := by decide +kernel
theorem dX8_set_8 : decode cX8_set 8 = .ok (.bipush (-2), 2) := by decide +kernel
theorem dX8_set_10 : decode cX8_set 10 = .ok (.ireturn, 1) := by decide +kernel
theorem dX8_set_11 : decode cX8_set 11 = .ok (.aload_n 0, 1) := by decide +kernel
theorem dX8_set_12 : decode cX8_set 12 = .ok (.invokevirtual 98, 3) := by decide +kernel
theorem dX8_set_15 : decode cX8_set 15 = .ok (.aload_n 0, 1) := by decide +kernel
theorem dX8_set_16 : decode cX8_set 16 = .ok (.getfield 7, 3) := by decide +kernel
theorem dX8_set_19 : decode cX8_set 19 = .ok (.iload_n 1, 1) := by decide +kernel
theorem dX8_set_20 : decode cX8_set 20 = .ok (.iaload, 1) := by decide +kernel
theorem dX8_set_21 : decode cX8_set 21 = .ok (.istore_n 3, 1) := by decide +kernel
theorem dX8_set_22 : decode cX8_set 22 = .ok (.aload_n 0, 1) := by decide +kernel
theorem dX8_set_23 : decode cX8_set 23 = .ok (.getfield 7, 3) := by decide +kernel
theorem dX8_set_26 : decode cX8_set 26 = .ok (.iload_n 1, 1) := by decide +kernel
theorem dX8_set_27 : decode cX8_set 27 = .ok (.iload_n 2, 1) := by decide +kernel
theorem dX8_set_28 : decode cX8_set 28 = .ok (.iastore, 1) := by decide +kernel
theorem dX8_set_29 : decode cX8_set 29 = .ok (.iload_n 3, 1) := by decide +kernel
theorem dX8_set_30 : decode cX8_set 30 = .ok (.ireturn, 1) := by decide +kernel
set_option maxRecDepth 20000 in
theorem ggX8_whyNoStand_X8_within : GoodIn wsX8_whyNoStand wsX8_within := goodIn_r _ [5] (by decide +kernel) (by decide +kernel)
set_option maxRecDepth 20000 in
theorem gX8_whyNoStand_X8_within : GoodIn wsX8_whyNoStand (va_wsS RX8 36 yX8_within wsX8_within) := goodIn_app (goodIn_of _ (by decide +kernel)) ggX8_whyNoStand_X8_within
set_option maxRecDepth 20000 in
theorem ggX8_whyNoStand_X8_isStand : GoodIn wsX8_whyNoStand wsX8_isStand := goodIn_r _ [9, 1, 2, 3, 4, 5, 18, 19, 20, 21, 22, 23, 24, 25, 26, 27, 28, 29, 30, 31] (by decide +kernel) (by decide +kernel)
set_option maxRecDepth 20000 in
theorem gX8_whyNoStand_X8_isStand : GoodIn wsX8_whyNoStand (wsV RX8 101 RX8 yX8_isStand wsX8_isStand) := goodIn_app (goodIn_of _ (by decide +kernel)) ggX8_whyNoStand_X8_isStand
set_option maxRecDepth 20000 in
theorem ggX8_whyNoStand_X8_isHow : GoodIn wsX8_whyNoStand wsX8_isHow := goodIn_r _ [13, 14, 15, 16, 4, 17, 1, 18, 19, 20, 21, 22, 23, 24, 25, 26, 27, 28, 29, 30, 31] (by decide +kernel) (by decide +kernel)
set_option maxRecDepth 20000 in
theorem gX8_whyNoStand_X8_isHow : GoodIn wsX8_whyNoStand (wsV RX8 44 RX8 yX8_isHow wsX8_isHow) := goodIn_app (goodIn_of _ (by decide +kernel)) ggX8_whyNoStand_X8_isHow
theorem dX8_whyNoStand_0 : decode cX8_whyNoStand 0 = .ok (.iload_n 1, 1) := by decide +kernel
theorem dX8_whyNoStand_1 : decode cX8_whyNoStand 1 = .ok (.iconst 1, 1) := by decide +kernel
theorem dX8_whyNoStand_2 : decode cX8_whyNoStand 2 = .ok (.bipush 99, 2) := by decide +kernel
theorem dX8_whyNoStand_4 : decode cX8_whyNoStand 4 = .ok (.invokestatic 36, 3) := by decide +kernel
theorem dX8_whyNoStand_7 : decode cX8_whyNoStand 7 = .ok (.ifCond .eq 23, 3) := by decide +kernel
theorem dX8_whyNoStand_10 : decode cX8_whyNoStand 10 = .ok (.iload_n 2, 1) := by decide +kernel
theorem dX8_whyNoStand_11 : decode cX8_whyNoStand 11 = .ok (.iconst 1, 1) := by decide +kernel
theorem dX8_whyNoStand_12 : decode cX8_whyNoStand 12 = .ok (.bipush 20, 2) := by decide +kernel
theorem dX8_whyNoStand_14 : decode cX8_whyNoStand 14 = .ok (.invokestatic 36, 3) := by decide +kernel
theorem dX8_whyNoStand_17 : decode cX8_whyNoStand 17 = .ok (.ifCond .eq 13, 3) := by decide +kernel
theorem dX8_whyNoStand_20 : decode cX8_whyNoStand 20 = .ok (.iload_n 3, 1) := by decide +kernel
theorem dX8_whyNoStand_21 : decode cX8_whyNoStand 21 = .ok (.iconst 0, 1) := by decide +kernel
theorem dX8_whyNoStand_22 : decode cX8_whyNoStand 22 = .ok (.bipush 99, 2) := by decide +kernel
theorem dX8_whyNoStand_24 : decode cX8_whyNoStand 24 = .ok (.invokestatic 36, 3) := by decide +kernel
theorem dX8_whyNoStand_27 : decode cX8_whyNoStand 27 = .ok (.ifCond .ne 6, 3) := by decide +kernel
theorem dX8_whyNoStand_30 : decode cX8_whyNoStand 30 = .ok (.bipush (-2), 2) := by decide +kernel
theorem dX8_whyNoStand_32 : decode cX8_whyNoStand 32 = .ok (.ireturn, 1) := by decide +kernel
theorem dX8_whyNoStand_33 : decode cX8_whyNoStand 33 = .ok (.iload 4, 2) := by decide +kernel
theorem dX8_whyNoStand_35 : decode cX8_whyNoStand 35 = .ok (.bipush (-6), 2) := by decide +kernel
theorem dX8_whyNoStand_37 : decode cX8_whyNoStand 37 = .ok (.if_icmp .eq 14, 3) := by decide +kernel
theorem dX8_whyNoStand_40 : decode cX8_whyNoStand 40 = .ok (.aload_n 0, 1) := by decide +kernel
theorem dX8_whyNoStand_41 : decode cX8_whyNoStand 41 = .ok (.iload 4, 2) := by decide +kernel
theorem dX8_whyNoStand_43 : decode cX8_whyNoStand 43 = .ok (.invokevirtual 101, 3) := by decide +kernel
theorem dX8_whyNoStand_46 : decode cX8_whyNoStand 46 = .ok (.ifCond .ne 5, 3) := by decide +kernel
theorem dX8_whyNoStand_49 : decode cX8_whyNoStand 49 = .ok (.iconst (-1), 1) := by decide +kernel
theorem dX8_whyNoStand_50 : decode cX8_whyNoStand 50 = .ok (.ireturn, 1) := by decide +kernel
theorem dX8_whyNoStand_51 : decode cX8_whyNoStand 51 = .ok (.aload_n 0, 1) := by decide +kernel
theorem dX8_whyNoStand_52 : decode cX8_whyNoStand 52 = .ok (.getfield 7, 3) := by decide +kernel
theorem dX8_whyNoStand_55 : decode cX8_whyNoStand 55 = .ok (.iconst 4, 1) := by decide +kernel
theorem dX8_whyNoStand_56 : decode cX8_whyNoStand 56 = .ok (.iaload, 1) := by decide +kernel
theorem dX8_whyNoStand_57 : decode cX8_whyNoStand 57 = .ok (.bipush 20, 2) := by decide +kernel
theorem dX8_whyNoStand_59 : decode cX8_whyNoStand 59 = .ok (.if_icmp .ne 6, 3) := by decide +kernel
theorem dX8_whyNoStand_62 : decode cX8_whyNoStand 62 = .ok (.bipush (-4), 2) := by decide +kernel
theorem dX8_whyNoStand_64 : decode cX8_whyNoStand 64 = .ok (.ireturn, 1) := by decide +kernel
theorem dX8_whyNoStand_65 : decode cX8_whyNoStand 65 = .ok (.aload_n 0, 1) := by decide +kernel
theorem dX8_whyNoStand_66 : decode cX8_whyNoStand 66 = .ok (.getfield 7, 3) := by decide +kernel
theorem dX8_whyNoStand_69 : decode cX8_whyNoStand 69 = .ok (.bipush 6, 2) := by decide +kernel
theorem dX8_whyNoStand_71 : decode cX8_whyNoStand 71 = .ok (.iaload, 1) := by decide +kernel
theorem dX8_whyNoStand_72 : decode cX8_whyNoStand 72 = .ok (.iconst 1, 1) := by decide +kernel
theorem dX8_whyNoStand_73 : decode cX8_whyNoStand 73 = .ok (.if_icmp .eq 21, 3) := by decide +kernel
theorem dX8_whyNoStand_76 : decode cX8_whyNoStand 76 = .ok (.iload 4, 2) := by decide +kernel
theorem dX8_whyNoStand_78 : decode cX8_whyNoStand 78 = .ok (.bipush (-6), 2) := by decide +kernel
theorem dX8_whyNoStand_80 : decode cX8_whyNoStand 80 = .ok (.if_icmp .eq 19, 3) := by decide +kernel
theorem dX8_whyNoStand_83 : decode cX8_whyNoStand 83 = .ok (.aload_n 0, 1) := by decide +kernel
theorem dX8_whyNoStand_84 : decode cX8_whyNoStand 84 = .ok (.iload 4, 2) := by decide +kernel
theorem dX8_whyNoStand_86 : decode cX8_whyNoStand 86 = .ok (.bipush 6, 2) := by decide +kernel
theorem dX8_whyNoStand_88 : decode cX8_whyNoStand 88 = .ok (.invokevirtual 44, 3) := by decide +kernel
theorem dX8_whyNoStand_91 : decode cX8_whyNoStand 91 = .ok (.ifCond .eq 8, 3) := by decide +kernel
theorem dX8_whyNoStand_94 : decode cX8_whyNoStand 94 = .ok (.bipush (-5), 2) := by decide +kernel
theorem dX8_whyNoStand_96 : decode cX8_whyNoStand 96 = .ok (.goto 4, 3) := by decide +kernel
theorem dX8_whyNoStand_99 : decode cX8_whyNoStand 99 = .ok (.iconst 0, 1) := by decide +kernel
theorem dX8_whyNoStand_100 : decode cX8_whyNoStand 100 = .ok (.ireturn, 1) := by decide +kernel
set_option maxRecDepth 20000 in
theorem ggX8_comes_X8_setPart : GoodIn wsX8_comes wsX8_setPart := goodIn_r _ [6, 1, 7, 8, 9, 10, 11, 12, 13, 14, 15, 16, 17, 18, 19, 20] (by decide +kernel) (by decide +kernel)
set_option maxRecDepth 20000 in
theorem gX8_comes_X8_setPart : GoodIn wsX8_comes (wsV RX8 48 RX8 yX8_setPart wsX8_setPart) := goodIn_app (goodIn_of _ (by decide +kernel)) ggX8_comes_X8_setPart
theorem dX8_comes_0 : decode cX8_comes 0 = .ok (.aload_n 0, 1) := by decide +kernel
theorem dX8_comes_1 : decode cX8_comes 1 = .ok (.getfield 7, 3) := by decide +kernel
theorem dX8_comes_4 : decode cX8_comes 4 = .ok (.iconst 4, 1) := by decide +kernel
theorem dX8_comes_5 : decode cX8_comes 5 = .ok (.iaload, 1) := by decide +kernel
theorem dX8_comes_6 : decode cX8_comes 6 = .ok (.istore 5, 2) := by decide +kernel
theorem dX8_comes_8 : decode cX8_comes 8 = .ok (.aload_n 0, 1) := by decide +kernel
theorem dX8_comes_9 : decode cX8_comes 9 = .ok (.iload 5, 2) := by decide +kernel
theorem dX8_comes_11 : decode cX8_comes 11 = .ok (.iconst 0, 1) := by decide +kernel
theorem dX8_comes_12 : decode cX8_comes 12 = .ok (.iload_n 1, 1) := by decide +kernel
theorem dX8_comes_13 : decode cX8_comes 13 = .ok (.invokevirtual 48, 3) := by decide +kernel
theorem dX8_comes_16 : decode cX8_comes 16 = .ok (.aload_n 0, 1) := by decide +kernel
theorem dX8_comes_17 : decode cX8_comes 17 = .ok (.iload 5, 2) := by decide +kernel
theorem dX8_comes_19 : decode cX8_comes 19 = .ok (.iconst 1, 1) := by decide +kernel
theorem dX8_comes_20 : decode cX8_comes 20 = .ok (.iload_n 2, 1) := by decide +kernel
theorem dX8_comes_21 : decode cX8_comes 21 = .ok (.invokevirtual 48, 3) := by decide +kernel
theorem dX8_comes_24 : decode cX8_comes 24 = .ok (.aload_n 0, 1) := by decide +kernel
theorem dX8_comes_25 : decode cX8_comes 25 = .ok (.iload 5, 2) := by decide +kernel
theorem dX8_comes_27 : decode cX8_comes 27 = .ok (.iconst 2, 1) := by decide +kernel
theorem dX8_comes_28 : decode cX8_comes 28 = .ok (.iload_n 3, 1) := by decide +kernel
theorem dX8_comes_29 : decode cX8_comes 29 = .ok (.invokevirtual 48, 3) := by decide +kernel
theorem dX8_comes_32 : decode cX8_comes 32 = .ok (.aload_n 0, 1) := by decide +kernel
theorem dX8_comes_33 : decode cX8_comes 33 = .ok (.iload 5, 2) := by decide +kernel
theorem dX8_comes_35 : decode cX8_comes 35 = .ok (.iconst 3, 1) := by decide +kernel
theorem dX8_comes_36 : decode cX8_comes 36 = .ok (.iload 4, 2) := by decide +kernel
theorem dX8_comes_38 : decode cX8_comes 38 = .ok (.invokevirtual 48, 3) := by decide +kernel
theorem dX8_comes_41 : decode cX8_comes 41 = .ok (.aload_n 0, 1) := by decide +kernel
theorem dX8_comes_42 : decode cX8_comes 42 = .ok (.iload 5, 2) := by decide +kernel
theorem dX8_comes_44 : decode cX8_comes 44 = .ok (.iconst 4, 1) := by decide +kernel
theorem dX8_comes_45 : decode cX8_comes 45 = .ok (.iconst 0, 1) := by decide +kernel
theorem dX8_comes_46 : decode cX8_comes 46 = .ok (.invokevirtual 48, 3) := by decide +kernel
theorem dX8_comes_49 : decode cX8_comes 49 = .ok (.aload_n 0, 1) := by decide +kernel
theorem dX8_comes_50 : decode cX8_comes 50 = .ok (.iload 5, 2) := by decide +kernel
theorem dX8_comes_52 : decode cX8_comes 52 = .ok (.iconst 5, 1) := by decide +kernel
theorem dX8_comes_53 : decode cX8_comes 53 = .ok (.iload_n 1, 1) := by decide +kernel
theorem dX8_comes_54 : decode cX8_comes 54 = .ok (.invokevirtual 48, 3) := by decide +kernel
theorem dX8_comes_57 : decode cX8_comes 57 = .ok (.aload_n 0, 1) := by decide +kernel
theorem dX8_comes_58 : decode cX8_comes 58 = .ok (.iload 5, 2) := by decide +kernel
theorem dX8_comes_60 : decode cX8_comes 60 = .ok (.bipush 6, 2) := by decide +kernel
theorem dX8_comes_62 : decode cX8_comes 62 = .ok (.bipush (-6), 2) := by decide +kernel
theorem dX8_comes_64 : decode cX8_comes 64 = .ok (.invokevirtual 48, 3) := by decide +kernel
theorem dX8_comes_67 : decode cX8_comes 67 = .ok (.aload_n 0, 1) := by decide +kernel
theorem dX8_comes_68 : decode cX8_comes 68 = .ok (.iload 5, 2) := by decide +kernel
theorem dX8_comes_70 : decode cX8_comes 70 = .ok (.bipush 7, 2) := by decide +kernel
theorem dX8_comes_72 : decode cX8_comes 72 = .ok (.bipush (-6), 2) := by decide +kernel
theorem dX8_comes_74 : decode cX8_comes 74 = .ok (.invokevirtual 48, 3) := by decide +kernel
theorem dX8_comes_77 : decode cX8_comes 77 = .ok (.aload_n 0, 1) := by decide +kernel
theorem dX8_comes_78 : decode cX8_comes 78 = .ok (.iload 5, 2) := by decide +kernel
theorem dX8_comes_80 : decode cX8_comes 80 = .ok (.bipush 8, 2) := by decide +kernel
theorem dX8_comes_82 : decode cX8_comes 82 = .ok (.iconst 0, 1) := by decide +kernel
theorem dX8_comes_83 : decode cX8_comes 83 = .ok (.invokevirtual 48, 3) := by decide +kernel
theorem dX8_comes_86 : decode cX8_comes 86 = .ok (.aload_n 0, 1) := by decide +kernel
theorem dX8_comes_87 : decode cX8_comes 87 = .ok (.iload 5, 2) := by decide +kernel
theorem dX8_comes_89 : decode cX8_comes 89 = .ok (.bipush 9, 2) := by decide +kernel
theorem dX8_comes_91 : decode cX8_comes 91 = .ok (.iconst 0, 1) := by decide +kernel
theorem dX8_comes_92 : decode cX8_comes 92 = .ok (.invokevirtual 48, 3) := by decide +kernel
theorem dX8_comes_95 : decode cX8_comes 95 = .ok (.aload_n 0, 1) := by decide +kernel
theorem dX8_comes_96 : decode cX8_comes 96 = .ok (.getfield 7, 3) := by decide +kernel
theorem dX8_comes_99 : decode cX8_comes 99 = .ok (.iconst 4, 1) := by decide +kernel
theorem dX8_comes_100 : decode cX8_comes 100 = .ok (.dup2, 1) := by decide +kernel
theorem dX8_comes_101 : decode cX8_comes 101 = .ok (.iaload, 1) := by decide +kernel
theorem dX8_comes_102 : decode cX8_comes 102 = .ok (.iconst 1, 1) := by decide +kernel
theorem dX8_comes_103 : decode cX8_comes 103 = .ok (.iadd, 1) := by decide +kernel
theorem dX8_comes_104 : decode cX8_comes 104 = .ok (.iastore, 1) := by decide +kernel
theorem dX8_comes_105 : decode cX8_comes 105 = .ok (.iload 5, 2) := by decide +kernel
theorem dX8_comes_107 : decode cX8_comes 107 = .ok (.ireturn, 1) := by decide +kernel
set_option maxRecDepth 20000 in
theorem ggX8_stand_X8_whyNoStand : GoodIn wsX8_stand wsX8_whyNoStand := goodIn_r _ [5, 6, 7, 8, 4, 9, 10, 11, 12, 13, 14, 15, 16, 17, 18, 19, 20, 21, 39, 40, 41, 42, 43, 44, 45, 46, 47, 48, 49, 50, 51, 52] (by decide +kernel) (by decide +kernel)
set_option maxRecDepth 20000 in
theorem gX8_stand_X8_whyNoStand : GoodIn wsX8_stand (wsV RX8 104 RX8 yX8_whyNoStand wsX8_whyNoStand) := goodIn_app (goodIn_of _ (by decide +kernel)) ggX8_stand_X8_whyNoStand
set_option maxRecDepth 20000 in
theorem ggX8_stand_X8_record : GoodIn wsX8_stand wsX8_record := goodIn_r _ [25, 26, 27, 6, 28, 29, 4, 30, 39, 40, 41, 42, 43, 44, 45, 46, 47, 48, 49, 50, 51, 52] (by decide +kernel) (by decide +kernel)
set_option maxRecDepth 20000 in
theorem gX8_stand_X8_record : GoodIn wsX8_stand (wsV RX8 98 RX8 yX8_record wsX8_record) := goodIn_app (goodIn_of _ (by decide +kernel)) ggX8_stand_X8_record
set_option maxRecDepth 20000 in
theorem ggX8_stand_X8_comes : GoodIn wsX8_stand wsX8_comes := goodIn_r _ [34, 6, 35, 36, 37, 4, 38, 39, 40, 41, 42, 43, 44, 45, 46, 47, 48, 49, 50, 51, 52] (by decide +kernel) (by decide +kernel)
set_option maxRecDepth 20000 in
theorem gX8_stand_X8_comes : GoodIn wsX8_stand (wsV RX8 108 RX8 yX8_comes wsX8_comes) := goodIn_app (goodIn_of _ (by decide +kernel)) ggX8_stand_X8_comes
theorem dX8_stand_0 : decode cX8_stand 0 = .ok (.aload_n 0, 1) := by decide +kernel
theorem dX8_stand_1 : decode cX8_stand 1 = .ok (.iload_n 1, 1) := by decide +kernel
theorem dX8_stand_2 : decode cX8_stand 2 = .ok (.iload_n 2, 1) := by decide +kernel
theorem dX8_stand_3 : decode cX8_stand 3 = .ok (.iload_n 3, 1) := by decide +kernel
theorem dX8_stand_4 : decode cX8_stand 4 = .ok (.iload 4, 2) := by decide +kernel
theorem dX8_stand_6 : decode cX8_stand 6 = .ok (.invokevirtual 104, 3) := by decide +kernel
theorem dX8_stand_9 : decode cX8_stand 9 = .ok (.istore 5, 2) := by decide +kernel
theorem dX8_stand_11 : decode cX8_stand 11 = .ok (.iload 5, 2) := by decide +kernel
theorem dX8_stand_13 : decode cX8_stand 13 = .ok (.ifCond .ge 6, 3) := by decide +kernel
theorem dX8_stand_16 : decode cX8_stand 16 = .ok (.iload 5, 2) := by decide +kernel
theorem dX8_stand_18 : decode cX8_stand 18 = .ok (.ireturn, 1) := by decide +kernel
theorem dX8_stand_19 : decode cX8_stand 19 = .ok (.aload_n 0, 1) := by decide +kernel
theorem dX8_stand_20 : decode cX8_stand 20 = .ok (.invokevirtual 98, 3) := by decide +kernel
theorem dX8_stand_23 : decode cX8_stand 23 = .ok (.aload_n 0, 1) := by decide +kernel
theorem dX8_stand_24 : decode cX8_stand 24 = .ok (.iload_n 1, 1) := by decide +kernel
theorem dX8_stand_25 : decode cX8_stand 25 = .ok (.iload_n 2, 1) := by decide +kernel
theorem dX8_stand_26 : decode cX8_stand 26 = .ok (.iload_n 3, 1) := by decide +kernel
theorem dX8_stand_27 : decode cX8_stand 27 = .ok (.iload 4, 2) := by decide +kernel
theorem dX8_stand_29 : decode cX8_stand 29 = .ok (.invokevirtual 108, 3) := by decide +kernel
theorem dX8_stand_32 : decode cX8_stand 32 = .ok (.ireturn, 1) := by decide +kernel
set_option maxRecDepth 20000 in
theorem ggX8_whyNoCrew_X8_within : GoodIn wsX8_whyNoCrew wsX8_within := goodIn_r _ [5] (by decide +kernel) (by decide +kernel)
set_option maxRecDepth 20000 in
theorem gX8_whyNoCrew_X8_within : GoodIn wsX8_whyNoCrew (va_wsS RX8 36 yX8_within wsX8_within) := goodIn_app (goodIn_of _ (by decide +kernel)) ggX8_whyNoCrew_X8_within
theorem dX8_whyNoCrew_0 : decode cX8_whyNoCrew 0 = .ok (.iload_n 1, 1) := by decide +kernel
theorem dX8_whyNoCrew_1 : decode cX8_whyNoCrew 1 = .ok (.iconst 1, 1) := by decide +kernel
theorem dX8_whyNoCrew_2 : decode cX8_whyNoCrew 2 = .ok (.bipush 9, 2) := by decide +kernel
theorem dX8_whyNoCrew_4 : decode cX8_whyNoCrew 4 = .ok (.invokestatic 36, 3) := by decide +kernel
theorem dX8_whyNoCrew_7 : decode cX8_whyNoCrew 7 = .ok (.ifCond .eq 13, 3) := by decide +kernel
theorem dX8_whyNoCrew_10 : decode cX8_whyNoCrew 10 = .ok (.iload_n 2, 1) := by decide +kernel
theorem dX8_whyNoCrew_11 : decode cX8_whyNoCrew 11 = .ok (.iconst 0, 1) := by decide +kernel
theorem dX8_whyNoCrew_12 : decode cX8_whyNoCrew 12 = .ok (.bipush 99, 2) := by decide +kernel
theorem dX8_whyNoCrew_14 : decode cX8_whyNoCrew 14 = .ok (.invokestatic 36, 3) := by decide +kernel
theorem dX8_whyNoCrew_17 : decode cX8_whyNoCrew 17 = .ok (.ifCond .ne 8, 3) := by decide +kernel
theorem dX8_whyNoCrew_20 : decode cX8_whyNoCrew 20 = .ok (.bipush (-2), 2) := by decide +kernel
theorem dX8_whyNoCrew_22 : decode cX8_whyNoCrew 22 = .ok (.goto 20, 3) := by decide +kernel
theorem dX8_whyNoCrew_25 : decode cX8_whyNoCrew 25 = .ok (.aload_n 0, 1) := by decide +kernel
theorem dX8_whyNoCrew_26 : decode cX8_whyNoCrew 26 = .ok (.getfield 7, 3) := by decide +kernel
theorem dX8_whyNoCrew_29 : decode cX8_whyNoCrew 29 = .ok (.iconst 5, 1) := by decide +kernel
theorem dX8_whyNoCrew_30 : decode cX8_whyNoCrew 30 = .ok (.iaload, 1) := by decide +kernel
theorem dX8_whyNoCrew_31 : decode cX8_whyNoCrew 31 = .ok (.bipush 6, 2) := by decide +kernel
theorem dX8_whyNoCrew_33 : decode cX8_whyNoCrew 33 = .ok (.if_icmp .ne 8, 3) := by decide +kernel
theorem dX8_whyNoCrew_36 : decode cX8_whyNoCrew 36 = .ok (.bipush (-4), 2) := by decide +kernel
theorem dX8_whyNoCrew_38 : decode cX8_whyNoCrew 38 = .ok (.goto 4, 3) := by decide +kernel
theorem dX8_whyNoCrew_41 : decode cX8_whyNoCrew 41 = .ok (.iconst 0, 1) := by decide +kernel
theorem dX8_whyNoCrew_42 : decode cX8_whyNoCrew 42 = .ok (.ireturn, 1) := by decide +kernel
set_option maxRecDepth 20000 in
theorem ggX8_comesCrew_X8_setCrew : GoodIn wsX8_comesCrew wsX8_setCrew := goodIn_r _ [6, 1, 7, 8, 9, 10, 11, 12, 13, 14, 15, 16, 17, 18, 19, 20] (by decide +kernel) (by decide +kernel)
set_option maxRecDepth 20000 in
theorem gX8_comesCrew_X8_setCrew : GoodIn wsX8_comesCrew (wsV RX8 64 RX8 yX8_setCrew wsX8_setCrew) := goodIn_app (goodIn_of _ (by decide +kernel)) ggX8_comesCrew_X8_setCrew
theorem dX8_comesCrew_0 : decode cX8_comesCrew 0 = .ok (.aload_n 0, 1) := by decide +kernel
theorem dX8_comesCrew_1 : decode cX8_comesCrew 1 = .ok (.getfield 7, 3) := by decide +kernel
theorem dX8_comesCrew_4 : decode cX8_comesCrew 4 = .ok (.iconst 5, 1) := by decide +kernel
theorem dX8_comesCrew_5 : decode cX8_comesCrew 5 = .ok (.iaload, 1) := by decide +kernel
theorem dX8_comesCrew_6 : decode cX8_comesCrew 6 = .ok (.istore_n 3, 1) := by decide +kernel
theorem dX8_comesCrew_7 : decode cX8_comesCrew 7 = .ok (.iconst 0, 1) := by decide +kernel
theorem dX8_comesCrew_8 : decode cX8_comesCrew 8 = .ok (.istore 4, 2) := by decide +kernel
theorem dX8_comesCrew_10 : decode cX8_comesCrew 10 = .ok (.iload 4, 2) := by decide +kernel
theorem dX8_comesCrew_12 : decode cX8_comesCrew 12 = .ok (.bipush 7, 2) := by decide +kernel
theorem dX8_comesCrew_14 : decode cX8_comesCrew 14 = .ok (.if_icmp .ge 17, 3) := by decide +kernel
theorem dX8_comesCrew_17 : decode cX8_comesCrew 17 = .ok (.aload_n 0, 1) := by decide +kernel
theorem dX8_comesCrew_18 : decode cX8_comesCrew 18 = .ok (.iload_n 3, 1) := by decide +kernel
theorem dX8_comesCrew_19 : decode cX8_comesCrew 19 = .ok (.iload 4, 2) := by decide +kernel
theorem dX8_comesCrew_21 : decode cX8_comesCrew 21 = .ok (.iconst 0, 1) := by decide +kernel
theorem dX8_comesCrew_22 : decode cX8_comesCrew 22 = .ok (.invokevirtual 64, 3) := by decide +kernel
theorem dX8_comesCrew_25 : decode cX8_comesCrew 25 = .ok (.iinc 4 1, 3) := by decide +kernel
theorem dX8_comesCrew_28 : decode cX8_comesCrew 28 = .ok (.goto (-18), 3) := by decide +kernel
theorem dX8_comesCrew_31 : decode cX8_comesCrew 31 = .ok (.aload_n 0, 1) := by decide +kernel
theorem dX8_comesCrew_32 : decode cX8_comesCrew 32 = .ok (.iload_n 3, 1) := by decide +kernel
theorem dX8_comesCrew_33 : decode cX8_comesCrew 33 = .ok (.iconst 0, 1) := by decide +kernel
theorem dX8_comesCrew_34 : decode cX8_comesCrew 34 = .ok (.iload_n 1, 1) := by decide +kernel
theorem dX8_comesCrew_35 : decode cX8_comesCrew 35 = .ok (.invokevirtual 64, 3) := by decide +kernel
theorem dX8_comesCrew_38 : decode cX8_comesCrew 38 = .ok (.aload_n 0, 1) := by decide +kernel
theorem dX8_comesCrew_39 : decode cX8_comesCrew 39 = .ok (.iload_n 3, 1) := by decide +kernel
theorem dX8_comesCrew_40 : decode cX8_comesCrew 40 = .ok (.iconst 1, 1) := by decide +kernel
theorem dX8_comesCrew_41 : decode cX8_comesCrew 41 = .ok (.iload_n 2, 1) := by decide +kernel
theorem dX8_comesCrew_42 : decode cX8_comesCrew 42 = .ok (.invokevirtual 64, 3) := by decide +kernel
theorem dX8_comesCrew_45 : decode cX8_comesCrew 45 = .ok (.aload_n 0, 1) := by decide +kernel
theorem dX8_comesCrew_46 : decode cX8_comesCrew 46 = .ok (.iload_n 3, 1) := by decide +kernel
theorem dX8_comesCrew_47 : decode cX8_comesCrew 47 = .ok (.iconst 2, 1) := by decide +kernel
theorem dX8_comesCrew_48 : decode cX8_comesCrew 48 = .ok (.bipush (-6), 2) := by decide +kernel
theorem dX8_comesCrew_50 : decode cX8_comesCrew 50 = .ok (.invokevirtual 64, 3) := by decide +kernel
theorem dX8_comesCrew_53 : decode cX8_comesCrew 53 = .ok (.aload_n 0, 1) := by decide +kernel
theorem dX8_comesCrew_54 : decode cX8_comesCrew 54 = .ok (.getfield 7, 3) := by decide +kernel
theorem dX8_comesCrew_57 : decode cX8_comesCrew 57 = .ok (.iconst 5, 1) := by decide +kernel
theorem dX8_comesCrew_58 : decode cX8_comesCrew 58 = .ok (.dup2, 1) := by decide +kernel
theorem dX8_comesCrew_59 : decode cX8_comesCrew 59 = .ok (.iaload, 1) := by decide +kernel
theorem dX8_comesCrew_60 : decode cX8_comesCrew 60 = .ok (.iconst 1, 1) := by decide +kernel
theorem dX8_comesCrew_61 : decode cX8_comesCrew 61 = .ok (.iadd, 1) := by decide +kernel
theorem dX8_comesCrew_62 : decode cX8_comesCrew 62 = .ok (.iastore, 1) := by decide +kernel
theorem dX8_comesCrew_63 : decode cX8_comesCrew 63 = .ok (.iload_n 3, 1) := by decide +kernel
theorem dX8_comesCrew_64 : decode cX8_comesCrew 64 = .ok (.ireturn, 1) := by decide +kernel
set_option maxRecDepth 20000 in
theorem ggX8_crew_X8_whyNoCrew : GoodIn wsX8_crew wsX8_whyNoCrew := goodIn_r _ [5, 6, 7, 8, 4, 9, 27, 28, 29, 30, 31, 32, 33, 34, 35, 36, 37, 38, 39, 40] (by decide +kernel) (by decide +kernel)
set_option maxRecDepth 20000 in
theorem gX8_crew_X8_whyNoCrew : GoodIn wsX8_crew (wsV RX8 111 RX8 yX8_whyNoCrew wsX8_whyNoCrew) := goodIn_app (goodIn_of _ (by decide +kernel)) ggX8_crew_X8_whyNoCrew
set_option maxRecDepth 20000 in
theorem ggX8_crew_X8_record : GoodIn wsX8_crew wsX8_record := goodIn_r _ [13, 14, 15, 6, 16, 17, 4, 18, 27, 28, 29, 30, 31, 32, 33, 34, 35, 36, 37, 38, 39, 40] (by decide +kernel) (by decide +kernel)
set_option maxRecDepth 20000 in
theorem gX8_crew_X8_record : GoodIn wsX8_crew (wsV RX8 98 RX8 yX8_record wsX8_record) := goodIn_app (goodIn_of _ (by decide +kernel)) ggX8_crew_X8_record
set_option maxRecDepth 20000 in
theorem ggX8_crew_X8_comesCrew : GoodIn wsX8_crew wsX8_comesCrew := goodIn_r _ [22, 6, 23, 24, 25, 4, 26, 27, 28, 29, 30, 31, 32, 33, 34, 35, 36, 37, 38, 39, 40] (by decide +kernel) (by decide +kernel)
set_option maxRecDepth 20000 in
theorem gX8_crew_X8_comesCrew : GoodIn wsX8_crew (wsV RX8 114 RX8 yX8_comesCrew wsX8_comesCrew) := goodIn_app (goodIn_of _ (by decide +kernel)) ggX8_crew_X8_comesCrew
theorem dX8_crew_0 : decode cX8_crew 0 = .ok (.aload_n 0, 1) := by decide +kernel
theorem dX8_crew_1 : decode cX8_crew 1 = .ok (.iload_n 1, 1) := by decide +kernel
theorem dX8_crew_2 : decode cX8_crew 2 = .ok (.iload_n 2, 1) := by decide +kernel
theorem dX8_crew_3 : decode cX8_crew 3 = .ok (.invokevirtual 111, 3) := by decide +kernel
theorem dX8_crew_6 : decode cX8_crew 6 = .ok (.istore_n 3, 1) := by decide +kernel
theorem dX8_crew_7 : decode cX8_crew 7 = .ok (.iload_n 3, 1) := by decide +kernel
theorem dX8_crew_8 : decode cX8_crew 8 = .ok (.ifCond .ge 5, 3) := by decide +kernel
theorem dX8_crew_11 : decode cX8_crew 11 = .ok (.iload_n 3, 1) := by decide +kernel
theorem dX8_crew_12 : decode cX8_crew 12 = .ok (.ireturn, 1) := by decide +kernel
theorem dX8_crew_13 : decode cX8_crew 13 = .ok (.aload_n 0, 1) := by decide +kernel
theorem dX8_crew_14 : decode cX8_crew 14 = .ok (.invokevirtual 98, 3) := by decide +kernel
theorem dX8_crew_17 : decode cX8_crew 17 = .ok (.aload_n 0, 1) := by decide +kernel
theorem dX8_crew_18 : decode cX8_crew 18 = .ok (.iload_n 1, 1) := by decide +kernel
theorem dX8_crew_19 : decode cX8_crew 19 = .ok (.iload_n 2, 1) := by decide +kernel
theorem dX8_crew_20 : decode cX8_crew 20 = .ok (.invokevirtual 114, 3) := by decide +kernel
theorem dX8_crew_23 : decode cX8_crew 23 = .ok (.ireturn, 1) := by decide +kernel
set_option maxRecDepth 20000 in
theorem ggX8_ends_X8_part : GoodIn wsX8_ends wsX8_part := goodIn_r _ [6, 1, 15, 16, 17, 18, 19, 20, 21, 22, 23, 24, 25, 26, 27, 28] (by decide +kernel) (by decide +kernel)
set_option maxRecDepth 20000 in
theorem gX8_ends_X8_part : GoodIn wsX8_ends (wsV RX8 40 RX8 yX8_part wsX8_part) := goodIn_app (goodIn_of _ (by decide +kernel)) ggX8_ends_X8_part
set_option maxRecDepth 20000 in
theorem ggX8_ends_X8_setCrew : GoodIn wsX8_ends wsX8_setCrew := goodIn_r _ [10, 1, 15, 16, 17, 18, 19, 20, 21, 22, 23, 24, 25, 26, 27, 28] (by decide +kernel) (by decide +kernel)
set_option maxRecDepth 20000 in
theorem gX8_ends_X8_setCrew : GoodIn wsX8_ends (wsV RX8 64 RX8 yX8_setCrew wsX8_setCrew) := goodIn_app (goodIn_of _ (by decide +kernel)) ggX8_ends_X8_setCrew
set_option maxRecDepth 20000 in
theorem ggX8_ends_X8_setPart : GoodIn wsX8_ends wsX8_setPart := goodIn_r _ [14, 1, 15, 16, 17, 18, 19, 20, 21, 22, 23, 24, 25, 26, 27, 28] (by decide +kernel) (by decide +kernel)
set_option maxRecDepth 20000 in
theorem gX8_ends_X8_setPart : GoodIn wsX8_ends (wsV RX8 48 RX8 yX8_setPart wsX8_setPart) := goodIn_app (goodIn_of _ (by decide +kernel)) ggX8_ends_X8_setPart
