theorem dX0_init_0 : decode cX0_init 0 = .ok (.aload_n 0, 1) := by decide +kernel
theorem dX0_init_1 : decode cX0_init 1 = .ok (.invokespecial 3, 3) := by decide +kernel
theorem dX0_init_4 : decode cX0_init 4 = .ok (.aload_n 0, 1) := by decide +kernel
theorem dX0_init_5 : decode cX0_init 5 = .ok (.bipush 6, 2) := by decide +kernel
theorem dX0_init_7 : decode cX0_init 7 = .ok (.newarray .int, 2) := by decide +kernel
theorem dX0_init_9 : decode cX0_init 9 = .ok (.putfield 9, 3) := by decide +kernel
theorem dX0_init_12 : decode cX0_init 12 = .ok (.aload_n 0, 1) := by decide +kernel
theorem dX0_init_13 : decode cX0_init 13 = .ok (.bipush 6, 2) := by decide +kernel
theorem dX0_init_15 : decode cX0_init 15 = .ok (.newarray .int, 2) := by decide +kernel
theorem dX0_init_17 : decode cX0_init 17 = .ok (.putfield 15, 3) := by decide +kernel
theorem dX0_init_20 : decode cX0_init 20 = .ok (.aload_n 0, 1) := by decide +kernel
theorem dX0_init_21 : decode cX0_init 21 = .ok (.bipush 6, 2) := by decide +kernel
theorem dX0_init_23 : decode cX0_init 23 = .ok (.newarray .int, 2) := by decide +kernel
theorem dX0_init_25 : decode cX0_init 25 = .ok (.putfield 18, 3) := by decide +kernel
theorem dX0_init_28 : decode cX0_init 28 = .ok (.aload_n 0, 1) := by decide +kernel
theorem dX0_init_29 : decode cX0_init 29 = .ok (.bipush 6, 2) := by decide +kernel
theorem dX0_init_31 : decode cX0_init 31 = .ok (.newarray .int, 2) := by decide +kernel
theorem dX0_init_33 : decode cX0_init 33 = .ok (.putfield 21, 3) := by decide +kernel
theorem dX0_init_36 : decode cX0_init 36 = .ok (.aload_n 0, 1) := by decide +kernel
theorem dX0_init_37 : decode cX0_init 37 = .ok (.bipush 6, 2) := by decide +kernel
theorem dX0_init_39 : decode cX0_init 39 = .ok (.newarray .int, 2) := by decide +kernel
theorem dX0_init_41 : decode cX0_init 41 = .ok (.putfield 24, 3) := by decide +kernel
theorem dX0_init_44 : decode cX0_init 44 = .ok (.aload_n 0, 1) := by decide +kernel
theorem dX0_init_45 : decode cX0_init 45 = .ok (.bipush 6, 2) := by decide +kernel
theorem dX0_init_47 : decode cX0_init 47 = .ok (.newarray .int, 2) := by decide +kernel
theorem dX0_init_49 : decode cX0_init 49 = .ok (.putfield 27, 3) := by decide +kernel
theorem dX0_init_52 : decode cX0_init 52 = .ok (.return_, 1) := by decide +kernel
set_option maxRecDepth 20000 in
theorem ggX0_copyFrom_X7_copyRow : GoodIn wsX0_copyFrom wsX7_copyRow := goodIn_r _ [10, 11, 12, 13, 14, 15, 16, 17, 18] (by decide +kernel) (by decide +kernel)
set_option maxRecDepth 20000 in
theorem gX0_copyFrom_X7_copyRow_n34 : GoodIn wsX0_copyFrom (wsX7_copyRow) := ggX0_copyFrom_X7_copyRow
theorem dX0_copyFrom_0 : decode cX0_copyFrom 0 = .ok (.aload_n 0, 1) := by decide +kernel
theorem dX0_copyFrom_1 : decode cX0_copyFrom 1 = .ok (.aload_n 1, 1) := by decide +kernel
theorem dX0_copyFrom_2 : decode cX0_copyFrom 2 = .ok (.getfield 30, 3) := by decide +kernel
theorem dX0_copyFrom_5 : decode cX0_copyFrom 5 = .ok (.putfield 30, 3) := by decide +kernel
theorem dX0_copyFrom_8 : decode cX0_copyFrom 8 = .ok (.aload_n 1, 1) := by decide +kernel
theorem dX0_copyFrom_9 : decode cX0_copyFrom 9 = .ok (.getfield 9, 3) := by decide +kernel
theorem dX0_copyFrom_12 : decode cX0_copyFrom 12 = .ok (.aload_n 0, 1) := by decide +kernel
theorem dX0_copyFrom_13 : decode cX0_copyFrom 13 = .ok (.getfield 9, 3) := by decide +kernel
theorem dX0_copyFrom_16 : decode cX0_copyFrom 16 = .ok (.invokestatic 34, 3) := by decide +kernel
theorem dX0_copyFrom_19 : decode cX0_copyFrom 19 = .ok (.aload_n 1, 1) := by decide +kernel
theorem dX0_copyFrom_20 : decode cX0_copyFrom 20 = .ok (.getfield 15, 3) := by decide +kernel
theorem dX0_copyFrom_23 : decode cX0_copyFrom 23 = .ok (.aload_n 0, 1) := by decide +kernel
theorem dX0_copyFrom_24 : decode cX0_copyFrom 24 = .ok (.getfield 15, 3) := by decide +kernel
theorem dX0_copyFrom_27 : decode cX0_copyFrom 27 = .ok (.invokestatic 34, 3) := by decide +kernel
theorem dX0_copyFrom_30 : decode cX0_copyFrom 30 = .ok (.aload_n 1, 1) := by decide +kernel
theorem dX0_copyFrom_31 : decode cX0_copyFrom 31 = .ok (.getfield 18, 3) := by decide +kernel
theorem dX0_copyFrom_34 : decode cX0_copyFrom 34 = .ok (.aload_n 0, 1) := by decide +kernel
theorem dX0_copyFrom_35 : decode cX0_copyFrom 35 = .ok (.getfield 18, 3) := by decide +kernel
theorem dX0_copyFrom_38 : decode cX0_copyFrom 38 = .ok (.invokestatic 34, 3) := by decide +kernel
theorem dX0_copyFrom_41 : decode cX0_copyFrom 41 = .ok (.aload_n 1, 1) := by decide +kernel
theorem dX0_copyFrom_42 : decode cX0_copyFrom 42 = .ok (.getfield 21, 3) := by decide +kernel
theorem dX0_copyFrom_45 : decode cX0_copyFrom 45 = .ok (.aload_n 0, 1) := by decide +kernel
theorem dX0_copyFrom_46 : decode cX0_copyFrom 46 = .ok (.getfield 21, 3) := by decide +kernel
theorem dX0_copyFrom_49 : decode cX0_copyFrom 49 = .ok (.invokestatic 34, 3) := by decide +kernel
theorem dX0_copyFrom_52 : decode cX0_copyFrom 52 = .ok (.aload_n 1, 1) := by decide +kernel
theorem dX0_copyFrom_53 : decode cX0_copyFrom 53 = .ok (.getfield 24, 3) := by decide +kernel
theorem dX0_copyFrom_56 : decode cX0_copyFrom 56 = .ok (.aload_n 0, 1) := by decide +kernel
theorem dX0_copyFrom_57 : decode cX0_copyFrom 57 = .ok (.getfield 24, 3) := by decide +kernel
theorem dX0_copyFrom_60 : decode cX0_copyFrom 60 = .ok (.invokestatic 34, 3) := by decide +kernel
theorem dX0_copyFrom_63 : decode cX0_copyFrom 63 = .ok (.aload_n 1, 1) := by decide +kernel
theorem dX0_copyFrom_64 : decode cX0_copyFrom 64 = .ok (.getfield 27, 3) := by decide +kernel
theorem dX0_copyFrom_67 : decode cX0_copyFrom 67 = .ok (.aload_n 0, 1) := by decide +kernel
theorem dX0_copyFrom_68 : decode cX0_copyFrom 68 = .ok (.getfield 27, 3) := by decide +kernel
theorem dX0_copyFrom_71 : decode cX0_copyFrom 71 = .ok (.invokestatic 34, 3) := by decide +kernel
theorem dX0_copyFrom_74 : decode cX0_copyFrom 74 = .ok (.return_, 1) := by decide +kernel
theorem dX0_append_0 : decode cX0_append 0 = .ok (.aload_n 0, 1) := by decide +kernel
theorem dX0_append_1 : decode cX0_append 1 = .ok (.getfield 30, 3) := by decide +kernel
theorem dX0_append_4 : decode cX0_append 4 = .ok (.istore_n 3, 1) := by decide +kernel
theorem dX0_append_5 : decode cX0_append 5 = .ok (.iload_n 3, 1) := by decide +kernel
theorem dX0_append_6 : decode cX0_append 6 = .ok (.bipush 6, 2) := by decide +kernel
theorem dX0_append_8 : decode cX0_append 8 = .ok (.if_icmp .lt 6, 3) := by decide +kernel
theorem dX0_append_11 : decode cX0_append 11 = .ok (.bipush (-4), 2) := by decide +kernel
theorem dX0_append_13 : decode cX0_append 13 = .ok (.ireturn, 1) := by decide +kernel
theorem dX0_append_14 : decode cX0_append 14 = .ok (.aload_n 0, 1) := by decide +kernel
theorem dX0_append_15 : decode cX0_append 15 = .ok (.getfield 9, 3) := by decide +kernel
theorem dX0_append_18 : decode cX0_append 18 = .ok (.iload_n 3, 1) := by decide +kernel
theorem dX0_append_19 : decode cX0_append 19 = .ok (.iload_n 1, 1) := by decide +kernel
theorem dX0_append_20 : decode cX0_append 20 = .ok (.iastore, 1) := by decide +kernel
theorem dX0_append_21 : decode cX0_append 21 = .ok (.aload_n 0, 1) := by decide +kernel
theorem dX0_append_22 : decode cX0_append 22 = .ok (.getfield 15, 3) := by decide +kernel
theorem dX0_append_25 : decode cX0_append 25 = .ok (.iload_n 3, 1) := by decide +kernel
theorem dX0_append_26 : decode cX0_append 26 = .ok (.iload_n 2, 1) := by decide +kernel
theorem dX0_append_27 : decode cX0_append 27 = .ok (.iastore, 1) := by decide +kernel
theorem dX0_append_28 : decode cX0_append 28 = .ok (.aload_n 0, 1) := by decide +kernel
theorem dX0_append_29 : decode cX0_append 29 = .ok (.getfield 18, 3) := by decide +kernel
theorem dX0_append_32 : decode cX0_append 32 = .ok (.iload_n 3, 1) := by decide +kernel
theorem dX0_append_33 : decode cX0_append 33 = .ok (.bipush (-6), 2) := by decide +kernel
theorem dX0_append_35 : decode cX0_append 35 = .ok (.iastore, 1) := by decide +kernel
theorem dX0_append_36 : decode cX0_append 36 = .ok (.aload_n 0, 1) := by decide +kernel
theorem dX0_append_37 : decode cX0_append 37 = .ok (.getfield 21, 3) := by decide +kernel
theorem dX0_append_40 : decode cX0_append 40 = .ok (.iload_n 3, 1) := by decide +kernel
theorem dX0_append_41 : decode cX0_append 41 = .ok (.iconst 0, 1) := by decide +kernel
theorem dX0_append_42 : decode cX0_append 42 = .ok (.iastore, 1) := by decide +kernel
theorem dX0_append_43 : decode cX0_append 43 = .ok (.aload_n 0, 1) := by decide +kernel
theorem dX0_append_44 : decode cX0_append 44 = .ok (.getfield 24, 3) := by decide +kernel
theorem dX0_append_47 : decode cX0_append 47 = .ok (.iload_n 3, 1) := by decide +kernel
theorem dX0_append_48 : decode cX0_append 48 = .ok (.iconst 0, 1) := by decide +kernel
theorem dX0_append_49 : decode cX0_append 49 = .ok (.iastore, 1) := by decide +kernel
theorem dX0_append_50 : decode cX0_append 50 = .ok (.aload_n 0, 1) := by decide +kernel
theorem dX0_append_51 : decode cX0_append 51 = .ok (.getfield 27, 3) := by decide +kernel
theorem dX0_append_54 : decode cX0_append 54 = .ok (.iload_n 3, 1) := by decide +kernel
theorem dX0_append_55 : decode cX0_append 55 = .ok (.iconst 0, 1) := by decide +kernel
theorem dX0_append_56 : decode cX0_append 56 = .ok (.iastore, 1) := by decide +kernel
theorem dX0_append_57 : decode cX0_append 57 = .ok (.aload_n 0, 1) := by decide +kernel
theorem dX0_append_58 : decode cX0_append 58 = .ok (.dup, 1) := by decide +kernel
theorem dX0_append_59 : decode cX0_append 59 = .ok (.getfield 30, 3) := by decide +kernel
theorem dX0_append_62 : decode cX0_append 62 = .ok (.iconst 1, 1) := by decide +kernel
theorem dX0_append_63 : decode cX0_append 63 = .ok (.iadd, 1) := by decide +kernel
theorem dX0_append_64 : decode cX0_append 64 = .ok (.putfield 30, 3) := by decide +kernel
theorem dX0_append_67 : decode cX0_append 67 = .ok (.iload_n 3, 1) := by decide +kernel
theorem dX0_append_68 : decode cX0_append 68 = .ok (.ireturn, 1) := by decide +kernel
theorem dX0_tell_0 : decode cX0_tell 0 = .ok (.iload_n 1, 1) := by decide +kernel
theorem dX0_tell_1 : decode cX0_tell 1 = .ok (.ifCond .lt 11, 3) := by decide +kernel
theorem dX0_tell_4 : decode cX0_tell 4 = .ok (.iload_n 1, 1) := by decide +kernel
theorem dX0_tell_5 : decode cX0_tell 5 = .ok (.aload_n 0, 1) := by decide +kernel
theorem dX0_tell_6 : decode cX0_tell 6 = .ok (.getfield 30, 3) := by decide +kernel
theorem dX0_tell_9 : decode cX0_tell 9 = .ok (.if_icmp .lt 5, 3) := by decide +kernel
theorem dX0_tell_12 : decode cX0_tell 12 = .ok (.iconst (-1), 1) := by decide +kernel
theorem dX0_tell_13 : decode cX0_tell 13 = .ok (.ireturn, 1) := by decide +kernel
theorem dX0_tell_14 : decode cX0_tell 14 = .ok (.iload_n 2, 1) := by decide +kernel
theorem dX0_tell_15 : decode cX0_tell 15 = .ok (.tableswitch 97 0 6 #[41, 48, 55, 62, 69, 83, 90], 41) := by decide +kernel
theorem dX0_tell_56 : decode cX0_tell 56 = .ok (.aload_n 0, 1) := by decide +kernel
theorem dX0_tell_57 : decode cX0_tell 57 = .ok (.getfield 9, 3) := by decide +kernel
theorem dX0_tell_60 : decode cX0_tell 60 = .ok (.iload_n 1, 1) := by decide +kernel
theorem dX0_tell_61 : decode cX0_tell 61 = .ok (.iaload, 1) := by decide +kernel
theorem dX0_tell_62 : decode cX0_tell 62 = .ok (.ireturn, 1) := by decide +kernel
theorem dX0_tell_63 : decode cX0_tell 63 = .ok (.aload_n 0, 1) := by decide +kernel
theorem dX0_tell_64 : decode cX0_tell 64 = .ok (.getfield 15, 3) := by decide +kernel
theorem dX0_tell_67 : decode cX0_tell 67 = .ok (.iload_n 1, 1) := by decide +kernel
theorem dX0_tell_68 : decode cX0_tell 68 = .ok (.iaload, 1) := by decide +kernel
theorem dX0_tell_69 : decode cX0_tell 69 = .ok (.ireturn, 1) := by decide +kernel
theorem dX0_tell_70 : decode cX0_tell 70 = .ok (.aload_n 0, 1) := by decide +kernel
theorem dX0_tell_71 : decode cX0_tell 71 = .ok (.getfield 18, 3) := by decide +kernel
theorem dX0_tell_74 : decode cX0_tell 74 = .ok (.iload_n 1, 1) := by decide +kernel
theorem dX0_tell_75 : decode cX0_tell 75 = .ok (.iaload, 1) := by decide +kernel
theorem dX0_tell_76 : decode cX0_tell 76 = .ok (.ireturn, 1) := by decide +kernel
theorem dX0_tell_77 : decode cX0_tell 77 = .ok (.aload_n 0, 1) := by decide +kernel
theorem dX0_tell_78 : decode cX0_tell 78 = .ok (.getfield 21, 3) := by decide +kernel
theorem dX0_tell_81 : decode cX0_tell 81 = .ok (.iload_n 1, 1) := by decide +kernel
theorem dX0_tell_82 : decode cX0_tell 82 = .ok (.iaload, 1) := by decide +kernel
theorem dX0_tell_83 : decode cX0_tell 83 = .ok (.ireturn, 1) := by decide +kernel
theorem dX0_tell_84 : decode cX0_tell 84 = .ok (.aload_n 0, 1) := by decide +kernel
theorem dX0_tell_85 : decode cX0_tell 85 = .ok (.getfield 21, 3) := by decide +kernel
theorem dX0_tell_88 : decode cX0_tell 88 = .ok (.iload_n 1, 1) := by decide +kernel
theorem dX0_tell_89 : decode cX0_tell 89 = .ok (.iaload, 1) := by decide +kernel
theorem dX0_tell_90 : decode cX0_tell 90 = .ok (.aload_n 0, 1) := by decide +kernel
theorem dX0_tell_91 : decode cX0_tell 91 = .ok (.getfield 15, 3) := by decide +kernel
theorem dX0_tell_94 : decode cX0_tell 94 = .ok (.iload_n 1, 1) := by decide +kernel
theorem dX0_tell_95 : decode cX0_tell 95 = .ok (.iaload, 1) := by decide +kernel
theorem dX0_tell_96 : decode cX0_tell 96 = .ok (.imul, 1) := by decide +kernel
theorem dX0_tell_97 : decode cX0_tell 97 = .ok (.ireturn, 1) := by decide +kernel
theorem dX0_tell_98 : decode cX0_tell 98 = .ok (.aload_n 0, 1) := by decide +kernel
theorem dX0_tell_99 : decode cX0_tell 99 = .ok (.getfield 24, 3) := by decide +kernel
theorem dX0_tell_102 : decode cX0_tell 102 = .ok (.iload_n 1, 1) := by decide +kernel
theorem dX0_tell_103 : decode cX0_tell 103 = .ok (.iaload, 1) := by decide +kernel
theorem dX0_tell_104 : decode cX0_tell 104 = .ok (.ireturn, 1) := by decide +kernel
theorem dX0_tell_105 : decode cX0_tell 105 = .ok (.aload_n 0, 1) := by decide +kernel
theorem dX0_tell_106 : decode cX0_tell 106 = .ok (.getfield 27, 3) := by decide +kernel
theorem dX0_tell_109 : decode cX0_tell 109 = .ok (.iload_n 1, 1) := by decide +kernel
theorem dX0_tell_110 : decode cX0_tell 110 = .ok (.iaload, 1) := by decide +kernel
theorem dX0_tell_111 : decode cX0_tell 111 = .ok (.ireturn, 1) := by decide +kernel
theorem dX0_tell_112 : decode cX0_tell 112 = .ok (.bipush (-2), 2) := by decide +kernel
theorem dX0_tell_114 : decode cX0_tell 114 = .ok (.ireturn, 1) := by decide +kernel
theorem dX0_costs_0 : decode cX0_costs 0 = .ok (.iconst 0, 1) := by decide +kernel
theorem dX0_costs_1 : decode cX0_costs 1 = .ok (.istore_n 1, 1) := by decide +kernel
theorem dX0_costs_2 : decode cX0_costs 2 = .ok (.iconst 0, 1) := by decide +kernel
theorem dX0_costs_3 : decode cX0_costs 3 = .ok (.istore_n 2, 1) := by decide +kernel
theorem dX0_costs_4 : decode cX0_costs 4 = .ok (.iload_n 2, 1) := by decide +kernel
theorem dX0_costs_5 : decode cX0_costs 5 = .ok (.aload_n 0, 1) := by decide +kernel
theorem dX0_costs_6 : decode cX0_costs 6 = .ok (.getfield 30, 3) := by decide +kernel
theorem dX0_costs_9 : decode cX0_costs 9 = .ok (.if_icmp .ge 25, 3) := by decide +kernel
theorem dX0_costs_12 : decode cX0_costs 12 = .ok (.iload_n 1, 1) := by decide +kernel
theorem dX0_costs_13 : decode cX0_costs 13 = .ok (.aload_n 0, 1) := by decide +kernel
theorem dX0_costs_14 : decode cX0_costs 14 = .ok (.getfield 21, 3) := by decide +kernel
theorem dX0_costs_17 : decode cX0_costs 17 = .ok (.iload_n 2, 1) := by decide +kernel
theorem dX0_costs_18 : decode cX0_costs 18 = .ok (.iaload, 1) := by decide +kernel
theorem dX0_costs_19 : decode cX0_costs 19 = .ok (.aload_n 0, 1) := by decide +kernel
theorem dX0_costs_20 : decode cX0_costs 20 = .ok (.getfield 15, 3) := by decide +kernel
theorem dX0_costs_23 : decode cX0_costs 23 = .ok (.iload_n 2, 1) := by decide +kernel
theorem dX0_costs_24 : decode cX0_costs 24 = .ok (.iaload, 1) := by decide +kernel
theorem dX0_costs_25 : decode cX0_costs 25 = .ok (.imul, 1) := by decide +kernel
theorem dX0_costs_26 : decode cX0_costs 26 = .ok (.iadd, 1) := by decide +kernel
theorem dX0_costs_27 : decode cX0_costs 27 = .ok (.istore_n 1, 1) := by decide +kernel
theorem dX0_costs_28 : decode cX0_costs 28 = .ok (.iinc 2 1, 3) := by decide +kernel
theorem dX0_costs_31 : decode cX0_costs 31 = .ok (.goto (-27), 3) := by decide +kernel
theorem dX0_costs_34 : decode cX0_costs 34 = .ok (.iload_n 1, 1) := by decide +kernel
theorem dX0_costs_35 : decode cX0_costs 35 = .ok (.ireturn, 1) := by decide +kernel
theorem dX0_letAllGo_0 : decode cX0_letAllGo 0 = .ok (.iconst 0, 1) := by decide +kernel
theorem dX0_letAllGo_1 : decode cX0_letAllGo 1 = .ok (.istore_n 1, 1) := by decide +kernel
theorem dX0_letAllGo_2 : decode cX0_letAllGo 2 = .ok (.iload_n 1, 1) := by decide +kernel
theorem dX0_letAllGo_3 : decode cX0_letAllGo 3 = .ok (.aload_n 0, 1) := by decide +kernel
theorem dX0_letAllGo_4 : decode cX0_letAllGo 4 = .ok (.getfield 30, 3) := by decide +kernel
theorem dX0_letAllGo_7 : decode cX0_letAllGo 7 = .ok (.if_icmp .ge 17, 3) := by decide +kernel
theorem dX0_letAllGo_10 : decode cX0_letAllGo 10 = .ok (.aload_n 0, 1) := by decide +kernel
theorem dX0_letAllGo_11 : decode cX0_letAllGo 11 = .ok (.getfield 18, 3) := by decide +kernel
theorem dX0_letAllGo_14 : decode cX0_letAllGo 14 = .ok (.iload_n 1, 1) := by decide +kernel
theorem dX0_letAllGo_15 : decode cX0_letAllGo 15 = .ok (.bipush (-6), 2) := by decide +kernel
theorem dX0_letAllGo_17 : decode cX0_letAllGo 17 = .ok (.iastore, 1) := by decide +kernel
theorem dX0_letAllGo_18 : decode cX0_letAllGo 18 = .ok (.iinc 1 1, 3) := by decide +kernel
theorem dX0_letAllGo_21 : decode cX0_letAllGo 21 = .ok (.goto (-19), 3) := by decide +kernel
theorem dX0_letAllGo_24 : decode cX0_letAllGo 24 = .ok (.return_, 1) := by decide +kernel
set_option maxRecDepth 20000 in
theorem ggX1_init_X6_init : GoodIn wsX1_init wsX6_init := goodIn_r _ [22, 23, 2, 3, 11, 24, 25, 26, 27, 28, 29, 30, 31, 32, 33, 50, 51, 52, 53, 54, 55, 56, 57, 58, 59, 60] (by decide +kernel) (by decide +kernel)
set_option maxRecDepth 20000 in
theorem gX1_init_X6_init_n28 : GoodIn wsX1_init (wsX6_init) := ggX1_init_X6_init
set_option maxRecDepth 20000 in
theorem ggX1_init_X0_init : GoodIn wsX1_init wsX0_init := goodIn_r _ [35, 36, 2, 3, 11, 37, 38, 39, 40, 41, 42, 61, 62, 63, 64, 65, 66, 67] (by decide +kernel) (by decide +kernel)
set_option maxRecDepth 20000 in
theorem gX1_init_X0_init_n35 : GoodIn wsX1_init (wsX0_init) := ggX1_init_X0_init
theorem dX1_init_0 : decode cX1_init 0 = .ok (.aload_n 0, 1) := by decide +kernel
theorem dX1_init_1 : decode cX1_init 1 = .ok (.invokespecial 3, 3) := by decide +kernel
theorem dX1_init_4 : decode cX1_init 4 = .ok (.aload_n 0, 1) := by decide +kernel
theorem dX1_init_5 : decode cX1_init 5 = .ok (.getstatic 9, 3) := by decide +kernel
theorem dX1_init_8 : decode cX1_init 8 = .ok (.invokevirtual 13, 3) := by decide +kernel
theorem dX1_init_11 : decode cX1_init 11 = .ok (.checkcast 14, 3) := by decide +kernel
theorem dX1_init_14 : decode cX1_init 14 = .ok (.putfield 18, 3) := by decide +kernel
theorem dX1_init_17 : decode cX1_init 17 = .ok (.aload_n 0, 1) := by decide +kernel
theorem dX1_init_18 : decode cX1_init 18 = .ok (.iconst 3, 1) := by decide +kernel
theorem dX1_init_19 : decode cX1_init 19 = .ok (.newarray .int, 2) := by decide +kernel
theorem dX1_init_21 : decode cX1_init 21 = .ok (.putfield 23, 3) := by decide +kernel
theorem dX1_init_24 : decode cX1_init 24 = .ok (.aload_n 0, 1) := by decide +kernel
theorem dX1_init_25 : decode cX1_init 25 = .ok (.new 26, 3) := by decide +kernel
theorem dX1_init_28 : decode cX1_init 28 = .ok (.dup, 1) := by decide +kernel
theorem dX1_init_29 : decode cX1_init 29 = .ok (.invokespecial 28, 3) := by decide +kernel
theorem dX1_init_32 : decode cX1_init 32 = .ok (.putfield 29, 3) := by decide +kernel
theorem dX1_init_35 : decode cX1_init 35 = .ok (.aload_n 0, 1) := by decide +kernel
theorem dX1_init_36 : decode cX1_init 36 = .ok (.new 33, 3) := by decide +kernel
theorem dX1_init_39 : decode cX1_init 39 = .ok (.dup, 1) := by decide +kernel
theorem dX1_init_40 : decode cX1_init 40 = .ok (.invokespecial 35, 3) := by decide +kernel
theorem dX1_init_43 : decode cX1_init 43 = .ok (.putfield 36, 3) := by decide +kernel
theorem dX1_init_46 : decode cX1_init 46 = .ok (.return_, 1) := by decide +kernel
set_option maxRecDepth 20000 in
theorem ggX1_copyFrom_X7_copyRow : GoodIn wsX1_copyFrom wsX7_copyRow := goodIn_r _ [10, 11, 12, 13, 14, 15, 16, 17, 18] (by decide +kernel) (by decide +kernel)
set_option maxRecDepth 20000 in
theorem gX1_copyFrom_X7_copyRow_n40 : GoodIn wsX1_copyFrom (wsX7_copyRow) := ggX1_copyFrom_X7_copyRow
set_option maxRecDepth 20000 in
theorem ggX1_copyFrom_X6_copyFrom : GoodIn wsX1_copyFrom wsX6_copyFrom := goodIn_r _ [23, 24, 25, 26, 27, 28, 29, 30, 31, 32, 33, 34, 8, 9, 10, 11, 12, 13, 14, 15, 16, 17, 18, 54, 55, 56, 57, 58, 59, 60, 61, 62, 63, 64] (by decide +kernel) (by decide +kernel)
set_option maxRecDepth 20000 in
theorem gX1_copyFrom_X6_copyFrom : GoodIn wsX1_copyFrom (wsV RX1 44 RX6 yX6_copyFrom wsX6_copyFrom) := goodIn_app (goodIn_of _ (by decide +kernel)) ggX1_copyFrom_X6_copyFrom
set_option maxRecDepth 20000 in
theorem ggX1_copyFrom_X0_copyFrom : GoodIn wsX1_copyFrom wsX0_copyFrom := goodIn_r _ [39, 40, 41, 42, 43, 44, 45, 46, 8, 9, 10, 11, 12, 13, 14, 15, 16, 17, 18, 65, 66, 67, 68, 69, 70, 71] (by decide +kernel) (by decide +kernel)
set_option maxRecDepth 20000 in
theorem gX1_copyFrom_X0_copyFrom : GoodIn wsX1_copyFrom (wsV RX1 48 RX0 yX0_copyFrom wsX0_copyFrom) := goodIn_app (goodIn_of _ (by decide +kernel)) ggX1_copyFrom_X0_copyFrom
theorem dX1_copyFrom_0 : decode cX1_copyFrom 0 = .ok (.aload_n 1, 1) := by decide +kernel
theorem dX1_copyFrom_1 : decode cX1_copyFrom 1 = .ok (.getfield 18, 3) := by decide +kernel
theorem dX1_copyFrom_4 : decode cX1_copyFrom 4 = .ok (.aload_n 0, 1) := by decide +kernel
theorem dX1_copyFrom_5 : decode cX1_copyFrom 5 = .ok (.getfield 18, 3) := by decide +kernel
theorem dX1_copyFrom_8 : decode cX1_copyFrom 8 = .ok (.invokestatic 40, 3) := by decide +kernel
theorem dX1_copyFrom_11 : decode cX1_copyFrom 11 = .ok (.aload_n 1, 1) := by decide +kernel
theorem dX1_copyFrom_12 : decode cX1_copyFrom 12 = .ok (.getfield 23, 3) := by decide +kernel
theorem dX1_copyFrom_15 : decode cX1_copyFrom 15 = .ok (.aload_n 0, 1) := by decide +kernel
theorem dX1_copyFrom_16 : decode cX1_copyFrom 16 = .ok (.getfield 23, 3) := by decide +kernel
theorem dX1_copyFrom_19 : decode cX1_copyFrom 19 = .ok (.invokestatic 40, 3) := by decide +kernel
theorem dX1_copyFrom_22 : decode cX1_copyFrom 22 = .ok (.aload_n 0, 1) := by decide +kernel
theorem dX1_copyFrom_23 : decode cX1_copyFrom 23 = .ok (.getfield 29, 3) := by decide +kernel
theorem dX1_copyFrom_26 : decode cX1_copyFrom 26 = .ok (.aload_n 1, 1) := by decide +kernel
theorem dX1_copyFrom_27 : decode cX1_copyFrom 27 = .ok (.getfield 29, 3) := by decide +kernel
theorem dX1_copyFrom_30 : decode cX1_copyFrom 30 = .ok (.invokevirtual 44, 3) := by decide +kernel
theorem dX1_copyFrom_33 : decode cX1_copyFrom 33 = .ok (.aload_n 0, 1) := by decide +kernel
theorem dX1_copyFrom_34 : decode cX1_copyFrom 34 = .ok (.getfield 36, 3) := by decide +kernel
theorem dX1_copyFrom_37 : decode cX1_copyFrom 37 = .ok (.aload_n 1, 1) := by decide +kernel
theorem dX1_copyFrom_38 : decode cX1_copyFrom 38 = .ok (.getfield 36, 3) := by decide +kernel
theorem dX1_copyFrom_41 : decode cX1_copyFrom 41 = .ok (.invokevirtual 48, 3) := by decide +kernel
theorem dX1_copyFrom_44 : decode cX1_copyFrom 44 = .ok (.aload_n 0, 1) := by decide +kernel
theorem dX1_copyFrom_45 : decode cX1_copyFrom 45 = .ok (.aload_n 1, 1) := by decide +kernel
theorem dX1_copyFrom_46 : decode cX1_copyFrom 46 = .ok (.getfield 51, 3) := by decide +kernel
theorem dX1_copyFrom_49 : decode cX1_copyFrom 49 = .ok (.putfield 51, 3) := by decide +kernel
theorem dX1_copyFrom_52 : decode cX1_copyFrom 52 = .ok (.aload_n 0, 1) := by decide +kernel
theorem dX1_copyFrom_53 : decode cX1_copyFrom 53 = .ok (.aload_n 1, 1) := by decide +kernel
theorem dX1_copyFrom_54 : decode cX1_copyFrom 54 = .ok (.getfield 55, 3) := by decide +kernel
theorem dX1_copyFrom_57 : decode cX1_copyFrom 57 = .ok (.putfield 55, 3) := by decide +kernel
theorem dX1_copyFrom_60 : decode cX1_copyFrom 60 = .ok (.aload_n 0, 1) := by decide +kernel
theorem dX1_copyFrom_61 : decode cX1_copyFrom 61 = .ok (.aload_n 1, 1) := by decide +kernel
theorem dX1_copyFrom_62 : decode cX1_copyFrom 62 = .ok (.getfield 59, 3) := by decide +kernel
theorem dX1_copyFrom_65 : decode cX1_copyFrom 65 = .ok (.putfield 59, 3) := by decide +kernel
theorem dX1_copyFrom_68 : decode cX1_copyFrom 68 = .ok (.return_, 1) := by decide +kernel
set_option maxRecDepth 20000 in
theorem ggX1_changeSetting_X7_isWithin : GoodIn wsX1_changeSetting wsX7_isWithin := goodIn_r _ [4] (by decide +kernel) (by decide +kernel)
set_option maxRecDepth 20000 in
theorem gX1_changeSetting_X7_isWithin_n65 : GoodIn wsX1_changeSetting (wsX7_isWithin) := ggX1_changeSetting_X7_isWithin
theorem dX1_changeSetting_0 : decode cX1_changeSetting 0 = .ok (.iload_n 1, 1) := by decide +kernel
theorem dX1_changeSetting_1 : decode cX1_changeSetting 1 = .ok (.ifCond .lt 20, 3) := by decide +kernel
theorem dX1_changeSetting_4 : decode cX1_changeSetting 4 = .ok (.iload_n 1, 1) := by decide +kernel
theorem dX1_changeSetting_5 : decode cX1_changeSetting 5 = .ok (.aload_n 0, 1) := by decide +kernel
theorem dX1_changeSetting_6 : decode cX1_changeSetting 6 = .ok (.getfield 18, 3) := by decide +kernel
theorem dX1_changeSetting_9 : decode cX1_changeSetting 9 = .ok (.arraylength, 1) := by decide +kernel
theorem dX1_changeSetting_10 : decode cX1_changeSetting 10 = .ok (.if_icmp .ge 11, 3) := by decide +kernel
theorem dX1_changeSetting_13 : decode cX1_changeSetting 13 = .ok (.iload_n 1, 1) := by decide +kernel
theorem dX1_changeSetting_14 : decode cX1_changeSetting 14 = .ok (.getstatic 62, 3) := by decide +kernel
theorem dX1_changeSetting_17 : decode cX1_changeSetting 17 = .ok (.arraylength, 1) := by decide +kernel
theorem dX1_changeSetting_18 : decode cX1_changeSetting 18 = .ok (.if_icmp .lt 6, 3) := by decide +kernel
theorem dX1_changeSetting_21 : decode cX1_changeSetting 21 = .ok (.bipush (-2), 2) := by decide +kernel
theorem dX1_changeSetting_23 : decode cX1_changeSetting 23 = .ok (.ireturn, 1) := by decide +kernel
theorem dX1_changeSetting_24 : decode cX1_changeSetting 24 = .ok (.iload_n 2, 1) := by decide +kernel
theorem dX1_changeSetting_25 : decode cX1_changeSetting 25 = .ok (.iconst 1, 1) := by decide +kernel
theorem dX1_changeSetting_26 : decode cX1_changeSetting 26 = .ok (.getstatic 62, 3) := by decide +kernel
theorem dX1_changeSetting_29 : decode cX1_changeSetting 29 = .ok (.iload_n 1, 1) := by decide +kernel
theorem dX1_changeSetting_30 : decode cX1_changeSetting 30 = .ok (.iaload, 1) := by decide +kernel
theorem dX1_changeSetting_31 : decode cX1_changeSetting 31 = .ok (.invokestatic 65, 3) := by decide +kernel
theorem dX1_changeSetting_34 : decode cX1_changeSetting 34 = .ok (.ifCond .ne 6, 3) := by decide +kernel
theorem dX1_changeSetting_37 : decode cX1_changeSetting 37 = .ok (.bipush (-2), 2) := by decide +kernel
theorem dX1_changeSetting_39 : decode cX1_changeSetting 39 = .ok (.ireturn, 1) := by decide +kernel
theorem dX1_changeSetting_40 : decode cX1_changeSetting 40 = .ok (.aload_n 0, 1) := by decide +kernel
theorem dX1_changeSetting_41 : decode cX1_changeSetting 41 = .ok (.getfield 18, 3) := by decide +kernel
theorem dX1_changeSetting_44 : decode cX1_changeSetting 44 = .ok (.iload_n 1, 1) := by decide +kernel
theorem dX1_changeSetting_45 : decode cX1_changeSetting 45 = .ok (.iaload, 1) := by decide +kernel
theorem dX1_changeSetting_46 : decode cX1_changeSetting 46 = .ok (.istore_n 3, 1) := by decide +kernel
theorem dX1_changeSetting_47 : decode cX1_changeSetting 47 = .ok (.aload_n 0, 1) := by decide +kernel
theorem dX1_changeSetting_48 : decode cX1_changeSetting 48 = .ok (.getfield 18, 3) := by decide +kernel
theorem dX1_changeSetting_51 : decode cX1_changeSetting 51 = .ok (.iload_n 1, 1) := by decide +kernel
theorem dX1_changeSetting_52 : decode cX1_changeSetting 52 = .ok (.iload_n 2, 1) := by decide +kernel
theorem dX1_changeSetting_53 : decode cX1_changeSetting 53 = .ok (.iastore, 1) := by decide +kernel
theorem dX1_changeSetting_54 : decode cX1_changeSetting 54 = .ok (.iload_n 3, 1) := by decide +kernel
theorem dX1_changeSetting_55 : decode cX1_changeSetting 55 = .ok (.ireturn, 1) := by decide +kernel
set_option maxRecDepth 20000 in
theorem ggX1_addStand_X7_isWithin : GoodIn wsX1_addStand wsX7_isWithin := goodIn_r _ [5] (by decide +kernel) (by decide +kernel)
set_option maxRecDepth 20000 in
theorem gX1_addStand_X7_isWithin_n65 : GoodIn wsX1_addStand (wsX7_isWithin) := ggX1_addStand_X7_isWithin
set_option maxRecDepth 20000 in
theorem ggX1_addStand_X6_has : GoodIn wsX1_addStand wsX6_has := goodIn_r _ [10, 11, 38, 39, 40, 41, 42, 43, 44, 45, 46, 47, 48] (by decide +kernel) (by decide +kernel)
set_option maxRecDepth 20000 in
theorem gX1_addStand_X6_has : GoodIn wsX1_addStand (wsV RX1 69 RX6 yX6_has wsX6_has) := goodIn_app (goodIn_of _ (by decide +kernel)) ggX1_addStand_X6_has
set_option maxRecDepth 20000 in
theorem ggX1_addStand_X6_isGone : GoodIn wsX1_addStand wsX6_isGone := goodIn_r _ [15, 16, 17, 7, 8, 9, 10, 11, 38, 39, 40, 41, 42, 43, 44, 45, 46, 47, 48] (by decide +kernel) (by decide +kernel)
set_option maxRecDepth 20000 in
theorem gX1_addStand_X6_isGone : GoodIn wsX1_addStand (wsV RX1 76 RX6 yX6_isGone wsX6_isGone) := goodIn_app (goodIn_of _ (by decide +kernel)) ggX1_addStand_X6_isGone
set_option maxRecDepth 20000 in
theorem ggX1_addStand_X6_append : GoodIn wsX1_addStand wsX6_append := goodIn_r _ [21, 11, 22, 23, 24, 25, 16, 26, 27, 28, 29, 30, 38, 39, 40, 41, 42, 43, 44, 45, 46, 47, 48] (by decide +kernel) (by decide +kernel)
set_option maxRecDepth 20000 in
theorem gX1_addStand_X6_append : GoodIn wsX1_addStand (wsV RX1 79 RX6 yX6_append wsX6_append) := goodIn_app (goodIn_of _ (by decide +kernel)) ggX1_addStand_X6_append
theorem dX1_addStand_0 : decode cX1_addStand 0 = .ok (.iload_n 1, 1) := by decide +kernel
theorem dX1_addStand_1 : decode cX1_addStand 1 = .ok (.iconst 1, 1) := by decide +kernel
theorem dX1_addStand_2 : decode cX1_addStand 2 = .ok (.bipush 99, 2) := by decide +kernel
theorem dX1_addStand_4 : decode cX1_addStand 4 = .ok (.invokestatic 65, 3) := by decide +kernel
theorem dX1_addStand_7 : decode cX1_addStand 7 = .ok (.ifCond .ne 6, 3) := by decide +kernel
theorem dX1_addStand_10 : decode cX1_addStand 10 = .ok (.bipush (-2), 2) := by decide +kernel
theorem dX1_addStand_12 : decode cX1_addStand 12 = .ok (.ireturn, 1) := by decide +kernel
theorem dX1_addStand_13 : decode cX1_addStand 13 = .ok (.iload_n 2, 1) := by decide +kernel
theorem dX1_addStand_14 : decode cX1_addStand 14 = .ok (.iconst 1, 1) := by decide +kernel
theorem dX1_addStand_15 : decode cX1_addStand 15 = .ok (.bipush 20, 2) := by decide +kernel
theorem dX1_addStand_17 : decode cX1_addStand 17 = .ok (.invokestatic 65, 3) := by decide +kernel
theorem dX1_addStand_20 : decode cX1_addStand 20 = .ok (.ifCond .ne 6, 3) := by decide +kernel
theorem dX1_addStand_23 : decode cX1_addStand 23 = .ok (.bipush (-2), 2) := by decide +kernel
theorem dX1_addStand_25 : decode cX1_addStand 25 = .ok (.ireturn, 1) := by decide +kernel
theorem dX1_addStand_26 : decode cX1_addStand 26 = .ok (.iload_n 3, 1) := by decide +kernel
theorem dX1_addStand_27 : decode cX1_addStand 27 = .ok (.iconst 0, 1) := by decide +kernel
theorem dX1_addStand_28 : decode cX1_addStand 28 = .ok (.bipush 99, 2) := by decide +kernel
theorem dX1_addStand_30 : decode cX1_addStand 30 = .ok (.invokestatic 65, 3) := by decide +kernel
theorem dX1_addStand_33 : decode cX1_addStand 33 = .ok (.ifCond .ne 6, 3) := by decide +kernel
theorem dX1_addStand_36 : decode cX1_addStand 36 = .ok (.bipush (-2), 2) := by decide +kernel
theorem dX1_addStand_38 : decode cX1_addStand 38 = .ok (.ireturn, 1) := by decide +kernel
theorem dX1_addStand_39 : decode cX1_addStand 39 = .ok (.iload 4, 2) := by decide +kernel
theorem dX1_addStand_41 : decode cX1_addStand 41 = .ok (.bipush (-6), 2) := by decide +kernel
theorem dX1_addStand_43 : decode cX1_addStand 43 = .ok (.if_icmp .eq 17, 3) := by decide +kernel
theorem dX1_addStand_46 : decode cX1_addStand 46 = .ok (.aload_n 0, 1) := by decide +kernel
theorem dX1_addStand_47 : decode cX1_addStand 47 = .ok (.getfield 29, 3) := by decide +kernel
theorem dX1_addStand_50 : decode cX1_addStand 50 = .ok (.iload 4, 2) := by decide +kernel
theorem dX1_addStand_52 : decode cX1_addStand 52 = .ok (.invokevirtual 69, 3) := by decide +kernel
theorem dX1_addStand_55 : decode cX1_addStand 55 = .ok (.ifCond .ne 5, 3) := by decide +kernel
theorem dX1_addStand_58 : decode cX1_addStand 58 = .ok (.iconst (-1), 1) := by decide +kernel
theorem dX1_addStand_59 : decode cX1_addStand 59 = .ok (.ireturn, 1) := by decide +kernel
theorem dX1_addStand_60 : decode cX1_addStand 60 = .ok (.aload_n 0, 1) := by decide +kernel
theorem dX1_addStand_61 : decode cX1_addStand 61 = .ok (.getfield 29, 3) := by decide +kernel
theorem dX1_addStand_64 : decode cX1_addStand 64 = .ok (.getfield 73, 3) := by decide +kernel
theorem dX1_addStand_67 : decode cX1_addStand 67 = .ok (.bipush 20, 2) := by decide +kernel
theorem dX1_addStand_69 : decode cX1_addStand 69 = .ok (.if_icmp .lt 6, 3) := by decide +kernel
theorem dX1_addStand_72 : decode cX1_addStand 72 = .ok (.bipush (-4), 2) := by decide +kernel
theorem dX1_addStand_74 : decode cX1_addStand 74 = .ok (.ireturn, 1) := by decide +kernel
theorem dX1_addStand_75 : decode cX1_addStand 75 = .ok (.aload_n 0, 1) := by decide +kernel
theorem dX1_addStand_76 : decode cX1_addStand 76 = .ok (.getfield 55, 3) := by decide +kernel
theorem dX1_addStand_79 : decode cX1_addStand 79 = .ok (.ifCond .ne 15, 3) := by decide +kernel
theorem dX1_addStand_82 : decode cX1_addStand 82 = .ok (.aload_n 0, 1) := by decide +kernel
theorem dX1_addStand_83 : decode cX1_addStand 83 = .ok (.getfield 29, 3) := by decide +kernel
theorem dX1_addStand_86 : decode cX1_addStand 86 = .ok (.iload 4, 2) := by decide +kernel
theorem dX1_addStand_88 : decode cX1_addStand 88 = .ok (.invokevirtual 76, 3) := by decide +kernel
theorem dX1_addStand_91 : decode cX1_addStand 91 = .ok (.ifCond .eq 6, 3) := by decide +kernel
theorem dX1_addStand_94 : decode cX1_addStand 94 = .ok (.bipush (-5), 2) := by decide +kernel
theorem dX1_addStand_96 : decode cX1_addStand 96 = .ok (.ireturn, 1) := by decide +kernel
theorem dX1_addStand_97 : decode cX1_addStand 97 = .ok (.aload_n 0, 1) := by decide +kernel
theorem dX1_addStand_98 : decode cX1_addStand 98 = .ok (.getfield 29, 3) := by decide +kernel
theorem dX1_addStand_101 : decode cX1_addStand 101 = .ok (.iload_n 1, 1) := by decide +kernel
theorem dX1_addStand_102 : decode cX1_addStand 102 = .ok (.iload_n 2, 1) := by decide +kernel
theorem dX1_addStand_103 : decode cX1_addStand 103 = .ok (.iload_n 3, 1) := by decide +kernel
theorem dX1_addStand_104 : decode cX1_addStand 104 = .ok (.iload 4, 2) := by decide +kernel
theorem dX1_addStand_106 : decode cX1_addStand 106 = .ok (.invokevirtual 79, 3) := by decide +kernel
theorem dX1_addStand_109 : decode cX1_addStand 109 = .ok (.ireturn, 1) := by decide +kernel
set_option maxRecDepth 20000 in
theorem ggX1_addCrew_X7_isWithin : GoodIn wsX1_addCrew wsX7_isWithin := goodIn_r _ [4] (by decide +kernel) (by decide +kernel)
set_option maxRecDepth 20000 in
theorem gX1_addCrew_X7_isWithin_n65 : GoodIn wsX1_addCrew (wsX7_isWithin) := ggX1_addCrew_X7_isWithin
set_option maxRecDepth 20000 in
theorem ggX1_addCrew_X0_append : GoodIn wsX1_addCrew wsX0_append := goodIn_r _ [9, 10, 11, 12, 13, 14, 15, 16, 24, 25, 26, 27, 28, 29, 30] (by decide +kernel) (by decide +kernel)
set_option maxRecDepth 20000 in
theorem gX1_addCrew_X0_append : GoodIn wsX1_addCrew (wsV RX1 83 RX0 yX0_append wsX0_append) := goodIn_app (goodIn_of _ (by decide +kernel)) ggX1_addCrew_X0_append
theorem dX1_addCrew_0 : decode cX1_addCrew 0 = .ok (.iload_n 1, 1) := by decide +kernel
theorem dX1_addCrew_1 : decode cX1_addCrew 1 = .ok (.iconst 1, 1) := by decide +kernel
theorem dX1_addCrew_2 : decode cX1_addCrew 2 = .ok (.bipush 9, 2) := by decide +kernel
theorem dX1_addCrew_4 : decode cX1_addCrew 4 = .ok (.invokestatic 65, 3) := by decide +kernel
theorem dX1_addCrew_7 : decode cX1_addCrew 7 = .ok (.ifCond .eq 13, 3) := by decide +kernel
theorem dX1_addCrew_10 : decode cX1_addCrew 10 = .ok (.iload_n 2, 1) := by decide +kernel
theorem dX1_addCrew_11 : decode cX1_addCrew 11 = .ok (.iconst 0, 1) := by decide +kernel
theorem dX1_addCrew_12 : decode cX1_addCrew 12 = .ok (.bipush 99, 2) := by decide +kernel
theorem dX1_addCrew_14 : decode cX1_addCrew 14 = .ok (.invokestatic 65, 3) := by decide +kernel
theorem dX1_addCrew_17 : decode cX1_addCrew 17 = .ok (.ifCond .ne 6, 3) := by decide +kernel
theorem dX1_addCrew_20 : decode cX1_addCrew 20 = .ok (.bipush (-2), 2) := by decide +kernel
theorem dX1_addCrew_22 : decode cX1_addCrew 22 = .ok (.ireturn, 1) := by decide +kernel
theorem dX1_addCrew_23 : decode cX1_addCrew 23 = .ok (.aload_n 0, 1) := by decide +kernel
theorem dX1_addCrew_24 : decode cX1_addCrew 24 = .ok (.getfield 36, 3) := by decide +kernel
theorem dX1_addCrew_27 : decode cX1_addCrew 27 = .ok (.iload_n 1, 1) := by decide +kernel
theorem dX1_addCrew_28 : decode cX1_addCrew 28 = .ok (.iload_n 2, 1) := by decide +kernel
theorem dX1_addCrew_29 : decode cX1_addCrew 29 = .ok (.invokevirtual 83, 3) := by decide +kernel
theorem dX1_addCrew_32 : decode cX1_addCrew 32 = .ok (.ireturn, 1) := by decide +kernel
set_option maxRecDepth 20000 in
theorem ggX1_endFair_X0_letAllGo : GoodIn wsX1_endFair wsX0_letAllGo := goodIn_r _ [8, 9, 10, 27, 28, 29, 30, 31, 32, 33] (by decide +kernel) (by decide +kernel)
set_option maxRecDepth 20000 in
theorem gX1_endFair_X0_letAllGo : GoodIn wsX1_endFair (wsV RX1 86 RX0 yX0_letAllGo wsX0_letAllGo) := goodIn_app (goodIn_of _ (by decide +kernel)) ggX1_endFair_X0_letAllGo
set_option maxRecDepth 20000 in
theorem ggX1_endFair_X6_clearUnbuilt : GoodIn wsX1_endFair wsX6_clearUnbuilt := goodIn_r _ [15, 16, 17, 18, 19, 34, 35, 36, 37, 38, 39, 40, 41, 42, 43, 44] (by decide +kernel) (by decide +kernel)
set_option maxRecDepth 20000 in
theorem gX1_endFair_X6_clearUnbuilt : GoodIn wsX1_endFair (wsV RX1 89 RX6 yX6_clearUnbuilt wsX6_clearUnbuilt) := goodIn_app (goodIn_of _ (by decide +kernel)) ggX1_endFair_X6_clearUnbuilt
theorem dX1_endFair_0 : decode cX1_endFair 0 = .ok (.aload_n 0, 1) := by decide +kernel
theorem dX1_endFair_1 : decode cX1_endFair 1 = .ok (.getfield 55, 3) := by decide +kernel
theorem dX1_endFair_4 : decode cX1_endFair 4 = .ok (.ifCond .eq 6, 3) := by decide +kernel
theorem dX1_endFair_7 : decode cX1_endFair 7 = .ok (.bipush (-5), 2) := by decide +kernel
theorem dX1_endFair_9 : decode cX1_endFair 9 = .ok (.ireturn, 1) := by decide +kernel
theorem dX1_endFair_10 : decode cX1_endFair 10 = .ok (.aload_n 0, 1) := by decide +kernel
theorem dX1_endFair_11 : decode cX1_endFair 11 = .ok (.iconst 1, 1) := by decide +kernel
theorem dX1_endFair_12 : decode cX1_endFair 12 = .ok (.putfield 55, 3) := by decide +kernel
theorem dX1_endFair_15 : decode cX1_endFair 15 = .ok (.aload_n 0, 1) := by decide +kernel
theorem dX1_endFair_16 : decode cX1_endFair 16 = .ok (.getfield 36, 3) := by decide +kernel
theorem dX1_endFair_19 : decode cX1_endFair 19 = .ok (.invokevirtual 86, 3) := by decide +kernel
theorem dX1_endFair_22 : decode cX1_endFair 22 = .ok (.aload_n 0, 1) := by decide +kernel
theorem dX1_endFair_23 : decode cX1_endFair 23 = .ok (.getfield 29, 3) := by decide +kernel
theorem dX1_endFair_26 : decode cX1_endFair 26 = .ok (.invokevirtual 89, 3) := by decide +kernel
theorem dX1_endFair_29 : decode cX1_endFair 29 = .ok (.ireturn, 1) := by decide +kernel
theorem dX1_findLost_0 : decode cX1_findLost 0 = .ok (.aload_n 0, 1) := by decide +kernel
theorem dX1_findLost_1 : decode cX1_findLost 1 = .ok (.getfield 59, 3) := by decide +kernel
theorem dX1_findLost_4 : decode cX1_findLost 4 = .ok (.ifCond .gt 6, 3) := by decide +kernel
theorem dX1_findLost_7 : decode cX1_findLost 7 = .ok (.bipush (-5), 2) := by decide +kernel
theorem dX1_findLost_9 : decode cX1_findLost 9 = .ok (.ireturn, 1) := by decide +kernel
theorem dX1_findLost_10 : decode cX1_findLost 10 = .ok (.aload_n 0, 1) := by decide +kernel
theorem dX1_findLost_11 : decode cX1_findLost 11 = .ok (.dup, 1) := by decide +kernel
theorem dX1_findLost_12 : decode cX1_findLost 12 = .ok (.getfield 59, 3) := by decide +kernel
theorem dX1_findLost_15 : decode cX1_findLost 15 = .ok (.iconst 1, 1) := by decide +kernel
theorem dX1_findLost_16 : decode cX1_findLost 16 = .ok (.isub, 1) := by decide +kernel
theorem dX1_findLost_17 : decode cX1_findLost 17 = .ok (.putfield 59, 3) := by decide +kernel
theorem dX1_findLost_20 : decode cX1_findLost 20 = .ok (.aload_n 0, 1) := by decide +kernel
theorem dX1_findLost_21 : decode cX1_findLost 21 = .ok (.getfield 59, 3) := by decide +kernel
theorem dX1_findLost_24 : decode cX1_findLost 24 = .ok (.ireturn, 1) := by decide +kernel
set_option maxRecDepth 20000 in
theorem ggX1_passHours_X7_isWithin : GoodIn wsX1_passHours wsX7_isWithin := goodIn_r _ [4] (by decide +kernel) (by decide +kernel)
set_option maxRecDepth 20000 in
theorem gX1_passHours_X7_isWithin_n65 : GoodIn wsX1_passHours (wsX7_isWithin) := ggX1_passHours_X7_isWithin
set_option maxRecDepth 20000 in
theorem ggX1_passHours_X1_passOneHour : GoodIn wsX1_passHours wsX1_passOneHour := goodIn_r _ [9, 1, 10, 11, 12, 8, 13, 14, 15, 16, 17, 18, 19, 20, 21, 22, 23, 24, 25, 26, 27, 28, 29, 30, 31, 32, 33, 34, 35, 36, 37, 38, 39, 40, 41, 42, 43, 44, 45, 46, 47, 48, 49, 50, 51, 52, 53, 54, 55, 56, 57, 58, 59, 60, 61, 62, 63, 64, 65, 66, 67, 68, 69, 70, 71, 72, 73, 74, 75, 76, 77, 78, 79, 80, 81, 82, 83, 84, 85, 86, 87, 88, 89, 90, 91, 92, 93, 94, 95, 96, 97, 98, 99, 100, 101, 102, 103, 104, 105, 106] (by decide +kernel) (by decide +kernel)
set_option maxRecDepth 20000 in
theorem gX1_passHours_X1_passOneHour : GoodIn wsX1_passHours (wsV RX1 93 RX1 yX1_passOneHour wsX1_passOneHour) := goodIn_app (goodIn_of _ (by decide +kernel)) ggX1_passHours_X1_passOneHour
theorem dX1_passHours_0 : decode cX1_passHours 0 = .ok (.iload_n 1, 1) := by decide +kernel
theorem dX1_passHours_1 : decode cX1_passHours 1 = .ok (.iconst 1, 1) := by decide +kernel
theorem dX1_passHours_2 : decode cX1_passHours 2 = .ok (.bipush 99, 2) := by decide +kernel
theorem dX1_passHours_4 : decode cX1_passHours 4 = .ok (.invokestatic 65, 3) := by decide +kernel
theorem dX1_passHours_7 : decode cX1_passHours 7 = .ok (.ifCond .ne 6, 3) := by decide +kernel
theorem dX1_passHours_10 : decode cX1_passHours 10 = .ok (.bipush (-2), 2) := by decide +kernel
theorem dX1_passHours_12 : decode cX1_passHours 12 = .ok (.ireturn, 1) := by decide +kernel
theorem dX1_passHours_13 : decode cX1_passHours 13 = .ok (.aload_n 0, 1) := by decide +kernel
theorem dX1_passHours_14 : decode cX1_passHours 14 = .ok (.getfield 51, 3) := by decide +kernel
theorem dX1_passHours_17 : decode cX1_passHours 17 = .ok (.iload_n 1, 1) := by decide +kernel
theorem dX1_passHours_18 : decode cX1_passHours 18 = .ok (.iadd, 1) := by decide +kernel
theorem dX1_passHours_19 : decode cX1_passHours 19 = .ok (.sipush 9999, 3) := by decide +kernel
theorem dX1_passHours_22 : decode cX1_passHours 22 = .ok (.if_icmp .le 6, 3) := by decide +kernel
theorem dX1_passHours_25 : decode cX1_passHours 25 = .ok (.bipush (-5), 2) := by decide +kernel
theorem dX1_passHours_27 : decode cX1_passHours 27 = .ok (.ireturn, 1) := by decide +kernel
theorem dX1_passHours_28 : decode cX1_passHours 28 = .ok (.iconst 0, 1) := by decide +kernel
theorem dX1_passHours_29 : decode cX1_passHours 29 = .ok (.istore_n 2, 1) := by decide +kernel
theorem dX1_passHours_30 : decode cX1_passHours 30 = .ok (.iconst 0, 1) := by decide +kernel
theorem dX1_passHours_31 : decode cX1_passHours 31 = .ok (.istore_n 3, 1) := by decide +kernel
theorem dX1_passHours_32 : decode cX1_passHours 32 = .ok (.iload_n 3, 1) := by decide +kernel
theorem dX1_passHours_33 : decode cX1_passHours 33 = .ok (.iload_n 1, 1) := by decide +kernel
theorem dX1_passHours_34 : decode cX1_passHours 34 = .ok (.if_icmp .ge 16, 3) := by decide +kernel
theorem dX1_passHours_37 : decode cX1_passHours 37 = .ok (.iload_n 2, 1) := by decide +kernel
theorem dX1_passHours_38 : decode cX1_passHours 38 = .ok (.aload_n 0, 1) := by decide +kernel
theorem dX1_passHours_39 : decode cX1_passHours 39 = .ok (.invokevirtual 93, 3) := by decide +kernel
theorem dX1_passHours_42 : decode cX1_passHours 42 = .ok (.iadd, 1) := by decide +kernel
theorem dX1_passHours_43 : decode cX1_passHours 43 = .ok (.istore_n 2, 1) := by decide +kernel
theorem dX1_passHours_44 : decode cX1_passHours 44 = .ok (.iinc 3 1, 3) := by decide +kernel
theorem dX1_passHours_47 : decode cX1_passHours 47 = .ok (.goto (-15), 3) := by decide +kernel
theorem dX1_passHours_50 : decode cX1_passHours 50 = .ok (.iload_n 2, 1) := by decide +kernel
theorem dX1_passHours_51 : decode cX1_passHours 51 = .ok (.ireturn, 1) := by decide +kernel
theorem dX1_loadOf_0 : decode cX1_loadOf 0 = .ok (.iload_n 1, 1) := by decide +kernel
theorem dX1_loadOf_1 : decode cX1_loadOf 1 = .ok (.ifCond .lt 12, 3) := by decide +kernel
theorem dX1_loadOf_4 : decode cX1_loadOf 4 = .ok (.iload_n 1, 1) := by decide +kernel
theorem dX1_loadOf_5 : decode cX1_loadOf 5 = .ok (.aload_n 0, 1) := by decide +kernel
theorem dX1_loadOf_6 : decode cX1_loadOf 6 = .ok (.getfield 23, 3) := by decide +kernel
theorem dX1_loadOf_9 : decode cX1_loadOf 9 = .ok (.arraylength, 1) := by decide +kernel
theorem dX1_loadOf_10 : decode cX1_loadOf 10 = .ok (.if_icmp .lt 7, 3) := by decide +kernel
theorem dX1_loadOf_13 : decode cX1_loadOf 13 = .ok (.iconst (-1), 1) := by decide +kernel
theorem dX1_loadOf_14 : decode cX1_loadOf 14 = .ok (.goto 9, 3) := by decide +kernel
theorem dX1_loadOf_17 : decode cX1_loadOf 17 = .ok (.aload_n 0, 1) := by decide +kernel
theorem dX1_loadOf_18 : decode cX1_loadOf 18 = .ok (.getfield 23, 3) := by decide +kernel
theorem dX1_loadOf_21 : decode cX1_loadOf 21 = .ok (.iload_n 1, 1) := by decide +kernel
theorem dX1_loadOf_22 : decode cX1_loadOf 22 = .ok (.iaload, 1) := by decide +kernel
theorem dX1_loadOf_23 : decode cX1_loadOf 23 = .ok (.ireturn, 1) := by decide +kernel
set_option maxRecDepth 20000 in
theorem ggX1_number_X6_countIn : GoodIn wsX1_number wsX6_countIn := goodIn_r _ [11, 12, 13, 40, 41, 42, 43, 44, 45, 46, 47, 48, 49, 50] (by decide +kernel) (by decide +kernel)
set_option maxRecDepth 20000 in
theorem gX1_number_X6_countIn : GoodIn wsX1_number (wsV RX1 97 RX6 yX6_countIn wsX6_countIn) := goodIn_app (goodIn_of _ (by decide +kernel)) ggX1_number_X6_countIn
set_option maxRecDepth 20000 in
theorem ggX1_number_X6_metersAtDock : GoodIn wsX1_number wsX6_metersAtDock := goodIn_r _ [17, 12, 13, 18, 40, 41, 42, 43, 44, 45, 46, 47, 48, 49, 50] (by decide +kernel) (by decide +kernel)
set_option maxRecDepth 20000 in
theorem gX1_number_X6_metersAtDock : GoodIn wsX1_number (wsV RX1 101 RX6 yX6_metersAtDock wsX6_metersAtDock) := goodIn_app (goodIn_of _ (by decide +kernel)) ggX1_number_X6_metersAtDock
set_option maxRecDepth 20000 in
theorem ggX1_number_X0_costs : GoodIn wsX1_number wsX0_costs := goodIn_r _ [23, 24, 25, 26, 51, 52, 53, 54, 55, 56, 57] (by decide +kernel) (by decide +kernel)
set_option maxRecDepth 20000 in
theorem gX1_number_X0_costs : GoodIn wsX1_number (wsV RX1 104 RX0 yX0_costs wsX0_costs) := goodIn_app (goodIn_of _ (by decide +kernel)) ggX1_number_X0_costs
set_option maxRecDepth 20000 in
theorem ggX1_number_X6_builtWithoutPower : GoodIn wsX1_number wsX6_builtWithoutPower := goodIn_r _ [30, 12, 13, 31, 32, 40, 41, 42, 43, 44, 45, 46, 47, 48, 49, 50] (by decide +kernel) (by decide +kernel)
set_option maxRecDepth 20000 in
theorem gX1_number_X6_builtWithoutPower : GoodIn wsX1_number (wsV RX1 107 RX6 yX6_builtWithoutPower wsX6_builtWithoutPower) := goodIn_app (goodIn_of _ (by decide +kernel)) ggX1_number_X6_builtWithoutPower
theorem dX1_number_0 : decode cX1_number 0 = .ok (.iload_n 1, 1) := by decide +kernel
theorem dX1_number_1 : decode cX1_number 1 = .ok (.tableswitch 235 0 17 #[87, 92, 100, 108, 117, 126, 135, 144, 153, 162, 172, 180, 193, 198, 206, 214, 221, 228], 87) := by decide +kernel
theorem dX1_number_88 : decode cX1_number 88 = .ok (.aload_n 0, 1) := by decide +kernel
theorem dX1_number_89 : decode cX1_number 89 = .ok (.getfield 51, 3) := by decide +kernel
theorem dX1_number_92 : decode cX1_number 92 = .ok (.ireturn, 1) := by decide +kernel
theorem dX1_number_93 : decode cX1_number 93 = .ok (.aload_n 0, 1) := by decide +kernel
theorem dX1_number_94 : decode cX1_number 94 = .ok (.getfield 29, 3) := by decide +kernel
theorem dX1_number_97 : decode cX1_number 97 = .ok (.getfield 73, 3) := by decide +kernel
theorem dX1_number_100 : decode cX1_number 100 = .ok (.ireturn, 1) := by decide +kernel
theorem dX1_number_101 : decode cX1_number 101 = .ok (.aload_n 0, 1) := by decide +kernel
theorem dX1_number_102 : decode cX1_number 102 = .ok (.getfield 36, 3) := by decide +kernel
theorem dX1_number_105 : decode cX1_number 105 = .ok (.getfield 96, 3) := by decide +kernel
theorem dX1_number_108 : decode cX1_number 108 = .ok (.ireturn, 1) := by decide +kernel
theorem dX1_number_109 : decode cX1_number 109 = .ok (.aload_n 0, 1) := by decide +kernel
theorem dX1_number_110 : decode cX1_number 110 = .ok (.getfield 29, 3) := by decide +kernel
theorem dX1_number_113 : decode cX1_number 113 = .ok (.iconst 0, 1) := by decide +kernel
theorem dX1_number_114 : decode cX1_number 114 = .ok (.invokevirtual 97, 3) := by decide +kernel
theorem dX1_number_117 : decode cX1_number 117 = .ok (.ireturn, 1) := by decide +kernel
theorem dX1_number_118 : decode cX1_number 118 = .ok (.aload_n 0, 1) := by decide +kernel
theorem dX1_number_119 : decode cX1_number 119 = .ok (.getfield 29, 3) := by decide +kernel
theorem dX1_number_122 : decode cX1_number 122 = .ok (.iconst 1, 1) := by decide +kernel
theorem dX1_number_123 : decode cX1_number 123 = .ok (.invokevirtual 97, 3) := by decide +kernel
theorem dX1_number_126 : decode cX1_number 126 = .ok (.ireturn, 1) := by decide +kernel
theorem dX1_number_127 : decode cX1_number 127 = .ok (.aload_n 0, 1) := by decide +kernel
theorem dX1_number_128 : decode cX1_number 128 = .ok (.getfield 29, 3) := by decide +kernel
theorem dX1_number_131 : decode cX1_number 131 = .ok (.iconst 2, 1) := by decide +kernel
theorem dX1_number_132 : decode cX1_number 132 = .ok (.invokevirtual 97, 3) := by decide +kernel
theorem dX1_number_135 : decode cX1_number 135 = .ok (.ireturn, 1) := by decide +kernel
theorem dX1_number_136 : decode cX1_number 136 = .ok (.aload_n 0, 1) := by decide +kernel
theorem dX1_number_137 : decode cX1_number 137 = .ok (.getfield 29, 3) := by decide +kernel
theorem dX1_number_140 : decode cX1_number 140 = .ok (.iconst 3, 1) := by decide +kernel
theorem dX1_number_141 : decode cX1_number 141 = .ok (.invokevirtual 97, 3) := by decide +kernel
theorem dX1_number_144 : decode cX1_number 144 = .ok (.ireturn, 1) := by decide +kernel
theorem dX1_number_145 : decode cX1_number 145 = .ok (.aload_n 0, 1) := by decide +kernel
theorem dX1_number_146 : decode cX1_number 146 = .ok (.getfield 29, 3) := by decide +kernel
theorem dX1_number_149 : decode cX1_number 149 = .ok (.iconst 4, 1) := by decide +kernel
theorem dX1_number_150 : decode cX1_number 150 = .ok (.invokevirtual 97, 3) := by decide +kernel
theorem dX1_number_153 : decode cX1_number 153 = .ok (.ireturn, 1) := by decide +kernel
theorem dX1_number_154 : decode cX1_number 154 = .ok (.aload_n 0, 1) := by decide +kernel
theorem dX1_number_155 : decode cX1_number 155 = .ok (.getfield 29, 3) := by decide +kernel
theorem dX1_number_158 : decode cX1_number 158 = .ok (.iconst 5, 1) := by decide +kernel
theorem dX1_number_159 : decode cX1_number 159 = .ok (.invokevirtual 97, 3) := by decide +kernel
theorem dX1_number_162 : decode cX1_number 162 = .ok (.ireturn, 1) := by decide +kernel
theorem dX1_number_163 : decode cX1_number 163 = .ok (.aload_n 0, 1) := by decide +kernel
theorem dX1_number_164 : decode cX1_number 164 = .ok (.getfield 29, 3) := by decide +kernel
theorem dX1_number_167 : decode cX1_number 167 = .ok (.bipush 6, 2) := by decide +kernel
theorem dX1_number_169 : decode cX1_number 169 = .ok (.invokevirtual 97, 3) := by decide +kernel
theorem dX1_number_172 : decode cX1_number 172 = .ok (.ireturn, 1) := by decide +kernel
theorem dX1_number_173 : decode cX1_number 173 = .ok (.aload_n 0, 1) := by decide +kernel
theorem dX1_number_174 : decode cX1_number 174 = .ok (.getfield 29, 3) := by decide +kernel
theorem dX1_number_177 : decode cX1_number 177 = .ok (.invokevirtual 101, 3) := by decide +kernel
theorem dX1_number_180 : decode cX1_number 180 = .ok (.ireturn, 1) := by decide +kernel
theorem dX1_number_181 : decode cX1_number 181 = .ok (.aload_n 0, 1) := by decide +kernel
theorem dX1_number_182 : decode cX1_number 182 = .ok (.getfield 55, 3) := by decide +kernel
theorem dX1_number_185 : decode cX1_number 185 = .ok (.ifCond .eq 7, 3) := by decide +kernel
theorem dX1_number_188 : decode cX1_number 188 = .ok (.iconst 1, 1) := by decide +kernel
theorem dX1_number_189 : decode cX1_number 189 = .ok (.goto 4, 3) := by decide +kernel
theorem dX1_number_192 : decode cX1_number 192 = .ok (.iconst 0, 1) := by decide +kernel
theorem dX1_number_193 : decode cX1_number 193 = .ok (.ireturn, 1) := by decide +kernel
theorem dX1_number_194 : decode cX1_number 194 = .ok (.aload_n 0, 1) := by decide +kernel
theorem dX1_number_195 : decode cX1_number 195 = .ok (.getfield 59, 3) := by decide +kernel
theorem dX1_number_198 : decode cX1_number 198 = .ok (.ireturn, 1) := by decide +kernel
theorem dX1_number_199 : decode cX1_number 199 = .ok (.aload_n 0, 1) := by decide +kernel
theorem dX1_number_200 : decode cX1_number 200 = .ok (.getfield 36, 3) := by decide +kernel
theorem dX1_number_203 : decode cX1_number 203 = .ok (.invokevirtual 104, 3) := by decide +kernel
theorem dX1_number_206 : decode cX1_number 206 = .ok (.ireturn, 1) := by decide +kernel
theorem dX1_number_207 : decode cX1_number 207 = .ok (.aload_n 0, 1) := by decide +kernel
theorem dX1_number_208 : decode cX1_number 208 = .ok (.getfield 29, 3) := by decide +kernel
theorem dX1_number_211 : decode cX1_number 211 = .ok (.invokevirtual 107, 3) := by decide +kernel
theorem dX1_number_214 : decode cX1_number 214 = .ok (.ireturn, 1) := by decide +kernel
theorem dX1_number_215 : decode cX1_number 215 = .ok (.aload_n 0, 1) := by decide +kernel
theorem dX1_number_216 : decode cX1_number 216 = .ok (.getfield 18, 3) := by decide +kernel
theorem dX1_number_219 : decode cX1_number 219 = .ok (.iconst 0, 1) := by decide +kernel
theorem dX1_number_220 : decode cX1_number 220 = .ok (.iaload, 1) := by decide +kernel
theorem dX1_number_221 : decode cX1_number 221 = .ok (.ireturn, 1) := by decide +kernel
theorem dX1_number_222 : decode cX1_number 222 = .ok (.aload_n 0, 1) := by decide +kernel
theorem dX1_number_223 : decode cX1_number 223 = .ok (.getfield 18, 3) := by decide +kernel
theorem dX1_number_226 : decode cX1_number 226 = .ok (.iconst 1, 1) := by decide +kernel
theorem dX1_number_227 : decode cX1_number 227 = .ok (.iaload, 1) := by decide +kernel
theorem dX1_number_228 : decode cX1_number 228 = .ok (.ireturn, 1) := by decide +kernel
theorem dX1_number_229 : decode cX1_number 229 = .ok (.aload_n 0, 1) := by decide +kernel
theorem dX1_number_230 : decode cX1_number 230 = .ok (.getfield 18, 3) := by decide +kernel
theorem dX1_number_233 : decode cX1_number 233 = .ok (.iconst 2, 1) := by decide +kernel
theorem dX1_number_234 : decode cX1_number 234 = .ok (.iaload, 1) := by decide +kernel
theorem dX1_number_235 : decode cX1_number 235 = .ok (.ireturn, 1) := by decide +kernel
theorem dX1_number_236 : decode cX1_number 236 = .ok (.bipush (-2), 2) := by decide +kernel
theorem dX1_number_238 : decode cX1_number 238 = .ok (.ireturn, 1) := by decide +kernel
set_option maxRecDepth 20000 in
theorem ggX1_reasonToWait_X6_has : GoodIn wsX1_reasonToWait wsX6_has := goodIn_r _ [7, 8, 27, 28, 29, 30, 31, 32, 33, 34, 35, 36, 37] (by decide +kernel) (by decide +kernel)
set_option maxRecDepth 20000 in
theorem gX1_reasonToWait_X6_has : GoodIn wsX1_reasonToWait (wsV RX1 69 RX6 yX6_has wsX6_has) := goodIn_app (goodIn_of _ (by decide +kernel)) ggX1_reasonToWait_X6_has
set_option maxRecDepth 20000 in
theorem ggX1_reasonToWait_X6_baseIsBuilt : GoodIn wsX1_reasonToWait wsX6_baseIsBuilt := goodIn_r _ [12, 13, 14, 15, 4, 5, 6, 7, 8, 27, 28, 29, 30, 31, 32, 33, 34, 35, 36, 37] (by decide +kernel) (by decide +kernel)
set_option maxRecDepth 20000 in
theorem gX1_reasonToWait_X6_baseIsBuilt : GoodIn wsX1_reasonToWait (wsV RX1 113 RX6 yX6_baseIsBuilt wsX6_baseIsBuilt) := goodIn_app (goodIn_of _ (by decide +kernel)) ggX1_reasonToWait_X6_baseIsBuilt
set_option maxRecDepth 20000 in
theorem ggX1_reasonToWait_X6_standingOn : GoodIn wsX1_reasonToWait wsX6_standingOn := goodIn_r _ [19, 8, 13, 14, 27, 28, 29, 30, 31, 32, 33, 34, 35, 36, 37] (by decide +kernel) (by decide +kernel)
set_option maxRecDepth 20000 in
theorem gX1_reasonToWait_X6_standingOn : GoodIn wsX1_reasonToWait (wsV RX1 116 RX6 yX6_standingOn wsX6_standingOn) := goodIn_app (goodIn_of _ (by decide +kernel)) ggX1_reasonToWait_X6_standingOn
theorem dX1_reasonToWait_0 : decode cX1_reasonToWait 0 = .ok (.aload_n 0, 1) := by decide +kernel
theorem dX1_reasonToWait_1 : decode cX1_reasonToWait 1 = .ok (.getfield 29, 3) := by decide +kernel
theorem dX1_reasonToWait_4 : decode cX1_reasonToWait 4 = .ok (.iload_n 1, 1) := by decide +kernel
theorem dX1_reasonToWait_5 : decode cX1_reasonToWait 5 = .ok (.invokevirtual 69, 3) := by decide +kernel
theorem dX1_reasonToWait_8 : decode cX1_reasonToWait 8 = .ok (.ifCond .ne 5, 3) := by decide +kernel
theorem dX1_reasonToWait_11 : decode cX1_reasonToWait 11 = .ok (.iconst (-1), 1) := by decide +kernel
theorem dX1_reasonToWait_12 : decode cX1_reasonToWait 12 = .ok (.ireturn, 1) := by decide +kernel
theorem dX1_reasonToWait_13 : decode cX1_reasonToWait 13 = .ok (.aload_n 0, 1) := by decide +kernel
theorem dX1_reasonToWait_14 : decode cX1_reasonToWait 14 = .ok (.getfield 29, 3) := by decide +kernel
theorem dX1_reasonToWait_17 : decode cX1_reasonToWait 17 = .ok (.getfield 110, 3) := by decide +kernel
theorem dX1_reasonToWait_20 : decode cX1_reasonToWait 20 = .ok (.iload_n 1, 1) := by decide +kernel
theorem dX1_reasonToWait_21 : decode cX1_reasonToWait 21 = .ok (.iaload, 1) := by decide +kernel
theorem dX1_reasonToWait_22 : decode cX1_reasonToWait 22 = .ok (.tableswitch 81 0 4 #[34, 36, 38, 81, 55], 34) := by decide +kernel
theorem dX1_reasonToWait_56 : decode cX1_reasonToWait 56 = .ok (.iconst 1, 1) := by decide +kernel
theorem dX1_reasonToWait_57 : decode cX1_reasonToWait 57 = .ok (.ireturn, 1) := by decide +kernel
theorem dX1_reasonToWait_58 : decode cX1_reasonToWait 58 = .ok (.iconst 2, 1) := by decide +kernel
theorem dX1_reasonToWait_59 : decode cX1_reasonToWait 59 = .ok (.ireturn, 1) := by decide +kernel
theorem dX1_reasonToWait_60 : decode cX1_reasonToWait 60 = .ok (.aload_n 0, 1) := by decide +kernel
theorem dX1_reasonToWait_61 : decode cX1_reasonToWait 61 = .ok (.getfield 29, 3) := by decide +kernel
theorem dX1_reasonToWait_64 : decode cX1_reasonToWait 64 = .ok (.iload_n 1, 1) := by decide +kernel
theorem dX1_reasonToWait_65 : decode cX1_reasonToWait 65 = .ok (.invokevirtual 113, 3) := by decide +kernel
theorem dX1_reasonToWait_68 : decode cX1_reasonToWait 68 = .ok (.ifCond .eq 7, 3) := by decide +kernel
theorem dX1_reasonToWait_71 : decode cX1_reasonToWait 71 = .ok (.iconst 4, 1) := by decide +kernel
theorem dX1_reasonToWait_72 : decode cX1_reasonToWait 72 = .ok (.goto 4, 3) := by decide +kernel
theorem dX1_reasonToWait_75 : decode cX1_reasonToWait 75 = .ok (.iconst 3, 1) := by decide +kernel
theorem dX1_reasonToWait_76 : decode cX1_reasonToWait 76 = .ok (.ireturn, 1) := by decide +kernel
theorem dX1_reasonToWait_77 : decode cX1_reasonToWait 77 = .ok (.aload_n 0, 1) := by decide +kernel
theorem dX1_reasonToWait_78 : decode cX1_reasonToWait 78 = .ok (.getfield 55, 3) := by decide +kernel
theorem dX1_reasonToWait_81 : decode cX1_reasonToWait 81 = .ok (.ifCond .ne 5, 3) := by decide +kernel
theorem dX1_reasonToWait_84 : decode cX1_reasonToWait 84 = .ok (.iconst 0, 1) := by decide +kernel
theorem dX1_reasonToWait_85 : decode cX1_reasonToWait 85 = .ok (.ireturn, 1) := by decide +kernel
theorem dX1_reasonToWait_86 : decode cX1_reasonToWait 86 = .ok (.aload_n 0, 1) := by decide +kernel
theorem dX1_reasonToWait_87 : decode cX1_reasonToWait 87 = .ok (.getfield 29, 3) := by decide +kernel
theorem dX1_reasonToWait_90 : decode cX1_reasonToWait 90 = .ok (.iload_n 1, 1) := by decide +kernel
theorem dX1_reasonToWait_91 : decode cX1_reasonToWait 91 = .ok (.invokevirtual 116, 3) := by decide +kernel
theorem dX1_reasonToWait_94 : decode cX1_reasonToWait 94 = .ok (.ifCond .ne 7, 3) := by decide +kernel
theorem dX1_reasonToWait_97 : decode cX1_reasonToWait 97 = .ok (.iconst 4, 1) := by decide +kernel
theorem dX1_reasonToWait_98 : decode cX1_reasonToWait 98 = .ok (.goto 4, 3) := by decide +kernel
theorem dX1_reasonToWait_101 : decode cX1_reasonToWait 101 = .ok (.iconst 5, 1) := by decide +kernel
theorem dX1_reasonToWait_102 : decode cX1_reasonToWait 102 = .ok (.ireturn, 1) := by decide +kernel
theorem dX1_reasonToWait_103 : decode cX1_reasonToWait 103 = .ok (.iconst 0, 1) := by decide +kernel
theorem dX1_reasonToWait_104 : decode cX1_reasonToWait 104 = .ok (.ireturn, 1) := by decide +kernel
set_option maxRecDepth 20000 in
theorem ggX1_hoursUntilAllIn_X1_allAreIn : GoodIn wsX1_hoursUntilAllIn wsX1_allAreIn := goodIn_r _ [10, 11, 12, 13, 14, 15, 16, 17, 18, 19, 98, 99, 100, 101, 102, 103, 104, 105, 106, 107, 108, 109, 110, 111, 112, 113, 114, 115] (by decide +kernel) (by decide +kernel)
set_option maxRecDepth 20000 in
theorem gX1_hoursUntilAllIn_X1_allAreIn : GoodIn wsX1_hoursUntilAllIn (wsV RX1 119 RX1 yX1_allAreIn wsX1_allAreIn) := goodIn_app (goodIn_of _ (by decide +kernel)) ggX1_hoursUntilAllIn_X1_allAreIn
set_option maxRecDepth 20000 in
theorem ggX1_hoursUntilAllIn_X1_passOneHour : GoodIn wsX1_hoursUntilAllIn wsX1_passOneHour := goodIn_r _ [23, 1, 24, 25, 26, 9, 27, 11, 28, 29, 30, 31, 32, 33, 34, 35, 16, 36, 18, 19, 37, 38, 39, 40, 41, 42, 12, 43, 44, 45, 46, 47, 48, 49, 50, 51, 52, 53, 54, 55, 56, 57, 58, 59, 60, 61, 62, 63, 64, 65, 66, 67, 68, 69, 70, 71, 72, 73, 74, 75, 76, 77, 78, 79, 4, 80, 81, 82, 83, 84, 85, 86, 87, 88, 89, 98, 99, 100, 101, 102, 103, 104, 105, 106, 107, 108, 109, 110, 111, 112, 113, 114, 115, 116, 117, 118, 119, 120, 121, 122] (by decide +kernel) (by decide +kernel)
set_option maxRecDepth 20000 in
theorem gX1_hoursUntilAllIn_X1_passOneHour : GoodIn wsX1_hoursUntilAllIn (wsV RX1 93 RX1 yX1_passOneHour wsX1_passOneHour) := goodIn_app (goodIn_of _ (by decide +kernel)) ggX1_hoursUntilAllIn_X1_passOneHour
set_option maxRecDepth 20000 in
theorem ggX1_hoursUntilAllIn_X1_quietHours : GoodIn wsX1_hoursUntilAllIn wsX1_quietHours := goodIn_r _ [93, 11, 1, 2, 3, 4, 5, 42, 64, 61, 62, 16, 63, 18, 98, 99, 100, 101, 102, 103, 104, 105, 106, 107, 108, 109, 110, 111, 112, 113, 114, 115, 116, 117, 118, 119, 120, 121, 122] (by decide +kernel) (by decide +kernel)
set_option maxRecDepth 20000 in
theorem gX1_hoursUntilAllIn_X1_quietHours : GoodIn wsX1_hoursUntilAllIn (wsV RX1 123 RX1 yX1_quietHours wsX1_quietHours) := goodIn_app (goodIn_of _ (by decide +kernel)) ggX1_hoursUntilAllIn_X1_quietHours
set_option maxRecDepth 20000 in
theorem ggX1_hoursUntilAllIn_X1_passQuietHours : GoodIn wsX1_hoursUntilAllIn wsX1_passQuietHours := goodIn_r _ [97, 1, 74, 75, 76, 9, 77, 42, 11, 78, 79, 4, 80, 64, 61, 62, 16, 63, 18, 81, 82, 83, 84, 85, 86, 87, 88, 89, 73, 32, 98, 99, 100, 101, 102, 103, 104, 116, 117, 118, 119, 120, 121, 122, 105, 106, 107, 108, 109, 110, 111, 112, 113, 114, 115] (by decide +kernel) (by decide +kernel)
set_option maxRecDepth 20000 in
theorem gX1_hoursUntilAllIn_X1_passQuietHours : GoodIn wsX1_hoursUntilAllIn (wsV RX1 131 RX1 yX1_passQuietHours wsX1_passQuietHours) := goodIn_app (goodIn_of _ (by decide +kernel)) ggX1_hoursUntilAllIn_X1_passQuietHours
theorem dX1_hoursUntilAllIn_0 : decode cX1_hoursUntilAllIn 0 = .ok (.aload_n 0, 1) := by decide +kernel
theorem dX1_hoursUntilAllIn_1 : decode cX1_hoursUntilAllIn 1 = .ok (.getfield 51, 3) := by decide +kernel
theorem dX1_hoursUntilAllIn_4 : decode cX1_hoursUntilAllIn 4 = .ok (.istore_n 2, 1) := by decide +kernel
theorem dX1_hoursUntilAllIn_5 : decode cX1_hoursUntilAllIn 5 = .ok (.iconst 0, 1) := by decide +kernel
theorem dX1_hoursUntilAllIn_6 : decode cX1_hoursUntilAllIn 6 = .ok (.istore_n 3, 1) := by decide +kernel
theorem dX1_hoursUntilAllIn_7 : decode cX1_hoursUntilAllIn 7 = .ok (.iload_n 3, 1) := by decide +kernel
theorem dX1_hoursUntilAllIn_8 : decode cX1_hoursUntilAllIn 8 = .ok (.iload_n 1, 1) := by decide +kernel
theorem dX1_hoursUntilAllIn_9 : decode cX1_hoursUntilAllIn 9 = .ok (.if_icmp .ge 68, 3) := by decide +kernel
theorem dX1_hoursUntilAllIn_12 : decode cX1_hoursUntilAllIn 12 = .ok (.aload_n 0, 1) := by decide +kernel
theorem dX1_hoursUntilAllIn_13 : decode cX1_hoursUntilAllIn 13 = .ok (.invokevirtual 119, 3) := by decide +kernel
theorem dX1_hoursUntilAllIn_16 : decode cX1_hoursUntilAllIn 16 = .ok (.ifCond .ne 61, 3) := by decide +kernel
theorem dX1_hoursUntilAllIn_19 : decode cX1_hoursUntilAllIn 19 = .ok (.iload_n 2, 1) := by decide +kernel
theorem dX1_hoursUntilAllIn_20 : decode cX1_hoursUntilAllIn 20 = .ok (.iload_n 1, 1) := by decide +kernel
theorem dX1_hoursUntilAllIn_21 : decode cX1_hoursUntilAllIn 21 = .ok (.iadd, 1) := by decide +kernel
theorem dX1_hoursUntilAllIn_22 : decode cX1_hoursUntilAllIn 22 = .ok (.aload_n 0, 1) := by decide +kernel
theorem dX1_hoursUntilAllIn_23 : decode cX1_hoursUntilAllIn 23 = .ok (.getfield 51, 3) := by decide +kernel
theorem dX1_hoursUntilAllIn_26 : decode cX1_hoursUntilAllIn 26 = .ok (.isub, 1) := by decide +kernel
theorem dX1_hoursUntilAllIn_27 : decode cX1_hoursUntilAllIn 27 = .ok (.istore 4, 2) := by decide +kernel
theorem dX1_hoursUntilAllIn_29 : decode cX1_hoursUntilAllIn 29 = .ok (.iload 4, 2) := by decide +kernel
theorem dX1_hoursUntilAllIn_31 : decode cX1_hoursUntilAllIn 31 = .ok (.ifCond .gt 6, 3) := by decide +kernel
theorem dX1_hoursUntilAllIn_34 : decode cX1_hoursUntilAllIn 34 = .ok (.bipush (-6), 2) := by decide +kernel
theorem dX1_hoursUntilAllIn_36 : decode cX1_hoursUntilAllIn 36 = .ok (.ireturn, 1) := by decide +kernel
theorem dX1_hoursUntilAllIn_37 : decode cX1_hoursUntilAllIn 37 = .ok (.aload_n 0, 1) := by decide +kernel
theorem dX1_hoursUntilAllIn_38 : decode cX1_hoursUntilAllIn 38 = .ok (.invokevirtual 93, 3) := by decide +kernel
theorem dX1_hoursUntilAllIn_41 : decode cX1_hoursUntilAllIn 41 = .ok (.ifCond .ne 7, 3) := by decide +kernel
theorem dX1_hoursUntilAllIn_44 : decode cX1_hoursUntilAllIn 44 = .ok (.iconst 1, 1) := by decide +kernel
theorem dX1_hoursUntilAllIn_45 : decode cX1_hoursUntilAllIn 45 = .ok (.goto 4, 3) := by decide +kernel
theorem dX1_hoursUntilAllIn_48 : decode cX1_hoursUntilAllIn 48 = .ok (.iconst 0, 1) := by decide +kernel
theorem dX1_hoursUntilAllIn_49 : decode cX1_hoursUntilAllIn 49 = .ok (.istore 5, 2) := by decide +kernel
theorem dX1_hoursUntilAllIn_51 : decode cX1_hoursUntilAllIn 51 = .ok (.iload 5, 2) := by decide +kernel
theorem dX1_hoursUntilAllIn_53 : decode cX1_hoursUntilAllIn 53 = .ok (.ifCond .eq 18, 3) := by decide +kernel
theorem dX1_hoursUntilAllIn_56 : decode cX1_hoursUntilAllIn 56 = .ok (.aload_n 0, 1) := by decide +kernel
theorem dX1_hoursUntilAllIn_57 : decode cX1_hoursUntilAllIn 57 = .ok (.aload_n 0, 1) := by decide +kernel
theorem dX1_hoursUntilAllIn_58 : decode cX1_hoursUntilAllIn 58 = .ok (.invokevirtual 123, 3) := by decide +kernel
theorem dX1_hoursUntilAllIn_61 : decode cX1_hoursUntilAllIn 61 = .ok (.iload 4, 2) := by decide +kernel
theorem dX1_hoursUntilAllIn_63 : decode cX1_hoursUntilAllIn 63 = .ok (.iconst 1, 1) := by decide +kernel
theorem dX1_hoursUntilAllIn_64 : decode cX1_hoursUntilAllIn 64 = .ok (.isub, 1) := by decide +kernel
theorem dX1_hoursUntilAllIn_65 : decode cX1_hoursUntilAllIn 65 = .ok (.invokestatic 126, 3) := by decide +kernel
theorem dX1_hoursUntilAllIn_68 : decode cX1_hoursUntilAllIn 68 = .ok (.invokevirtual 131, 3) := by decide +kernel
theorem dX1_hoursUntilAllIn_71 : decode cX1_hoursUntilAllIn 71 = .ok (.iinc 3 1, 3) := by decide +kernel
theorem dX1_hoursUntilAllIn_74 : decode cX1_hoursUntilAllIn 74 = .ok (.goto (-67), 3) := by decide +kernel
theorem dX1_hoursUntilAllIn_77 : decode cX1_hoursUntilAllIn 77 = .ok (.aload_n 0, 1) := by decide +kernel
theorem dX1_hoursUntilAllIn_78 : decode cX1_hoursUntilAllIn 78 = .ok (.invokevirtual 119, 3) := by decide +kernel
theorem dX1_hoursUntilAllIn_81 : decode cX1_hoursUntilAllIn 81 = .ok (.ifCond .eq 12, 3) := by decide +kernel
theorem dX1_hoursUntilAllIn_84 : decode cX1_hoursUntilAllIn 84 = .ok (.aload_n 0, 1) := by decide +kernel
theorem dX1_hoursUntilAllIn_85 : decode cX1_hoursUntilAllIn 85 = .ok (.getfield 51, 3) := by decide +kernel
theorem dX1_hoursUntilAllIn_88 : decode cX1_hoursUntilAllIn 88 = .ok (.iload_n 2, 1) := by decide +kernel
theorem dX1_hoursUntilAllIn_89 : decode cX1_hoursUntilAllIn 89 = .ok (.isub, 1) := by decide +kernel
theorem dX1_hoursUntilAllIn_90 : decode cX1_hoursUntilAllIn 90 = .ok (.goto 5, 3) := by decide +kernel
theorem dX1_hoursUntilAllIn_93 : decode cX1_hoursUntilAllIn 93 = .ok (.bipush (-6), 2) := by decide +kernel
theorem dX1_hoursUntilAllIn_95 : decode cX1_hoursUntilAllIn 95 = .ok (.ireturn, 1) := by decide +kernel
set_option maxRecDepth 20000 in
theorem ggX1_allAreIn_X6_countIn : GoodIn wsX1_allAreIn wsX6_countIn := goodIn_r _ [7, 8, 9, 17, 18, 19, 20, 21, 22, 23, 24, 25, 26, 27] (by decide +kernel) (by decide +kernel)
set_option maxRecDepth 20000 in
theorem gX1_allAreIn_X6_countIn : GoodIn wsX1_allAreIn (wsV RX1 97 RX6 yX6_countIn wsX6_countIn) := goodIn_app (goodIn_of _ (by decide +kernel)) ggX1_allAreIn_X6_countIn
theorem dX1_allAreIn_0 : decode cX1_allAreIn 0 = .ok (.aload_n 0, 1) := by decide +kernel
theorem dX1_allAreIn_1 : decode cX1_allAreIn 1 = .ok (.getfield 29, 3) := by decide +kernel
theorem dX1_allAreIn_4 : decode cX1_allAreIn 4 = .ok (.bipush 6, 2) := by decide +kernel
theorem dX1_allAreIn_6 : decode cX1_allAreIn 6 = .ok (.invokevirtual 97, 3) := by decide +kernel
theorem dX1_allAreIn_9 : decode cX1_allAreIn 9 = .ok (.istore_n 1, 1) := by decide +kernel
theorem dX1_allAreIn_10 : decode cX1_allAreIn 10 = .ok (.aload_n 0, 1) := by decide +kernel
theorem dX1_allAreIn_11 : decode cX1_allAreIn 11 = .ok (.getfield 29, 3) := by decide +kernel
theorem dX1_allAreIn_14 : decode cX1_allAreIn 14 = .ok (.getfield 73, 3) := by decide +kernel
theorem dX1_allAreIn_17 : decode cX1_allAreIn 17 = .ok (.aload_n 0, 1) := by decide +kernel
theorem dX1_allAreIn_18 : decode cX1_allAreIn 18 = .ok (.getfield 55, 3) := by decide +kernel
theorem dX1_allAreIn_21 : decode cX1_allAreIn 21 = .ok (.ifCond .eq 7, 3) := by decide +kernel
theorem dX1_allAreIn_24 : decode cX1_allAreIn 24 = .ok (.iload_n 1, 1) := by decide +kernel
theorem dX1_allAreIn_25 : decode cX1_allAreIn 25 = .ok (.goto 13, 3) := by decide +kernel
theorem dX1_allAreIn_28 : decode cX1_allAreIn 28 = .ok (.iload_n 1, 1) := by decide +kernel
theorem dX1_allAreIn_29 : decode cX1_allAreIn 29 = .ok (.aload_n 0, 1) := by decide +kernel
theorem dX1_allAreIn_30 : decode cX1_allAreIn 30 = .ok (.getfield 29, 3) := by decide +kernel
theorem dX1_allAreIn_33 : decode cX1_allAreIn 33 = .ok (.iconst 4, 1) := by decide +kernel
theorem dX1_allAreIn_34 : decode cX1_allAreIn 34 = .ok (.invokevirtual 97, 3) := by decide +kernel
theorem dX1_allAreIn_37 : decode cX1_allAreIn 37 = .ok (.iadd, 1) := by decide +kernel
theorem dX1_allAreIn_38 : decode cX1_allAreIn 38 = .ok (.if_icmp .ne 7, 3) := by decide +kernel
theorem dX1_allAreIn_41 : decode cX1_allAreIn 41 = .ok (.iconst 1, 1) := by decide +kernel
theorem dX1_allAreIn_42 : decode cX1_allAreIn 42 = .ok (.goto 4, 3) := by decide +kernel
theorem dX1_allAreIn_45 : decode cX1_allAreIn 45 = .ok (.iconst 0, 1) := by decide +kernel
theorem dX1_allAreIn_46 : decode cX1_allAreIn 46 = .ok (.ireturn, 1) := by decide +kernel
set_option maxRecDepth 20000 in
theorem ggX1_passOneHour_X1_lorriesLeave : GoodIn wsX1_passOneHour wsX1_lorriesLeave := goodIn_r _ [6, 7, 1, 75, 76, 77, 78, 79, 80, 81, 82, 83, 84, 85, 86, 87, 88, 89, 90, 91, 92] (by decide +kernel) (by decide +kernel)
set_option maxRecDepth 20000 in
theorem gX1_passOneHour_X1_lorriesLeave : GoodIn wsX1_passOneHour (wsV RX1 135 RX1 yX1_lorriesLeave wsX1_lorriesLeave) := goodIn_app (goodIn_of _ (by decide +kernel)) ggX1_passOneHour_X1_lorriesLeave
set_option maxRecDepth 20000 in
theorem ggX1_passOneHour_X1_lorriesCome : GoodIn wsX1_passOneHour wsX1_lorriesCome := goodIn_r _ [11, 7, 12, 1, 13, 14, 15, 16, 17, 18, 19, 20, 75, 76, 77, 78, 79, 80, 81, 82, 83, 84, 85, 86, 87, 88, 89, 90, 91, 92] (by decide +kernel) (by decide +kernel)
set_option maxRecDepth 20000 in
theorem gX1_passOneHour_X1_lorriesCome : GoodIn wsX1_passOneHour (wsV RX1 138 RX1 yX1_lorriesCome wsX1_lorriesCome) := goodIn_app (goodIn_of _ (by decide +kernel)) ggX1_passOneHour_X1_lorriesCome
set_option maxRecDepth 20000 in
theorem ggX1_passOneHour_X1_crewsTakeStands : GoodIn wsX1_passOneHour wsX1_crewsTakeStands := goodIn_r _ [24, 25, 26, 7, 27, 28, 29, 16, 30, 18, 19, 31, 32, 33, 34, 35, 36, 37, 38, 39, 40, 41, 42, 43, 44, 45, 46, 47, 48, 49, 50, 51, 5, 52, 53, 54, 55, 56, 57, 75, 76, 77, 78, 79, 80, 81, 93, 94, 95, 96, 97, 98, 99, 82, 83, 84, 85, 86, 87, 88, 89, 90, 91, 92] (by decide +kernel) (by decide +kernel)
set_option maxRecDepth 20000 in
theorem gX1_passOneHour_X1_crewsTakeStands : GoodIn wsX1_passOneHour (wsV RX1 141 RX1 yX1_crewsTakeStands wsX1_crewsTakeStands) := goodIn_app (goodIn_of _ (by decide +kernel)) ggX1_passOneHour_X1_crewsTakeStands
set_option maxRecDepth 20000 in
theorem ggX1_passOneHour_X1_crewsWork : GoodIn wsX1_passOneHour wsX1_crewsWork := goodIn_r _ [61, 25, 7, 62, 63, 64, 65, 48, 45, 46, 16, 47, 18, 66, 67, 68, 5, 69, 1, 70, 71, 72, 73, 74, 57, 12, 75, 76, 77, 78, 79, 80, 81, 93, 94, 95, 96, 97, 98, 99, 82, 83, 84, 85, 86, 87, 88, 89, 90, 91, 92] (by decide +kernel) (by decide +kernel)
set_option maxRecDepth 20000 in
theorem gX1_passOneHour_X1_crewsWork : GoodIn wsX1_passOneHour (wsV RX1 144 RX1 yX1_crewsWork wsX1_crewsWork) := goodIn_app (goodIn_of _ (by decide +kernel)) ggX1_passOneHour_X1_crewsWork
theorem dX1_passOneHour_0 : decode cX1_passOneHour 0 = .ok (.aload_n 0, 1) := by decide +kernel
theorem dX1_passOneHour_1 : decode cX1_passOneHour 1 = .ok (.invokevirtual 135, 3) := by decide +kernel
theorem dX1_passOneHour_4 : decode cX1_passOneHour 4 = .ok (.aload_n 0, 1) := by decide +kernel
theorem dX1_passOneHour_5 : decode cX1_passOneHour 5 = .ok (.invokevirtual 138, 3) := by decide +kernel
theorem dX1_passOneHour_8 : decode cX1_passOneHour 8 = .ok (.aload_n 0, 1) := by decide +kernel
theorem dX1_passOneHour_9 : decode cX1_passOneHour 9 = .ok (.invokevirtual 141, 3) := by decide +kernel
theorem dX1_passOneHour_12 : decode cX1_passOneHour 12 = .ok (.aload_n 0, 1) := by decide +kernel
theorem dX1_passOneHour_13 : decode cX1_passOneHour 13 = .ok (.iconst 1, 1) := by decide +kernel
theorem dX1_passOneHour_14 : decode cX1_passOneHour 14 = .ok (.invokevirtual 144, 3) := by decide +kernel
theorem dX1_passOneHour_17 : decode cX1_passOneHour 17 = .ok (.istore_n 1, 1) := by decide +kernel
theorem dX1_passOneHour_18 : decode cX1_passOneHour 18 = .ok (.aload_n 0, 1) := by decide +kernel
theorem dX1_passOneHour_19 : decode cX1_passOneHour 19 = .ok (.dup, 1) := by decide +kernel
theorem dX1_passOneHour_20 : decode cX1_passOneHour 20 = .ok (.getfield 51, 3) := by decide +kernel
theorem dX1_passOneHour_23 : decode cX1_passOneHour 23 = .ok (.iconst 1, 1) := by decide +kernel
theorem dX1_passOneHour_24 : decode cX1_passOneHour 24 = .ok (.iadd, 1) := by decide +kernel
theorem dX1_passOneHour_25 : decode cX1_passOneHour 25 = .ok (.putfield 51, 3) := by decide +kernel
theorem dX1_passOneHour_28 : decode cX1_passOneHour 28 = .ok (.iload_n 1, 1) := by decide +kernel
theorem dX1_passOneHour_29 : decode cX1_passOneHour 29 = .ok (.ireturn, 1) := by decide +kernel
set_option maxRecDepth 20000 in
theorem ggX1_quietHours_X6_has : GoodIn wsX1_quietHours wsX6_has := goodIn_r _ [12, 13, 21, 22, 23, 24, 25, 26, 27, 28, 29, 30, 31] (by decide +kernel) (by decide +kernel)
set_option maxRecDepth 20000 in
theorem gX1_quietHours_X6_has : GoodIn wsX1_quietHours (wsV RX1 69 RX6 yX6_has wsX6_has) := goodIn_app (goodIn_of _ (by decide +kernel)) ggX1_quietHours_X6_has
theorem dX1_quietHours_0 : decode cX1_quietHours 0 = .ok (.sipush 1000, 3) := by decide +kernel
theorem dX1_quietHours_3 : decode cX1_quietHours 3 = .ok (.istore_n 1, 1) := by decide +kernel
theorem dX1_quietHours_4 : decode cX1_quietHours 4 = .ok (.iconst 0, 1) := by decide +kernel
theorem dX1_quietHours_5 : decode cX1_quietHours 5 = .ok (.istore_n 2, 1) := by decide +kernel
theorem dX1_quietHours_6 : decode cX1_quietHours 6 = .ok (.iload_n 2, 1) := by decide +kernel
theorem dX1_quietHours_7 : decode cX1_quietHours 7 = .ok (.aload_n 0, 1) := by decide +kernel
theorem dX1_quietHours_8 : decode cX1_quietHours 8 = .ok (.getfield 29, 3) := by decide +kernel
theorem dX1_quietHours_11 : decode cX1_quietHours 11 = .ok (.getfield 73, 3) := by decide +kernel
theorem dX1_quietHours_14 : decode cX1_quietHours 14 = .ok (.if_icmp .ge 41, 3) := by decide +kernel
theorem dX1_quietHours_17 : decode cX1_quietHours 17 = .ok (.aload_n 0, 1) := by decide +kernel
theorem dX1_quietHours_18 : decode cX1_quietHours 18 = .ok (.getfield 29, 3) := by decide +kernel
theorem dX1_quietHours_21 : decode cX1_quietHours 21 = .ok (.getfield 110, 3) := by decide +kernel
theorem dX1_quietHours_24 : decode cX1_quietHours 24 = .ok (.iload_n 2, 1) := by decide +kernel
theorem dX1_quietHours_25 : decode cX1_quietHours 25 = .ok (.iaload, 1) := by decide +kernel
theorem dX1_quietHours_26 : decode cX1_quietHours 26 = .ok (.iconst 1, 1) := by decide +kernel
theorem dX1_quietHours_27 : decode cX1_quietHours 27 = .ok (.if_icmp .ne 22, 3) := by decide +kernel
theorem dX1_quietHours_30 : decode cX1_quietHours 30 = .ok (.iload_n 1, 1) := by decide +kernel
theorem dX1_quietHours_31 : decode cX1_quietHours 31 = .ok (.aload_n 0, 1) := by decide +kernel
theorem dX1_quietHours_32 : decode cX1_quietHours 32 = .ok (.getfield 29, 3) := by decide +kernel
theorem dX1_quietHours_35 : decode cX1_quietHours 35 = .ok (.getfield 147, 3) := by decide +kernel
theorem dX1_quietHours_38 : decode cX1_quietHours 38 = .ok (.iload_n 2, 1) := by decide +kernel
theorem dX1_quietHours_39 : decode cX1_quietHours 39 = .ok (.iaload, 1) := by decide +kernel
theorem dX1_quietHours_40 : decode cX1_quietHours 40 = .ok (.aload_n 0, 1) := by decide +kernel
theorem dX1_quietHours_41 : decode cX1_quietHours 41 = .ok (.getfield 51, 3) := by decide +kernel
theorem dX1_quietHours_44 : decode cX1_quietHours 44 = .ok (.isub, 1) := by decide +kernel
theorem dX1_quietHours_45 : decode cX1_quietHours 45 = .ok (.invokestatic 126, 3) := by decide +kernel
theorem dX1_quietHours_48 : decode cX1_quietHours 48 = .ok (.istore_n 1, 1) := by decide +kernel
theorem dX1_quietHours_49 : decode cX1_quietHours 49 = .ok (.iinc 2 1, 3) := by decide +kernel
theorem dX1_quietHours_52 : decode cX1_quietHours 52 = .ok (.goto (-46), 3) := by decide +kernel
theorem dX1_quietHours_55 : decode cX1_quietHours 55 = .ok (.iconst 0, 1) := by decide +kernel
theorem dX1_quietHours_56 : decode cX1_quietHours 56 = .ok (.istore_n 2, 1) := by decide +kernel
theorem dX1_quietHours_57 : decode cX1_quietHours 57 = .ok (.iload_n 2, 1) := by decide +kernel
theorem dX1_quietHours_58 : decode cX1_quietHours 58 = .ok (.aload_n 0, 1) := by decide +kernel
theorem dX1_quietHours_59 : decode cX1_quietHours 59 = .ok (.getfield 36, 3) := by decide +kernel
theorem dX1_quietHours_62 : decode cX1_quietHours 62 = .ok (.getfield 96, 3) := by decide +kernel
theorem dX1_quietHours_65 : decode cX1_quietHours 65 = .ok (.if_icmp .ge 65, 3) := by decide +kernel
theorem dX1_quietHours_68 : decode cX1_quietHours 68 = .ok (.aload_n 0, 1) := by decide +kernel
theorem dX1_quietHours_69 : decode cX1_quietHours 69 = .ok (.getfield 36, 3) := by decide +kernel
theorem dX1_quietHours_72 : decode cX1_quietHours 72 = .ok (.getfield 150, 3) := by decide +kernel
theorem dX1_quietHours_75 : decode cX1_quietHours 75 = .ok (.iload_n 2, 1) := by decide +kernel
theorem dX1_quietHours_76 : decode cX1_quietHours 76 = .ok (.iaload, 1) := by decide +kernel
theorem dX1_quietHours_77 : decode cX1_quietHours 77 = .ok (.istore_n 3, 1) := by decide +kernel
theorem dX1_quietHours_78 : decode cX1_quietHours 78 = .ok (.aload_n 0, 1) := by decide +kernel
theorem dX1_quietHours_79 : decode cX1_quietHours 79 = .ok (.getfield 36, 3) := by decide +kernel
theorem dX1_quietHours_82 : decode cX1_quietHours 82 = .ok (.getfield 153, 3) := by decide +kernel
theorem dX1_quietHours_85 : decode cX1_quietHours 85 = .ok (.iload_n 2, 1) := by decide +kernel
theorem dX1_quietHours_86 : decode cX1_quietHours 86 = .ok (.iaload, 1) := by decide +kernel
theorem dX1_quietHours_87 : decode cX1_quietHours 87 = .ok (.istore 4, 2) := by decide +kernel
theorem dX1_quietHours_89 : decode cX1_quietHours 89 = .ok (.aload_n 0, 1) := by decide +kernel
theorem dX1_quietHours_90 : decode cX1_quietHours 90 = .ok (.getfield 29, 3) := by decide +kernel
theorem dX1_quietHours_93 : decode cX1_quietHours 93 = .ok (.iload_n 3, 1) := by decide +kernel
theorem dX1_quietHours_94 : decode cX1_quietHours 94 = .ok (.invokevirtual 69, 3) := by decide +kernel
theorem dX1_quietHours_97 : decode cX1_quietHours 97 = .ok (.ifCond .eq 27, 3) := by decide +kernel
theorem dX1_quietHours_100 : decode cX1_quietHours 100 = .ok (.iload 4, 2) := by decide +kernel
theorem dX1_quietHours_102 : decode cX1_quietHours 102 = .ok (.ifCond .le 22, 3) := by decide +kernel
theorem dX1_quietHours_105 : decode cX1_quietHours 105 = .ok (.iload_n 1, 1) := by decide +kernel
theorem dX1_quietHours_106 : decode cX1_quietHours 106 = .ok (.aload_n 0, 1) := by decide +kernel
theorem dX1_quietHours_107 : decode cX1_quietHours 107 = .ok (.getfield 29, 3) := by decide +kernel
theorem dX1_quietHours_110 : decode cX1_quietHours 110 = .ok (.getfield 156, 3) := by decide +kernel
theorem dX1_quietHours_113 : decode cX1_quietHours 113 = .ok (.iload_n 3, 1) := by decide +kernel
theorem dX1_quietHours_114 : decode cX1_quietHours 114 = .ok (.iaload, 1) := by decide +kernel
theorem dX1_quietHours_115 : decode cX1_quietHours 115 = .ok (.iconst 1, 1) := by decide +kernel
theorem dX1_quietHours_116 : decode cX1_quietHours 116 = .ok (.isub, 1) := by decide +kernel
theorem dX1_quietHours_117 : decode cX1_quietHours 117 = .ok (.iload 4, 2) := by decide +kernel
theorem dX1_quietHours_119 : decode cX1_quietHours 119 = .ok (.idiv, 1) := by decide +kernel
theorem dX1_quietHours_120 : decode cX1_quietHours 120 = .ok (.invokestatic 126, 3) := by decide +kernel
theorem dX1_quietHours_123 : decode cX1_quietHours 123 = .ok (.istore_n 1, 1) := by decide +kernel
theorem dX1_quietHours_124 : decode cX1_quietHours 124 = .ok (.iinc 2 1, 3) := by decide +kernel
theorem dX1_quietHours_127 : decode cX1_quietHours 127 = .ok (.goto (-70), 3) := by decide +kernel
theorem dX1_quietHours_130 : decode cX1_quietHours 130 = .ok (.iload_n 1, 1) := by decide +kernel
theorem dX1_quietHours_131 : decode cX1_quietHours 131 = .ok (.ireturn, 1) := by decide +kernel
set_option maxRecDepth 20000 in
theorem ggX1_passQuietHours_X1_crewsWork : GoodIn wsX1_passQuietHours wsX1_crewsWork := goodIn_r _ [6, 7, 8, 9, 10, 11, 12, 13, 14, 15, 16, 17, 18, 19, 20, 21, 5, 22, 1, 23, 24, 25, 26, 27, 28, 29, 30, 31, 32, 33, 34, 35, 36, 37, 38, 39, 40, 41, 42, 43, 44, 45, 46, 47, 48, 49, 50, 51, 52, 53, 54] (by decide +kernel) (by decide +kernel)
set_option maxRecDepth 20000 in
theorem gX1_passQuietHours_X1_crewsWork : GoodIn wsX1_passQuietHours (wsV RX1 144 RX1 yX1_crewsWork wsX1_crewsWork) := goodIn_app (goodIn_of _ (by decide +kernel)) ggX1_passQuietHours_X1_crewsWork
theorem dX1_passQuietHours_0 : decode cX1_passQuietHours 0 = .ok (.iload_n 1, 1) := by decide +kernel
theorem dX1_passQuietHours_1 : decode cX1_passQuietHours 1 = .ok (.ifCond .gt 4, 3) := by decide +kernel
theorem dX1_passQuietHours_4 : decode cX1_passQuietHours 4 = .ok (.return_, 1) := by decide +kernel
theorem dX1_passQuietHours_5 : decode cX1_passQuietHours 5 = .ok (.aload_n 0, 1) := by decide +kernel
theorem dX1_passQuietHours_6 : decode cX1_passQuietHours 6 = .ok (.iload_n 1, 1) := by decide +kernel
theorem dX1_passQuietHours_7 : decode cX1_passQuietHours 7 = .ok (.invokevirtual 144, 3) := by decide +kernel
theorem dX1_passQuietHours_10 : decode cX1_passQuietHours 10 = .ok (.pop, 1) := by decide +kernel
theorem dX1_passQuietHours_11 : decode cX1_passQuietHours 11 = .ok (.aload_n 0, 1) := by decide +kernel
theorem dX1_passQuietHours_12 : decode cX1_passQuietHours 12 = .ok (.dup, 1) := by decide +kernel
theorem dX1_passQuietHours_13 : decode cX1_passQuietHours 13 = .ok (.getfield 51, 3) := by decide +kernel
theorem dX1_passQuietHours_16 : decode cX1_passQuietHours 16 = .ok (.iload_n 1, 1) := by decide +kernel
theorem dX1_passQuietHours_17 : decode cX1_passQuietHours 17 = .ok (.iadd, 1) := by decide +kernel
theorem dX1_passQuietHours_18 : decode cX1_passQuietHours 18 = .ok (.putfield 51, 3) := by decide +kernel
theorem dX1_passQuietHours_21 : decode cX1_passQuietHours 21 = .ok (.return_, 1) := by decide +kernel
theorem dX1_lorriesLeave_0 : decode cX1_lorriesLeave 0 = .ok (.iconst 0, 1) := by decide +kernel
theorem dX1_lorriesLeave_1 : decode cX1_lorriesLeave 1 = .ok (.istore_n 1, 1) := by decide +kernel
theorem dX1_lorriesLeave_2 : decode cX1_lorriesLeave 2 = .ok (.iload_n 1, 1) := by decide +kernel
theorem dX1_lorriesLeave_3 : decode cX1_lorriesLeave 3 = .ok (.aload_n 0, 1) := by decide +kernel
theorem dX1_lorriesLeave_4 : decode cX1_lorriesLeave 4 = .ok (.getfield 29, 3) := by decide +kernel
theorem dX1_lorriesLeave_7 : decode cX1_lorriesLeave 7 = .ok (.getfield 73, 3) := by decide +kernel
theorem dX1_lorriesLeave_10 : decode cX1_lorriesLeave 10 = .ok (.if_icmp .ge 48, 3) := by decide +kernel
theorem dX1_lorriesLeave_13 : decode cX1_lorriesLeave 13 = .ok (.aload_n 0, 1) := by decide +kernel
theorem dX1_lorriesLeave_14 : decode cX1_lorriesLeave 14 = .ok (.getfield 29, 3) := by decide +kernel
theorem dX1_lorriesLeave_17 : decode cX1_lorriesLeave 17 = .ok (.getfield 110, 3) := by decide +kernel
theorem dX1_lorriesLeave_20 : decode cX1_lorriesLeave 20 = .ok (.iload_n 1, 1) := by decide +kernel
theorem dX1_lorriesLeave_21 : decode cX1_lorriesLeave 21 = .ok (.iaload, 1) := by decide +kernel
theorem dX1_lorriesLeave_22 : decode cX1_lorriesLeave 22 = .ok (.iconst 1, 1) := by decide +kernel
theorem dX1_lorriesLeave_23 : decode cX1_lorriesLeave 23 = .ok (.if_icmp .ne 29, 3) := by decide +kernel
theorem dX1_lorriesLeave_26 : decode cX1_lorriesLeave 26 = .ok (.aload_n 0, 1) := by decide +kernel
theorem dX1_lorriesLeave_27 : decode cX1_lorriesLeave 27 = .ok (.getfield 29, 3) := by decide +kernel
theorem dX1_lorriesLeave_30 : decode cX1_lorriesLeave 30 = .ok (.getfield 147, 3) := by decide +kernel
theorem dX1_lorriesLeave_33 : decode cX1_lorriesLeave 33 = .ok (.iload_n 1, 1) := by decide +kernel
theorem dX1_lorriesLeave_34 : decode cX1_lorriesLeave 34 = .ok (.iaload, 1) := by decide +kernel
theorem dX1_lorriesLeave_35 : decode cX1_lorriesLeave 35 = .ok (.aload_n 0, 1) := by decide +kernel
theorem dX1_lorriesLeave_36 : decode cX1_lorriesLeave 36 = .ok (.getfield 51, 3) := by decide +kernel
theorem dX1_lorriesLeave_39 : decode cX1_lorriesLeave 39 = .ok (.if_icmp .gt 13, 3) := by decide +kernel
theorem dX1_lorriesLeave_42 : decode cX1_lorriesLeave 42 = .ok (.aload_n 0, 1) := by decide +kernel
theorem dX1_lorriesLeave_43 : decode cX1_lorriesLeave 43 = .ok (.getfield 29, 3) := by decide +kernel
theorem dX1_lorriesLeave_46 : decode cX1_lorriesLeave 46 = .ok (.getfield 110, 3) := by decide +kernel
theorem dX1_lorriesLeave_49 : decode cX1_lorriesLeave 49 = .ok (.iload_n 1, 1) := by decide +kernel
theorem dX1_lorriesLeave_50 : decode cX1_lorriesLeave 50 = .ok (.iconst 2, 1) := by decide +kernel
theorem dX1_lorriesLeave_51 : decode cX1_lorriesLeave 51 = .ok (.iastore, 1) := by decide +kernel
theorem dX1_lorriesLeave_52 : decode cX1_lorriesLeave 52 = .ok (.iinc 1 1, 3) := by decide +kernel
theorem dX1_lorriesLeave_55 : decode cX1_lorriesLeave 55 = .ok (.goto (-53), 3) := by decide +kernel
theorem dX1_lorriesLeave_58 : decode cX1_lorriesLeave 58 = .ok (.return_, 1) := by decide +kernel
set_option maxRecDepth 20000 in
theorem ggX1_lorriesCome_X6_metersAtDock : GoodIn wsX1_lorriesCome wsX6_metersAtDock := goodIn_r _ [8, 9, 10, 11, 19, 20, 21, 22, 23, 24, 25, 26, 27, 28, 29] (by decide +kernel) (by decide +kernel)
set_option maxRecDepth 20000 in
theorem gX1_lorriesCome_X6_metersAtDock : GoodIn wsX1_lorriesCome (wsV RX1 101 RX6 yX6_metersAtDock wsX6_metersAtDock) := goodIn_app (goodIn_of _ (by decide +kernel)) ggX1_lorriesCome_X6_metersAtDock
theorem dX1_lorriesCome_0 : decode cX1_lorriesCome 0 = .ok (.aload_n 0, 1) := by decide +kernel
theorem dX1_lorriesCome_1 : decode cX1_lorriesCome 1 = .ok (.getfield 29, 3) := by decide +kernel
theorem dX1_lorriesCome_4 : decode cX1_lorriesCome 4 = .ok (.invokevirtual 101, 3) := by decide +kernel
theorem dX1_lorriesCome_7 : decode cX1_lorriesCome 7 = .ok (.istore_n 1, 1) := by decide +kernel
theorem dX1_lorriesCome_8 : decode cX1_lorriesCome 8 = .ok (.iconst 0, 1) := by decide +kernel
theorem dX1_lorriesCome_9 : decode cX1_lorriesCome 9 = .ok (.istore_n 2, 1) := by decide +kernel
theorem dX1_lorriesCome_10 : decode cX1_lorriesCome 10 = .ok (.iload_n 2, 1) := by decide +kernel
theorem dX1_lorriesCome_11 : decode cX1_lorriesCome 11 = .ok (.aload_n 0, 1) := by decide +kernel
theorem dX1_lorriesCome_12 : decode cX1_lorriesCome 12 = .ok (.getfield 29, 3) := by decide +kernel
theorem dX1_lorriesCome_15 : decode cX1_lorriesCome 15 = .ok (.getfield 73, 3) := by decide +kernel
theorem dX1_lorriesCome_18 : decode cX1_lorriesCome 18 = .ok (.if_icmp .ge 77, 3) := by decide +kernel
theorem dX1_lorriesCome_21 : decode cX1_lorriesCome 21 = .ok (.aload_n 0, 1) := by decide +kernel
theorem dX1_lorriesCome_22 : decode cX1_lorriesCome 22 = .ok (.getfield 29, 3) := by decide +kernel
theorem dX1_lorriesCome_25 : decode cX1_lorriesCome 25 = .ok (.getfield 110, 3) := by decide +kernel
theorem dX1_lorriesCome_28 : decode cX1_lorriesCome 28 = .ok (.iload_n 2, 1) := by decide +kernel
theorem dX1_lorriesCome_29 : decode cX1_lorriesCome 29 = .ok (.iaload, 1) := by decide +kernel
theorem dX1_lorriesCome_30 : decode cX1_lorriesCome 30 = .ok (.ifCond .eq 6, 3) := by decide +kernel
theorem dX1_lorriesCome_33 : decode cX1_lorriesCome 33 = .ok (.goto 56, 3) := by decide +kernel
theorem dX1_lorriesCome_36 : decode cX1_lorriesCome 36 = .ok (.iload_n 1, 1) := by decide +kernel
theorem dX1_lorriesCome_37 : decode cX1_lorriesCome 37 = .ok (.aload_n 0, 1) := by decide +kernel
theorem dX1_lorriesCome_38 : decode cX1_lorriesCome 38 = .ok (.getfield 29, 3) := by decide +kernel
theorem dX1_lorriesCome_41 : decode cX1_lorriesCome 41 = .ok (.getfield 159, 3) := by decide +kernel
theorem dX1_lorriesCome_44 : decode cX1_lorriesCome 44 = .ok (.iload_n 2, 1) := by decide +kernel
theorem dX1_lorriesCome_45 : decode cX1_lorriesCome 45 = .ok (.iaload, 1) := by decide +kernel
theorem dX1_lorriesCome_46 : decode cX1_lorriesCome 46 = .ok (.iadd, 1) := by decide +kernel
theorem dX1_lorriesCome_47 : decode cX1_lorriesCome 47 = .ok (.istore_n 1, 1) := by decide +kernel
theorem dX1_lorriesCome_48 : decode cX1_lorriesCome 48 = .ok (.iload_n 1, 1) := by decide +kernel
theorem dX1_lorriesCome_49 : decode cX1_lorriesCome 49 = .ok (.aload_n 0, 1) := by decide +kernel
theorem dX1_lorriesCome_50 : decode cX1_lorriesCome 50 = .ok (.getfield 18, 3) := by decide +kernel
theorem dX1_lorriesCome_53 : decode cX1_lorriesCome 53 = .ok (.iconst 0, 1) := by decide +kernel
theorem dX1_lorriesCome_54 : decode cX1_lorriesCome 54 = .ok (.iaload, 1) := by decide +kernel
theorem dX1_lorriesCome_55 : decode cX1_lorriesCome 55 = .ok (.if_icmp .le 4, 3) := by decide +kernel
theorem dX1_lorriesCome_58 : decode cX1_lorriesCome 58 = .ok (.return_, 1) := by decide +kernel
theorem dX1_lorriesCome_59 : decode cX1_lorriesCome 59 = .ok (.aload_n 0, 1) := by decide +kernel
theorem dX1_lorriesCome_60 : decode cX1_lorriesCome 60 = .ok (.getfield 29, 3) := by decide +kernel
theorem dX1_lorriesCome_63 : decode cX1_lorriesCome 63 = .ok (.getfield 110, 3) := by decide +kernel
theorem dX1_lorriesCome_66 : decode cX1_lorriesCome 66 = .ok (.iload_n 2, 1) := by decide +kernel
theorem dX1_lorriesCome_67 : decode cX1_lorriesCome 67 = .ok (.iconst 1, 1) := by decide +kernel
theorem dX1_lorriesCome_68 : decode cX1_lorriesCome 68 = .ok (.iastore, 1) := by decide +kernel
theorem dX1_lorriesCome_69 : decode cX1_lorriesCome 69 = .ok (.aload_n 0, 1) := by decide +kernel
theorem dX1_lorriesCome_70 : decode cX1_lorriesCome 70 = .ok (.getfield 29, 3) := by decide +kernel
theorem dX1_lorriesCome_73 : decode cX1_lorriesCome 73 = .ok (.getfield 147, 3) := by decide +kernel
theorem dX1_lorriesCome_76 : decode cX1_lorriesCome 76 = .ok (.iload_n 2, 1) := by decide +kernel
theorem dX1_lorriesCome_77 : decode cX1_lorriesCome 77 = .ok (.aload_n 0, 1) := by decide +kernel
theorem dX1_lorriesCome_78 : decode cX1_lorriesCome 78 = .ok (.getfield 51, 3) := by decide +kernel
theorem dX1_lorriesCome_81 : decode cX1_lorriesCome 81 = .ok (.aload_n 0, 1) := by decide +kernel
theorem dX1_lorriesCome_82 : decode cX1_lorriesCome 82 = .ok (.getfield 18, 3) := by decide +kernel
theorem dX1_lorriesCome_85 : decode cX1_lorriesCome 85 = .ok (.iconst 1, 1) := by decide +kernel
theorem dX1_lorriesCome_86 : decode cX1_lorriesCome 86 = .ok (.iaload, 1) := by decide +kernel
theorem dX1_lorriesCome_87 : decode cX1_lorriesCome 87 = .ok (.iadd, 1) := by decide +kernel
theorem dX1_lorriesCome_88 : decode cX1_lorriesCome 88 = .ok (.iastore, 1) := by decide +kernel
theorem dX1_lorriesCome_89 : decode cX1_lorriesCome 89 = .ok (.iinc 2 1, 3) := by decide +kernel
theorem dX1_lorriesCome_92 : decode cX1_lorriesCome 92 = .ok (.goto (-82), 3) := by decide +kernel
theorem dX1_lorriesCome_95 : decode cX1_lorriesCome 95 = .ok (.return_, 1) := by decide +kernel
set_option maxRecDepth 20000 in
theorem ggX1_crewsTakeStands_X6_nextToDismantle : GoodIn wsX1_crewsTakeStands wsX6_nextToDismantle := goodIn_r _ [8, 9, 10, 11, 12, 13, 7, 14, 15, 53, 54, 55, 56, 57, 58, 59, 60, 61, 62, 63] (by decide +kernel) (by decide +kernel)
set_option maxRecDepth 20000 in
theorem gX1_crewsTakeStands_X6_nextToDismantle : GoodIn wsX1_crewsTakeStands (wsV RX1 162 RX6 yX6_nextToDismantle wsX6_nextToDismantle) := goodIn_app (goodIn_of _ (by decide +kernel)) ggX1_crewsTakeStands_X6_nextToDismantle
set_option maxRecDepth 20000 in
theorem ggX1_crewsTakeStands_X6_nextToBuild : GoodIn wsX1_crewsTakeStands wsX6_nextToBuild := goodIn_r _ [19, 9, 10, 20, 21, 22, 7, 23, 15, 24, 25, 26, 27, 53, 54, 55, 56, 57, 58, 59, 60, 61, 62, 63] (by decide +kernel) (by decide +kernel)
set_option maxRecDepth 20000 in
theorem gX1_crewsTakeStands_X6_nextToBuild : GoodIn wsX1_crewsTakeStands (wsV RX1 165 RX6 yX6_nextToBuild wsX6_nextToBuild) := goodIn_app (goodIn_of _ (by decide +kernel)) ggX1_crewsTakeStands_X6_nextToBuild
set_option maxRecDepth 20000 in
theorem ggX1_crewsTakeStands_X6_has : GoodIn wsX1_crewsTakeStands wsX6_has := goodIn_r _ [27, 9, 53, 54, 55, 56, 57, 58, 59, 60, 61, 62, 63] (by decide +kernel) (by decide +kernel)
set_option maxRecDepth 20000 in
theorem gX1_crewsTakeStands_X6_has : GoodIn wsX1_crewsTakeStands (wsV RX1 69 RX6 yX6_has wsX6_has) := goodIn_app (goodIn_of _ (by decide +kernel)) ggX1_crewsTakeStands_X6_has
set_option maxRecDepth 20000 in
theorem ggX1_crewsTakeStands_X1_beginToDismantle : GoodIn wsX1_crewsTakeStands wsX1_beginToDismantle := goodIn_r _ [33, 3, 28, 25, 26, 7, 27, 9, 34, 35, 36, 32, 37, 38, 39, 40, 41, 42, 43, 44, 45, 53, 54, 55, 56, 57, 58, 59, 60, 61, 62, 63] (by decide +kernel) (by decide +kernel)
set_option maxRecDepth 20000 in
theorem gX1_crewsTakeStands_X1_beginToDismantle : GoodIn wsX1_crewsTakeStands (wsV RX1 171 RX1 yX1_beginToDismantle wsX1_beginToDismantle) := goodIn_app (goodIn_of _ (by decide +kernel)) ggX1_crewsTakeStands_X1_beginToDismantle
theorem dX1_crewsTakeStands_0 : decode cX1_crewsTakeStands 0 = .ok (.iconst 0, 1) := by decide +kernel
theorem dX1_crewsTakeStands_1 : decode cX1_crewsTakeStands 1 = .ok (.istore_n 1, 1) := by decide +kernel
theorem dX1_crewsTakeStands_2 : decode cX1_crewsTakeStands 2 = .ok (.iload_n 1, 1) := by decide +kernel
theorem dX1_crewsTakeStands_3 : decode cX1_crewsTakeStands 3 = .ok (.aload_n 0, 1) := by decide +kernel
theorem dX1_crewsTakeStands_4 : decode cX1_crewsTakeStands 4 = .ok (.getfield 36, 3) := by decide +kernel
theorem dX1_crewsTakeStands_7 : decode cX1_crewsTakeStands 7 = .ok (.getfield 96, 3) := by decide +kernel
theorem dX1_crewsTakeStands_10 : decode cX1_crewsTakeStands 10 = .ok (.if_icmp .ge 108, 3) := by decide +kernel
theorem dX1_crewsTakeStands_13 : decode cX1_crewsTakeStands 13 = .ok (.aload_n 0, 1) := by decide +kernel
theorem dX1_crewsTakeStands_14 : decode cX1_crewsTakeStands 14 = .ok (.getfield 36, 3) := by decide +kernel
theorem dX1_crewsTakeStands_17 : decode cX1_crewsTakeStands 17 = .ok (.getfield 150, 3) := by decide +kernel
theorem dX1_crewsTakeStands_20 : decode cX1_crewsTakeStands 20 = .ok (.iload_n 1, 1) := by decide +kernel
theorem dX1_crewsTakeStands_21 : decode cX1_crewsTakeStands 21 = .ok (.iaload, 1) := by decide +kernel
theorem dX1_crewsTakeStands_22 : decode cX1_crewsTakeStands 22 = .ok (.bipush (-6), 2) := by decide +kernel
theorem dX1_crewsTakeStands_24 : decode cX1_crewsTakeStands 24 = .ok (.if_icmp .eq 6, 3) := by decide +kernel
theorem dX1_crewsTakeStands_27 : decode cX1_crewsTakeStands 27 = .ok (.goto 85, 3) := by decide +kernel
theorem dX1_crewsTakeStands_30 : decode cX1_crewsTakeStands 30 = .ok (.aload_n 0, 1) := by decide +kernel
theorem dX1_crewsTakeStands_31 : decode cX1_crewsTakeStands 31 = .ok (.getfield 55, 3) := by decide +kernel
theorem dX1_crewsTakeStands_34 : decode cX1_crewsTakeStands 34 = .ok (.ifCond .eq 13, 3) := by decide +kernel
theorem dX1_crewsTakeStands_37 : decode cX1_crewsTakeStands 37 = .ok (.aload_n 0, 1) := by decide +kernel
theorem dX1_crewsTakeStands_38 : decode cX1_crewsTakeStands 38 = .ok (.getfield 29, 3) := by decide +kernel
theorem dX1_crewsTakeStands_41 : decode cX1_crewsTakeStands 41 = .ok (.invokevirtual 162, 3) := by decide +kernel
theorem dX1_crewsTakeStands_44 : decode cX1_crewsTakeStands 44 = .ok (.goto 10, 3) := by decide +kernel
theorem dX1_crewsTakeStands_47 : decode cX1_crewsTakeStands 47 = .ok (.aload_n 0, 1) := by decide +kernel
theorem dX1_crewsTakeStands_48 : decode cX1_crewsTakeStands 48 = .ok (.getfield 29, 3) := by decide +kernel
theorem dX1_crewsTakeStands_51 : decode cX1_crewsTakeStands 51 = .ok (.invokevirtual 165, 3) := by decide +kernel
theorem dX1_crewsTakeStands_54 : decode cX1_crewsTakeStands 54 = .ok (.istore_n 2, 1) := by decide +kernel
theorem dX1_crewsTakeStands_55 : decode cX1_crewsTakeStands 55 = .ok (.aload_n 0, 1) := by decide +kernel
theorem dX1_crewsTakeStands_56 : decode cX1_crewsTakeStands 56 = .ok (.getfield 29, 3) := by decide +kernel
theorem dX1_crewsTakeStands_59 : decode cX1_crewsTakeStands 59 = .ok (.iload_n 2, 1) := by decide +kernel
theorem dX1_crewsTakeStands_60 : decode cX1_crewsTakeStands 60 = .ok (.invokevirtual 69, 3) := by decide +kernel
theorem dX1_crewsTakeStands_63 : decode cX1_crewsTakeStands 63 = .ok (.ifCond .ne 4, 3) := by decide +kernel
theorem dX1_crewsTakeStands_66 : decode cX1_crewsTakeStands 66 = .ok (.return_, 1) := by decide +kernel
theorem dX1_crewsTakeStands_67 : decode cX1_crewsTakeStands 67 = .ok (.aload_n 0, 1) := by decide +kernel
theorem dX1_crewsTakeStands_68 : decode cX1_crewsTakeStands 68 = .ok (.getfield 36, 3) := by decide +kernel
theorem dX1_crewsTakeStands_71 : decode cX1_crewsTakeStands 71 = .ok (.getfield 150, 3) := by decide +kernel
theorem dX1_crewsTakeStands_74 : decode cX1_crewsTakeStands 74 = .ok (.iload_n 1, 1) := by decide +kernel
theorem dX1_crewsTakeStands_75 : decode cX1_crewsTakeStands 75 = .ok (.iload_n 2, 1) := by decide +kernel
theorem dX1_crewsTakeStands_76 : decode cX1_crewsTakeStands 76 = .ok (.iastore, 1) := by decide +kernel
theorem dX1_crewsTakeStands_77 : decode cX1_crewsTakeStands 77 = .ok (.aload_n 0, 1) := by decide +kernel
theorem dX1_crewsTakeStands_78 : decode cX1_crewsTakeStands 78 = .ok (.getfield 29, 3) := by decide +kernel
theorem dX1_crewsTakeStands_81 : decode cX1_crewsTakeStands 81 = .ok (.getfield 168, 3) := by decide +kernel
theorem dX1_crewsTakeStands_84 : decode cX1_crewsTakeStands 84 = .ok (.iload_n 2, 1) := by decide +kernel
theorem dX1_crewsTakeStands_85 : decode cX1_crewsTakeStands 85 = .ok (.iload_n 1, 1) := by decide +kernel
theorem dX1_crewsTakeStands_86 : decode cX1_crewsTakeStands 86 = .ok (.iastore, 1) := by decide +kernel
theorem dX1_crewsTakeStands_87 : decode cX1_crewsTakeStands 87 = .ok (.aload_n 0, 1) := by decide +kernel
theorem dX1_crewsTakeStands_88 : decode cX1_crewsTakeStands 88 = .ok (.getfield 55, 3) := by decide +kernel
theorem dX1_crewsTakeStands_91 : decode cX1_crewsTakeStands 91 = .ok (.ifCond .eq 11, 3) := by decide +kernel
theorem dX1_crewsTakeStands_94 : decode cX1_crewsTakeStands 94 = .ok (.aload_n 0, 1) := by decide +kernel
theorem dX1_crewsTakeStands_95 : decode cX1_crewsTakeStands 95 = .ok (.iload_n 2, 1) := by decide +kernel
theorem dX1_crewsTakeStands_96 : decode cX1_crewsTakeStands 96 = .ok (.invokevirtual 171, 3) := by decide +kernel
theorem dX1_crewsTakeStands_99 : decode cX1_crewsTakeStands 99 = .ok (.goto 13, 3) := by decide +kernel
theorem dX1_crewsTakeStands_102 : decode cX1_crewsTakeStands 102 = .ok (.aload_n 0, 1) := by decide +kernel
theorem dX1_crewsTakeStands_103 : decode cX1_crewsTakeStands 103 = .ok (.getfield 29, 3) := by decide +kernel
theorem dX1_crewsTakeStands_106 : decode cX1_crewsTakeStands 106 = .ok (.getfield 110, 3) := by decide +kernel
theorem dX1_crewsTakeStands_109 : decode cX1_crewsTakeStands 109 = .ok (.iload_n 2, 1) := by decide +kernel
theorem dX1_crewsTakeStands_110 : decode cX1_crewsTakeStands 110 = .ok (.iconst 3, 1) := by decide +kernel
theorem dX1_crewsTakeStands_111 : decode cX1_crewsTakeStands 111 = .ok (.iastore, 1) := by decide +kernel
theorem dX1_crewsTakeStands_112 : decode cX1_crewsTakeStands 112 = .ok (.iinc 1 1, 3) := by decide +kernel
theorem dX1_crewsTakeStands_115 : decode cX1_crewsTakeStands 115 = .ok (.goto (-113), 3) := by decide +kernel
theorem dX1_crewsTakeStands_118 : decode cX1_crewsTakeStands 118 = .ok (.return_, 1) := by decide +kernel
set_option maxRecDepth 20000 in
theorem ggX1_beginToDismantle_X6_has : GoodIn wsX1_beginToDismantle wsX6_has := goodIn_r _ [6, 7, 21, 22, 23, 24, 25, 26, 27, 28, 29, 30, 31] (by decide +kernel) (by decide +kernel)
set_option maxRecDepth 20000 in
theorem gX1_beginToDismantle_X6_has : GoodIn wsX1_beginToDismantle (wsV RX1 69 RX6 yX6_has wsX6_has) := goodIn_app (goodIn_of _ (by decide +kernel)) ggX1_beginToDismantle_X6_has
set_option maxRecDepth 20000 in
theorem ggX1_beginToDismantle_X1_takeOffPhase : GoodIn wsX1_beginToDismantle wsX1_takeOffPhase := goodIn_r _ [12, 1, 13, 2, 3, 4, 5, 6, 7, 14, 15, 16, 17, 18, 19, 20, 21, 22, 23, 24, 25, 26, 27, 28, 29, 30, 31] (by decide +kernel) (by decide +kernel)
set_option maxRecDepth 20000 in
theorem gX1_beginToDismantle_X1_takeOffPhase : GoodIn wsX1_beginToDismantle (wsV RX1 174 RX1 yX1_takeOffPhase wsX1_takeOffPhase) := goodIn_app (goodIn_of _ (by decide +kernel)) ggX1_beginToDismantle_X1_takeOffPhase
theorem dX1_beginToDismantle_0 : decode cX1_beginToDismantle 0 = .ok (.aload_n 0, 1) := by decide +kernel
theorem dX1_beginToDismantle_1 : decode cX1_beginToDismantle 1 = .ok (.getfield 29, 3) := by decide +kernel
theorem dX1_beginToDismantle_4 : decode cX1_beginToDismantle 4 = .ok (.iload_n 1, 1) := by decide +kernel
theorem dX1_beginToDismantle_5 : decode cX1_beginToDismantle 5 = .ok (.invokevirtual 69, 3) := by decide +kernel
theorem dX1_beginToDismantle_8 : decode cX1_beginToDismantle 8 = .ok (.ifCond .ne 4, 3) := by decide +kernel
theorem dX1_beginToDismantle_11 : decode cX1_beginToDismantle 11 = .ok (.return_, 1) := by decide +kernel
theorem dX1_beginToDismantle_12 : decode cX1_beginToDismantle 12 = .ok (.aload_n 0, 1) := by decide +kernel
theorem dX1_beginToDismantle_13 : decode cX1_beginToDismantle 13 = .ok (.iload_n 1, 1) := by decide +kernel
theorem dX1_beginToDismantle_14 : decode cX1_beginToDismantle 14 = .ok (.invokevirtual 174, 3) := by decide +kernel
theorem dX1_beginToDismantle_17 : decode cX1_beginToDismantle 17 = .ok (.aload_n 0, 1) := by decide +kernel
theorem dX1_beginToDismantle_18 : decode cX1_beginToDismantle 18 = .ok (.getfield 29, 3) := by decide +kernel
theorem dX1_beginToDismantle_21 : decode cX1_beginToDismantle 21 = .ok (.getfield 110, 3) := by decide +kernel
theorem dX1_beginToDismantle_24 : decode cX1_beginToDismantle 24 = .ok (.iload_n 1, 1) := by decide +kernel
theorem dX1_beginToDismantle_25 : decode cX1_beginToDismantle 25 = .ok (.iconst 5, 1) := by decide +kernel
theorem dX1_beginToDismantle_26 : decode cX1_beginToDismantle 26 = .ok (.iastore, 1) := by decide +kernel
theorem dX1_beginToDismantle_27 : decode cX1_beginToDismantle 27 = .ok (.aload_n 0, 1) := by decide +kernel
theorem dX1_beginToDismantle_28 : decode cX1_beginToDismantle 28 = .ok (.getfield 29, 3) := by decide +kernel
theorem dX1_beginToDismantle_31 : decode cX1_beginToDismantle 31 = .ok (.getfield 156, 3) := by decide +kernel
theorem dX1_beginToDismantle_34 : decode cX1_beginToDismantle 34 = .ok (.iload_n 1, 1) := by decide +kernel
theorem dX1_beginToDismantle_35 : decode cX1_beginToDismantle 35 = .ok (.aload_n 0, 1) := by decide +kernel
theorem dX1_beginToDismantle_36 : decode cX1_beginToDismantle 36 = .ok (.getfield 29, 3) := by decide +kernel
theorem dX1_beginToDismantle_39 : decode cX1_beginToDismantle 39 = .ok (.getfield 177, 3) := by decide +kernel
theorem dX1_beginToDismantle_42 : decode cX1_beginToDismantle 42 = .ok (.iload_n 1, 1) := by decide +kernel
theorem dX1_beginToDismantle_43 : decode cX1_beginToDismantle 43 = .ok (.iaload, 1) := by decide +kernel
theorem dX1_beginToDismantle_44 : decode cX1_beginToDismantle 44 = .ok (.iconst 1, 1) := by decide +kernel
theorem dX1_beginToDismantle_45 : decode cX1_beginToDismantle 45 = .ok (.iadd, 1) := by decide +kernel
theorem dX1_beginToDismantle_46 : decode cX1_beginToDismantle 46 = .ok (.iconst 2, 1) := by decide +kernel
theorem dX1_beginToDismantle_47 : decode cX1_beginToDismantle 47 = .ok (.idiv, 1) := by decide +kernel
theorem dX1_beginToDismantle_48 : decode cX1_beginToDismantle 48 = .ok (.iastore, 1) := by decide +kernel
theorem dX1_beginToDismantle_49 : decode cX1_beginToDismantle 49 = .ok (.return_, 1) := by decide +kernel
set_option maxRecDepth 20000 in
theorem ggX1_crewsWork_X6_has : GoodIn wsX1_crewsWork wsX6_has := goodIn_r _ [11, 12, 40, 41, 42, 43, 44, 45, 46, 47, 48, 49, 50] (by decide +kernel) (by decide +kernel)
set_option maxRecDepth 20000 in
theorem gX1_crewsWork_X6_has : GoodIn wsX1_crewsWork (wsV RX1 69 RX6 yX6_has wsX6_has) := goodIn_app (goodIn_of _ (by decide +kernel)) ggX1_crewsWork_X6_has
set_option maxRecDepth 20000 in
theorem ggX1_crewsWork_X1_finish : GoodIn wsX1_crewsWork wsX1_finish := goodIn_r _ [17, 1, 2, 18, 19, 7, 8, 9, 10, 11, 12, 20, 21, 22, 16, 23, 24, 25, 26, 27, 28, 29, 30, 31, 32, 33, 34, 35, 36, 37, 38, 39, 40, 41, 42, 43, 44, 45, 46, 47, 48, 49, 50] (by decide +kernel) (by decide +kernel)
set_option maxRecDepth 20000 in
theorem gX1_crewsWork_X1_finish : GoodIn wsX1_crewsWork (wsV RX1 189 RX1 yX1_finish wsX1_finish) := goodIn_app (goodIn_of _ (by decide +kernel)) ggX1_crewsWork_X1_finish
theorem dX1_crewsWork_0 : decode cX1_crewsWork 0 = .ok (.iconst 0, 1) := by decide +kernel
theorem dX1_crewsWork_1 : decode cX1_crewsWork 1 = .ok (.istore_n 2, 1) := by decide +kernel
theorem dX1_crewsWork_2 : decode cX1_crewsWork 2 = .ok (.iconst 0, 1) := by decide +kernel
theorem dX1_crewsWork_3 : decode cX1_crewsWork 3 = .ok (.istore_n 3, 1) := by decide +kernel
theorem dX1_crewsWork_4 : decode cX1_crewsWork 4 = .ok (.iload_n 3, 1) := by decide +kernel
theorem dX1_crewsWork_5 : decode cX1_crewsWork 5 = .ok (.aload_n 0, 1) := by decide +kernel
theorem dX1_crewsWork_6 : decode cX1_crewsWork 6 = .ok (.getfield 36, 3) := by decide +kernel
theorem dX1_crewsWork_9 : decode cX1_crewsWork 9 = .ok (.getfield 96, 3) := by decide +kernel
theorem dX1_crewsWork_12 : decode cX1_crewsWork 12 = .ok (.if_icmp .ge 124, 3) := by decide +kernel
theorem dX1_crewsWork_15 : decode cX1_crewsWork 15 = .ok (.aload_n 0, 1) := by decide +kernel
theorem dX1_crewsWork_16 : decode cX1_crewsWork 16 = .ok (.getfield 36, 3) := by decide +kernel
theorem dX1_crewsWork_19 : decode cX1_crewsWork 19 = .ok (.getfield 150, 3) := by decide +kernel
theorem dX1_crewsWork_22 : decode cX1_crewsWork 22 = .ok (.iload_n 3, 1) := by decide +kernel
theorem dX1_crewsWork_23 : decode cX1_crewsWork 23 = .ok (.iaload, 1) := by decide +kernel
theorem dX1_crewsWork_24 : decode cX1_crewsWork 24 = .ok (.istore 4, 2) := by decide +kernel
theorem dX1_crewsWork_26 : decode cX1_crewsWork 26 = .ok (.aload_n 0, 1) := by decide +kernel
theorem dX1_crewsWork_27 : decode cX1_crewsWork 27 = .ok (.getfield 29, 3) := by decide +kernel
theorem dX1_crewsWork_30 : decode cX1_crewsWork 30 = .ok (.iload 4, 2) := by decide +kernel
theorem dX1_crewsWork_32 : decode cX1_crewsWork 32 = .ok (.invokevirtual 69, 3) := by decide +kernel
theorem dX1_crewsWork_35 : decode cX1_crewsWork 35 = .ok (.ifCond .ne 6, 3) := by decide +kernel
theorem dX1_crewsWork_38 : decode cX1_crewsWork 38 = .ok (.goto 92, 3) := by decide +kernel
theorem dX1_crewsWork_41 : decode cX1_crewsWork 41 = .ok (.aload_n 0, 1) := by decide +kernel
theorem dX1_crewsWork_42 : decode cX1_crewsWork 42 = .ok (.getfield 36, 3) := by decide +kernel
theorem dX1_crewsWork_45 : decode cX1_crewsWork 45 = .ok (.getfield 180, 3) := by decide +kernel
theorem dX1_crewsWork_48 : decode cX1_crewsWork 48 = .ok (.iload_n 3, 1) := by decide +kernel
theorem dX1_crewsWork_49 : decode cX1_crewsWork 49 = .ok (.dup2, 1) := by decide +kernel
theorem dX1_crewsWork_50 : decode cX1_crewsWork 50 = .ok (.iaload, 1) := by decide +kernel
theorem dX1_crewsWork_51 : decode cX1_crewsWork 51 = .ok (.iload_n 1, 1) := by decide +kernel
theorem dX1_crewsWork_52 : decode cX1_crewsWork 52 = .ok (.iadd, 1) := by decide +kernel
theorem dX1_crewsWork_53 : decode cX1_crewsWork 53 = .ok (.iastore, 1) := by decide +kernel
theorem dX1_crewsWork_54 : decode cX1_crewsWork 54 = .ok (.aload_n 0, 1) := by decide +kernel
theorem dX1_crewsWork_55 : decode cX1_crewsWork 55 = .ok (.getfield 29, 3) := by decide +kernel
theorem dX1_crewsWork_58 : decode cX1_crewsWork 58 = .ok (.getfield 183, 3) := by decide +kernel
theorem dX1_crewsWork_61 : decode cX1_crewsWork 61 = .ok (.iload 4, 2) := by decide +kernel
theorem dX1_crewsWork_63 : decode cX1_crewsWork 63 = .ok (.dup2, 1) := by decide +kernel
theorem dX1_crewsWork_64 : decode cX1_crewsWork 64 = .ok (.iaload, 1) := by decide +kernel
theorem dX1_crewsWork_65 : decode cX1_crewsWork 65 = .ok (.iload_n 1, 1) := by decide +kernel
theorem dX1_crewsWork_66 : decode cX1_crewsWork 66 = .ok (.iadd, 1) := by decide +kernel
theorem dX1_crewsWork_67 : decode cX1_crewsWork 67 = .ok (.iastore, 1) := by decide +kernel
theorem dX1_crewsWork_68 : decode cX1_crewsWork 68 = .ok (.aload_n 0, 1) := by decide +kernel
theorem dX1_crewsWork_69 : decode cX1_crewsWork 69 = .ok (.getfield 29, 3) := by decide +kernel
theorem dX1_crewsWork_72 : decode cX1_crewsWork 72 = .ok (.getfield 156, 3) := by decide +kernel
theorem dX1_crewsWork_75 : decode cX1_crewsWork 75 = .ok (.iload 4, 2) := by decide +kernel
theorem dX1_crewsWork_77 : decode cX1_crewsWork 77 = .ok (.iconst 0, 1) := by decide +kernel
theorem dX1_crewsWork_78 : decode cX1_crewsWork 78 = .ok (.aload_n 0, 1) := by decide +kernel
theorem dX1_crewsWork_79 : decode cX1_crewsWork 79 = .ok (.getfield 29, 3) := by decide +kernel
theorem dX1_crewsWork_82 : decode cX1_crewsWork 82 = .ok (.getfield 156, 3) := by decide +kernel
theorem dX1_crewsWork_85 : decode cX1_crewsWork 85 = .ok (.iload 4, 2) := by decide +kernel
theorem dX1_crewsWork_87 : decode cX1_crewsWork 87 = .ok (.iaload, 1) := by decide +kernel
theorem dX1_crewsWork_88 : decode cX1_crewsWork 88 = .ok (.iload_n 1, 1) := by decide +kernel
theorem dX1_crewsWork_89 : decode cX1_crewsWork 89 = .ok (.aload_n 0, 1) := by decide +kernel
theorem dX1_crewsWork_90 : decode cX1_crewsWork 90 = .ok (.getfield 36, 3) := by decide +kernel
theorem dX1_crewsWork_93 : decode cX1_crewsWork 93 = .ok (.getfield 153, 3) := by decide +kernel
theorem dX1_crewsWork_96 : decode cX1_crewsWork 96 = .ok (.iload_n 3, 1) := by decide +kernel
theorem dX1_crewsWork_97 : decode cX1_crewsWork 97 = .ok (.iaload, 1) := by decide +kernel
theorem dX1_crewsWork_98 : decode cX1_crewsWork 98 = .ok (.imul, 1) := by decide +kernel
theorem dX1_crewsWork_99 : decode cX1_crewsWork 99 = .ok (.isub, 1) := by decide +kernel
theorem dX1_crewsWork_100 : decode cX1_crewsWork 100 = .ok (.invokestatic 186, 3) := by decide +kernel
theorem dX1_crewsWork_103 : decode cX1_crewsWork 103 = .ok (.iastore, 1) := by decide +kernel
theorem dX1_crewsWork_104 : decode cX1_crewsWork 104 = .ok (.aload_n 0, 1) := by decide +kernel
theorem dX1_crewsWork_105 : decode cX1_crewsWork 105 = .ok (.getfield 29, 3) := by decide +kernel
theorem dX1_crewsWork_108 : decode cX1_crewsWork 108 = .ok (.getfield 156, 3) := by decide +kernel
theorem dX1_crewsWork_111 : decode cX1_crewsWork 111 = .ok (.iload 4, 2) := by decide +kernel
theorem dX1_crewsWork_113 : decode cX1_crewsWork 113 = .ok (.iaload, 1) := by decide +kernel
theorem dX1_crewsWork_114 : decode cX1_crewsWork 114 = .ok (.ifCond .le 6, 3) := by decide +kernel
theorem dX1_crewsWork_117 : decode cX1_crewsWork 117 = .ok (.goto 13, 3) := by decide +kernel
theorem dX1_crewsWork_120 : decode cX1_crewsWork 120 = .ok (.aload_n 0, 1) := by decide +kernel
theorem dX1_crewsWork_121 : decode cX1_crewsWork 121 = .ok (.iload_n 3, 1) := by decide +kernel
theorem dX1_crewsWork_122 : decode cX1_crewsWork 122 = .ok (.iload 4, 2) := by decide +kernel
theorem dX1_crewsWork_124 : decode cX1_crewsWork 124 = .ok (.invokevirtual 189, 3) := by decide +kernel
theorem dX1_crewsWork_127 : decode cX1_crewsWork 127 = .ok (.iinc 2 1, 3) := by decide +kernel
theorem dX1_crewsWork_130 : decode cX1_crewsWork 130 = .ok (.iinc 3 1, 3) := by decide +kernel
theorem dX1_crewsWork_133 : decode cX1_crewsWork 133 = .ok (.goto (-129), 3) := by decide +kernel
theorem dX1_crewsWork_136 : decode cX1_crewsWork 136 = .ok (.iload_n 2, 1) := by decide +kernel
theorem dX1_crewsWork_137 : decode cX1_crewsWork 137 = .ok (.ireturn, 1) := by decide +kernel
set_option maxRecDepth 20000 in
theorem ggX1_finish_X6_has : GoodIn wsX1_finish wsX6_has := goodIn_r _ [9, 10, 32, 33, 34, 35, 36, 37, 38, 39, 40, 41, 42] (by decide +kernel) (by decide +kernel)
set_option maxRecDepth 20000 in
theorem gX1_finish_X6_has : GoodIn wsX1_finish (wsV RX1 69 RX6 yX6_has wsX6_has) := goodIn_app (goodIn_of _ (by decide +kernel)) ggX1_finish_X6_has
set_option maxRecDepth 20000 in
theorem ggX1_finish_X1_putOnPhase : GoodIn wsX1_finish wsX1_putOnPhase := goodIn_r _ [15, 2, 16, 17, 5, 6, 7, 8, 9, 10, 18, 19, 20, 21, 22, 23, 24, 32, 33, 34, 35, 36, 37, 38, 39, 40, 41, 42] (by decide +kernel) (by decide +kernel)
set_option maxRecDepth 20000 in
theorem gX1_finish_X1_putOnPhase : GoodIn wsX1_finish (wsV RX1 196 RX1 yX1_putOnPhase wsX1_putOnPhase) := goodIn_app (goodIn_of _ (by decide +kernel)) ggX1_finish_X1_putOnPhase
theorem dX1_finish_0 : decode cX1_finish 0 = .ok (.iload_n 1, 1) := by decide +kernel
theorem dX1_finish_1 : decode cX1_finish 1 = .ok (.ifCond .lt 25, 3) := by decide +kernel
theorem dX1_finish_4 : decode cX1_finish 4 = .ok (.iload_n 1, 1) := by decide +kernel
theorem dX1_finish_5 : decode cX1_finish 5 = .ok (.aload_n 0, 1) := by decide +kernel
theorem dX1_finish_6 : decode cX1_finish 6 = .ok (.getfield 36, 3) := by decide +kernel
theorem dX1_finish_9 : decode cX1_finish 9 = .ok (.getfield 96, 3) := by decide +kernel
theorem dX1_finish_12 : decode cX1_finish 12 = .ok (.if_icmp .ge 14, 3) := by decide +kernel
theorem dX1_finish_15 : decode cX1_finish 15 = .ok (.aload_n 0, 1) := by decide +kernel
theorem dX1_finish_16 : decode cX1_finish 16 = .ok (.getfield 29, 3) := by decide +kernel
theorem dX1_finish_19 : decode cX1_finish 19 = .ok (.iload_n 2, 1) := by decide +kernel
theorem dX1_finish_20 : decode cX1_finish 20 = .ok (.invokevirtual 69, 3) := by decide +kernel
theorem dX1_finish_23 : decode cX1_finish 23 = .ok (.ifCond .ne 4, 3) := by decide +kernel
theorem dX1_finish_26 : decode cX1_finish 26 = .ok (.return_, 1) := by decide +kernel
theorem dX1_finish_27 : decode cX1_finish 27 = .ok (.aload_n 0, 1) := by decide +kernel
theorem dX1_finish_28 : decode cX1_finish 28 = .ok (.getfield 36, 3) := by decide +kernel
theorem dX1_finish_31 : decode cX1_finish 31 = .ok (.getfield 150, 3) := by decide +kernel
theorem dX1_finish_34 : decode cX1_finish 34 = .ok (.iload_n 1, 1) := by decide +kernel
theorem dX1_finish_35 : decode cX1_finish 35 = .ok (.bipush (-6), 2) := by decide +kernel
theorem dX1_finish_37 : decode cX1_finish 37 = .ok (.iastore, 1) := by decide +kernel
theorem dX1_finish_38 : decode cX1_finish 38 = .ok (.aload_n 0, 1) := by decide +kernel
theorem dX1_finish_39 : decode cX1_finish 39 = .ok (.getfield 29, 3) := by decide +kernel
theorem dX1_finish_42 : decode cX1_finish 42 = .ok (.getfield 168, 3) := by decide +kernel
theorem dX1_finish_45 : decode cX1_finish 45 = .ok (.iload_n 2, 1) := by decide +kernel
theorem dX1_finish_46 : decode cX1_finish 46 = .ok (.bipush (-6), 2) := by decide +kernel
theorem dX1_finish_48 : decode cX1_finish 48 = .ok (.iastore, 1) := by decide +kernel
theorem dX1_finish_49 : decode cX1_finish 49 = .ok (.aload_n 0, 1) := by decide +kernel
theorem dX1_finish_50 : decode cX1_finish 50 = .ok (.getfield 29, 3) := by decide +kernel
theorem dX1_finish_53 : decode cX1_finish 53 = .ok (.getfield 110, 3) := by decide +kernel
theorem dX1_finish_56 : decode cX1_finish 56 = .ok (.iload_n 2, 1) := by decide +kernel
theorem dX1_finish_57 : decode cX1_finish 57 = .ok (.iaload, 1) := by decide +kernel
theorem dX1_finish_58 : decode cX1_finish 58 = .ok (.iconst 3, 1) := by decide +kernel
theorem dX1_finish_59 : decode cX1_finish 59 = .ok (.if_icmp .ne 34, 3) := by decide +kernel
theorem dX1_finish_62 : decode cX1_finish 62 = .ok (.aload_n 0, 1) := by decide +kernel
theorem dX1_finish_63 : decode cX1_finish 63 = .ok (.getfield 29, 3) := by decide +kernel
theorem dX1_finish_66 : decode cX1_finish 66 = .ok (.getfield 110, 3) := by decide +kernel
theorem dX1_finish_69 : decode cX1_finish 69 = .ok (.iload_n 2, 1) := by decide +kernel
theorem dX1_finish_70 : decode cX1_finish 70 = .ok (.iconst 4, 1) := by decide +kernel
theorem dX1_finish_71 : decode cX1_finish 71 = .ok (.iastore, 1) := by decide +kernel
theorem dX1_finish_72 : decode cX1_finish 72 = .ok (.aload_n 0, 1) := by decide +kernel
theorem dX1_finish_73 : decode cX1_finish 73 = .ok (.getfield 36, 3) := by decide +kernel
theorem dX1_finish_76 : decode cX1_finish 76 = .ok (.getfield 193, 3) := by decide +kernel
theorem dX1_finish_79 : decode cX1_finish 79 = .ok (.iload_n 1, 1) := by decide +kernel
theorem dX1_finish_80 : decode cX1_finish 80 = .ok (.dup2, 1) := by decide +kernel
theorem dX1_finish_81 : decode cX1_finish 81 = .ok (.iaload, 1) := by decide +kernel
theorem dX1_finish_82 : decode cX1_finish 82 = .ok (.iconst 1, 1) := by decide +kernel
theorem dX1_finish_83 : decode cX1_finish 83 = .ok (.iadd, 1) := by decide +kernel
theorem dX1_finish_84 : decode cX1_finish 84 = .ok (.iastore, 1) := by decide +kernel
theorem dX1_finish_85 : decode cX1_finish 85 = .ok (.aload_n 0, 1) := by decide +kernel
theorem dX1_finish_86 : decode cX1_finish 86 = .ok (.iload_n 2, 1) := by decide +kernel
theorem dX1_finish_87 : decode cX1_finish 87 = .ok (.invokevirtual 196, 3) := by decide +kernel
theorem dX1_finish_90 : decode cX1_finish 90 = .ok (.goto 48, 3) := by decide +kernel
theorem dX1_finish_93 : decode cX1_finish 93 = .ok (.aload_n 0, 1) := by decide +kernel
theorem dX1_finish_94 : decode cX1_finish 94 = .ok (.getfield 29, 3) := by decide +kernel
theorem dX1_finish_97 : decode cX1_finish 97 = .ok (.getfield 110, 3) := by decide +kernel
theorem dX1_finish_100 : decode cX1_finish 100 = .ok (.iload_n 2, 1) := by decide +kernel
theorem dX1_finish_101 : decode cX1_finish 101 = .ok (.bipush 6, 2) := by decide +kernel
theorem dX1_finish_103 : decode cX1_finish 103 = .ok (.iastore, 1) := by decide +kernel
theorem dX1_finish_104 : decode cX1_finish 104 = .ok (.aload_n 0, 1) := by decide +kernel
theorem dX1_finish_105 : decode cX1_finish 105 = .ok (.getfield 36, 3) := by decide +kernel
theorem dX1_finish_108 : decode cX1_finish 108 = .ok (.getfield 199, 3) := by decide +kernel
theorem dX1_finish_111 : decode cX1_finish 111 = .ok (.iload_n 1, 1) := by decide +kernel
theorem dX1_finish_112 : decode cX1_finish 112 = .ok (.dup2, 1) := by decide +kernel
theorem dX1_finish_113 : decode cX1_finish 113 = .ok (.iaload, 1) := by decide +kernel
theorem dX1_finish_114 : decode cX1_finish 114 = .ok (.iconst 1, 1) := by decide +kernel
theorem dX1_finish_115 : decode cX1_finish 115 = .ok (.iadd, 1) := by decide +kernel
theorem dX1_finish_116 : decode cX1_finish 116 = .ok (.iastore, 1) := by decide +kernel
theorem dX1_finish_117 : decode cX1_finish 117 = .ok (.iload_n 2, 1) := by decide +kernel
theorem dX1_finish_118 : decode cX1_finish 118 = .ok (.aload_n 0, 1) := by decide +kernel
theorem dX1_finish_119 : decode cX1_finish 119 = .ok (.getfield 51, 3) := by decide +kernel
theorem dX1_finish_122 : decode cX1_finish 122 = .ok (.iadd, 1) := by decide +kernel
theorem dX1_finish_123 : decode cX1_finish 123 = .ok (.iconst 4, 1) := by decide +kernel
theorem dX1_finish_124 : decode cX1_finish 124 = .ok (.irem, 1) := by decide +kernel
theorem dX1_finish_125 : decode cX1_finish 125 = .ok (.ifCond .ne 13, 3) := by decide +kernel
theorem dX1_finish_128 : decode cX1_finish 128 = .ok (.aload_n 0, 1) := by decide +kernel
theorem dX1_finish_129 : decode cX1_finish 129 = .ok (.dup, 1) := by decide +kernel
theorem dX1_finish_130 : decode cX1_finish 130 = .ok (.getfield 59, 3) := by decide +kernel
theorem dX1_finish_133 : decode cX1_finish 133 = .ok (.iconst 1, 1) := by decide +kernel
theorem dX1_finish_134 : decode cX1_finish 134 = .ok (.iadd, 1) := by decide +kernel
theorem dX1_finish_135 : decode cX1_finish 135 = .ok (.putfield 59, 3) := by decide +kernel
theorem dX1_finish_138 : decode cX1_finish 138 = .ok (.return_, 1) := by decide +kernel
set_option maxRecDepth 20000 in
theorem ggX1_putOnPhase_X6_has : GoodIn wsX1_putOnPhase wsX6_has := goodIn_r _ [8, 9, 17, 18, 19, 20, 21, 22, 23, 24, 25, 26, 27] (by decide +kernel) (by decide +kernel)
set_option maxRecDepth 20000 in
theorem gX1_putOnPhase_X6_has : GoodIn wsX1_putOnPhase (wsV RX1 69 RX6 yX6_has wsX6_has) := goodIn_app (goodIn_of _ (by decide +kernel)) ggX1_putOnPhase_X6_has
theorem dX1_putOnPhase_0 : decode cX1_putOnPhase 0 = .ok (.aload_n 0, 1) := by decide +kernel
theorem dX1_putOnPhase_1 : decode cX1_putOnPhase 1 = .ok (.getfield 29, 3) := by decide +kernel
theorem dX1_putOnPhase_4 : decode cX1_putOnPhase 4 = .ok (.iload_n 1, 1) := by decide +kernel
theorem dX1_putOnPhase_5 : decode cX1_putOnPhase 5 = .ok (.invokevirtual 69, 3) := by decide +kernel
theorem dX1_putOnPhase_8 : decode cX1_putOnPhase 8 = .ok (.ifCond .ne 4, 3) := by decide +kernel
theorem dX1_putOnPhase_11 : decode cX1_putOnPhase 11 = .ok (.return_, 1) := by decide +kernel
theorem dX1_putOnPhase_12 : decode cX1_putOnPhase 12 = .ok (.iconst 0, 1) := by decide +kernel
theorem dX1_putOnPhase_13 : decode cX1_putOnPhase 13 = .ok (.istore_n 2, 1) := by decide +kernel
theorem dX1_putOnPhase_14 : decode cX1_putOnPhase 14 = .ok (.iconst 1, 1) := by decide +kernel
theorem dX1_putOnPhase_15 : decode cX1_putOnPhase 15 = .ok (.istore_n 3, 1) := by decide +kernel
theorem dX1_putOnPhase_16 : decode cX1_putOnPhase 16 = .ok (.iload_n 3, 1) := by decide +kernel
theorem dX1_putOnPhase_17 : decode cX1_putOnPhase 17 = .ok (.aload_n 0, 1) := by decide +kernel
theorem dX1_putOnPhase_18 : decode cX1_putOnPhase 18 = .ok (.getfield 23, 3) := by decide +kernel
theorem dX1_putOnPhase_21 : decode cX1_putOnPhase 21 = .ok (.arraylength, 1) := by decide +kernel
theorem dX1_putOnPhase_22 : decode cX1_putOnPhase 22 = .ok (.if_icmp .ge 26, 3) := by decide +kernel
theorem dX1_putOnPhase_25 : decode cX1_putOnPhase 25 = .ok (.aload_n 0, 1) := by decide +kernel
theorem dX1_putOnPhase_26 : decode cX1_putOnPhase 26 = .ok (.getfield 23, 3) := by decide +kernel
theorem dX1_putOnPhase_29 : decode cX1_putOnPhase 29 = .ok (.iload_n 3, 1) := by decide +kernel
theorem dX1_putOnPhase_30 : decode cX1_putOnPhase 30 = .ok (.iaload, 1) := by decide +kernel
theorem dX1_putOnPhase_31 : decode cX1_putOnPhase 31 = .ok (.aload_n 0, 1) := by decide +kernel
theorem dX1_putOnPhase_32 : decode cX1_putOnPhase 32 = .ok (.getfield 23, 3) := by decide +kernel
theorem dX1_putOnPhase_35 : decode cX1_putOnPhase 35 = .ok (.iload_n 2, 1) := by decide +kernel
theorem dX1_putOnPhase_36 : decode cX1_putOnPhase 36 = .ok (.iaload, 1) := by decide +kernel
theorem dX1_putOnPhase_37 : decode cX1_putOnPhase 37 = .ok (.if_icmp .ge 5, 3) := by decide +kernel
theorem dX1_putOnPhase_40 : decode cX1_putOnPhase 40 = .ok (.iload_n 3, 1) := by decide +kernel
theorem dX1_putOnPhase_41 : decode cX1_putOnPhase 41 = .ok (.istore_n 2, 1) := by decide +kernel
theorem dX1_putOnPhase_42 : decode cX1_putOnPhase 42 = .ok (.iinc 3 1, 3) := by decide +kernel
theorem dX1_putOnPhase_45 : decode cX1_putOnPhase 45 = .ok (.goto (-29), 3) := by decide +kernel
theorem dX1_putOnPhase_48 : decode cX1_putOnPhase 48 = .ok (.aload_n 0, 1) := by decide +kernel
theorem dX1_putOnPhase_49 : decode cX1_putOnPhase 49 = .ok (.getfield 23, 3) := by decide +kernel
theorem dX1_putOnPhase_52 : decode cX1_putOnPhase 52 = .ok (.iload_n 2, 1) := by decide +kernel
theorem dX1_putOnPhase_53 : decode cX1_putOnPhase 53 = .ok (.iaload, 1) := by decide +kernel
theorem dX1_putOnPhase_54 : decode cX1_putOnPhase 54 = .ok (.aload_n 0, 1) := by decide +kernel
theorem dX1_putOnPhase_55 : decode cX1_putOnPhase 55 = .ok (.getfield 29, 3) := by decide +kernel
theorem dX1_putOnPhase_58 : decode cX1_putOnPhase 58 = .ok (.getfield 202, 3) := by decide +kernel
theorem dX1_putOnPhase_61 : decode cX1_putOnPhase 61 = .ok (.iload_n 1, 1) := by decide +kernel
theorem dX1_putOnPhase_62 : decode cX1_putOnPhase 62 = .ok (.iaload, 1) := by decide +kernel
theorem dX1_putOnPhase_63 : decode cX1_putOnPhase 63 = .ok (.iadd, 1) := by decide +kernel
theorem dX1_putOnPhase_64 : decode cX1_putOnPhase 64 = .ok (.istore_n 3, 1) := by decide +kernel
theorem dX1_putOnPhase_65 : decode cX1_putOnPhase 65 = .ok (.iload_n 3, 1) := by decide +kernel
theorem dX1_putOnPhase_66 : decode cX1_putOnPhase 66 = .ok (.aload_n 0, 1) := by decide +kernel
theorem dX1_putOnPhase_67 : decode cX1_putOnPhase 67 = .ok (.getfield 18, 3) := by decide +kernel
theorem dX1_putOnPhase_70 : decode cX1_putOnPhase 70 = .ok (.iconst 2, 1) := by decide +kernel
theorem dX1_putOnPhase_71 : decode cX1_putOnPhase 71 = .ok (.iaload, 1) := by decide +kernel
theorem dX1_putOnPhase_72 : decode cX1_putOnPhase 72 = .ok (.if_icmp .le 4, 3) := by decide +kernel
theorem dX1_putOnPhase_75 : decode cX1_putOnPhase 75 = .ok (.return_, 1) := by decide +kernel
theorem dX1_putOnPhase_76 : decode cX1_putOnPhase 76 = .ok (.aload_n 0, 1) := by decide +kernel
theorem dX1_putOnPhase_77 : decode cX1_putOnPhase 77 = .ok (.getfield 23, 3) := by decide +kernel
theorem dX1_putOnPhase_80 : decode cX1_putOnPhase 80 = .ok (.iload_n 2, 1) := by decide +kernel
theorem dX1_putOnPhase_81 : decode cX1_putOnPhase 81 = .ok (.iload_n 3, 1) := by decide +kernel
theorem dX1_putOnPhase_82 : decode cX1_putOnPhase 82 = .ok (.iastore, 1) := by decide +kernel
theorem dX1_putOnPhase_83 : decode cX1_putOnPhase 83 = .ok (.aload_n 0, 1) := by decide +kernel
theorem dX1_putOnPhase_84 : decode cX1_putOnPhase 84 = .ok (.getfield 29, 3) := by decide +kernel
theorem dX1_putOnPhase_87 : decode cX1_putOnPhase 87 = .ok (.getfield 205, 3) := by decide +kernel
theorem dX1_putOnPhase_90 : decode cX1_putOnPhase 90 = .ok (.iload_n 1, 1) := by decide +kernel
theorem dX1_putOnPhase_91 : decode cX1_putOnPhase 91 = .ok (.iload_n 2, 1) := by decide +kernel
theorem dX1_putOnPhase_92 : decode cX1_putOnPhase 92 = .ok (.iastore, 1) := by decide +kernel
theorem dX1_putOnPhase_93 : decode cX1_putOnPhase 93 = .ok (.return_, 1) := by decide +kernel
set_option maxRecDepth 20000 in
theorem ggX1_takeOffPhase_X6_has : GoodIn wsX1_takeOffPhase wsX6_has := goodIn_r _ [7, 8, 16, 17, 18, 19, 20, 21, 22, 23, 24, 25, 26] (by decide +kernel) (by decide +kernel)
set_option maxRecDepth 20000 in
theorem gX1_takeOffPhase_X6_has : GoodIn wsX1_takeOffPhase (wsV RX1 69 RX6 yX6_has wsX6_has) := goodIn_app (goodIn_of _ (by decide +kernel)) ggX1_takeOffPhase_X6_has
theorem dX1_takeOffPhase_0 : decode cX1_takeOffPhase 0 = .ok (.aload_n 0, 1) := by decide +kernel
theorem dX1_takeOffPhase_1 : decode cX1_takeOffPhase 1 = .ok (.getfield 29, 3) := by decide +kernel
theorem dX1_takeOffPhase_4 : decode cX1_takeOffPhase 4 = .ok (.iload_n 1, 1) := by decide +kernel
theorem dX1_takeOffPhase_5 : decode cX1_takeOffPhase 5 = .ok (.invokevirtual 69, 3) := by decide +kernel
theorem dX1_takeOffPhase_8 : decode cX1_takeOffPhase 8 = .ok (.ifCond .ne 4, 3) := by decide +kernel
theorem dX1_takeOffPhase_11 : decode cX1_takeOffPhase 11 = .ok (.return_, 1) := by decide +kernel
theorem dX1_takeOffPhase_12 : decode cX1_takeOffPhase 12 = .ok (.aload_n 0, 1) := by decide +kernel
theorem dX1_takeOffPhase_13 : decode cX1_takeOffPhase 13 = .ok (.getfield 29, 3) := by decide +kernel
theorem dX1_takeOffPhase_16 : decode cX1_takeOffPhase 16 = .ok (.getfield 205, 3) := by decide +kernel
theorem dX1_takeOffPhase_19 : decode cX1_takeOffPhase 19 = .ok (.iload_n 1, 1) := by decide +kernel
theorem dX1_takeOffPhase_20 : decode cX1_takeOffPhase 20 = .ok (.iaload, 1) := by decide +kernel
theorem dX1_takeOffPhase_21 : decode cX1_takeOffPhase 21 = .ok (.istore_n 2, 1) := by decide +kernel
theorem dX1_takeOffPhase_22 : decode cX1_takeOffPhase 22 = .ok (.iload_n 2, 1) := by decide +kernel
theorem dX1_takeOffPhase_23 : decode cX1_takeOffPhase 23 = .ok (.ifCond .lt 12, 3) := by decide +kernel
theorem dX1_takeOffPhase_26 : decode cX1_takeOffPhase 26 = .ok (.iload_n 2, 1) := by decide +kernel
theorem dX1_takeOffPhase_27 : decode cX1_takeOffPhase 27 = .ok (.aload_n 0, 1) := by decide +kernel
theorem dX1_takeOffPhase_28 : decode cX1_takeOffPhase 28 = .ok (.getfield 23, 3) := by decide +kernel
theorem dX1_takeOffPhase_31 : decode cX1_takeOffPhase 31 = .ok (.arraylength, 1) := by decide +kernel
theorem dX1_takeOffPhase_32 : decode cX1_takeOffPhase 32 = .ok (.if_icmp .lt 4, 3) := by decide +kernel
theorem dX1_takeOffPhase_35 : decode cX1_takeOffPhase 35 = .ok (.return_, 1) := by decide +kernel
theorem dX1_takeOffPhase_36 : decode cX1_takeOffPhase 36 = .ok (.aload_n 0, 1) := by decide +kernel
theorem dX1_takeOffPhase_37 : decode cX1_takeOffPhase 37 = .ok (.getfield 23, 3) := by decide +kernel
theorem dX1_takeOffPhase_40 : decode cX1_takeOffPhase 40 = .ok (.iload_n 2, 1) := by decide +kernel
theorem dX1_takeOffPhase_41 : decode cX1_takeOffPhase 41 = .ok (.dup2, 1) := by decide +kernel
theorem dX1_takeOffPhase_42 : decode cX1_takeOffPhase 42 = .ok (.iaload, 1) := by decide +kernel
theorem dX1_takeOffPhase_43 : decode cX1_takeOffPhase 43 = .ok (.aload_n 0, 1) := by decide +kernel
theorem dX1_takeOffPhase_44 : decode cX1_takeOffPhase 44 = .ok (.getfield 29, 3) := by decide +kernel
theorem dX1_takeOffPhase_47 : decode cX1_takeOffPhase 47 = .ok (.getfield 202, 3) := by decide +kernel
theorem dX1_takeOffPhase_50 : decode cX1_takeOffPhase 50 = .ok (.iload_n 1, 1) := by decide +kernel
theorem dX1_takeOffPhase_51 : decode cX1_takeOffPhase 51 = .ok (.iaload, 1) := by decide +kernel
theorem dX1_takeOffPhase_52 : decode cX1_takeOffPhase 52 = .ok (.isub, 1) := by decide +kernel
theorem dX1_takeOffPhase_53 : decode cX1_takeOffPhase 53 = .ok (.iastore, 1) := by decide +kernel
theorem dX1_takeOffPhase_54 : decode cX1_takeOffPhase 54 = .ok (.aload_n 0, 1) := by decide +kernel
theorem dX1_takeOffPhase_55 : decode cX1_takeOffPhase 55 = .ok (.getfield 29, 3) := by decide +kernel
theorem dX1_takeOffPhase_58 : decode cX1_takeOffPhase 58 = .ok (.getfield 205, 3) := by decide +kernel
theorem dX1_takeOffPhase_61 : decode cX1_takeOffPhase 61 = .ok (.iload_n 1, 1) := by decide +kernel
theorem dX1_takeOffPhase_62 : decode cX1_takeOffPhase 62 = .ok (.bipush (-6), 2) := by decide +kernel
theorem dX1_takeOffPhase_64 : decode cX1_takeOffPhase 64 = .ok (.iastore, 1) := by decide +kernel
theorem dX1_takeOffPhase_65 : decode cX1_takeOffPhase 65 = .ok (.return_, 1) := by decide +kernel
