set_option maxRecDepth 20000 in
theorem ggX2_init_X0_init : GoodIn wsX2_init wsX0_init := goodIn_r _ [24, 25, 2, 3, 26, 27, 8, 28, 29, 64, 65, 66, 67] (by decide +kernel) (by decide +kernel)
set_option maxRecDepth 20000 in
theorem gX2_init_X0_init_n54 : GoodIn wsX2_init (wsX0_init) := ggX2_init_X0_init
set_option maxRecDepth 20000 in
theorem ggX2_init_X1_init : GoodIn wsX2_init wsX1_init := goodIn_r _ [31, 32, 2, 3, 33, 8, 34, 35, 36, 37, 38, 39, 40, 41, 42, 43, 44, 45, 46, 47, 48, 49, 50, 51, 68, 69, 70, 71, 72, 73, 74, 75, 76, 77, 78, 79, 80, 81, 82, 83, 84, 85, 86] (by decide +kernel) (by decide +kernel)
set_option maxRecDepth 20000 in
theorem gX2_init_X1_init_n55 : GoodIn wsX2_init (wsX1_init) := ggX2_init_X1_init
theorem dX2_init_0 : decode cX2_init 0 = .ok (.aload_n 0, 1) := by decide +kernel
theorem dX2_init_1 : decode cX2_init 1 = .ok (.invokespecial 1, 3) := by decide +kernel
theorem dX2_init_4 : decode cX2_init 4 = .ok (.aload_n 0, 1) := by decide +kernel
theorem dX2_init_5 : decode cX2_init 5 = .ok (.bipush 6, 2) := by decide +kernel
theorem dX2_init_7 : decode cX2_init 7 = .ok (.anewarray 9, 3) := by decide +kernel
theorem dX2_init_10 : decode cX2_init 10 = .ok (.putfield 11, 3) := by decide +kernel
theorem dX2_init_13 : decode cX2_init 13 = .ok (.aload_n 0, 1) := by decide +kernel
theorem dX2_init_14 : decode cX2_init 14 = .ok (.bipush 16, 2) := by decide +kernel
theorem dX2_init_16 : decode cX2_init 16 = .ok (.anewarray 15, 3) := by decide +kernel
theorem dX2_init_19 : decode cX2_init 19 = .ok (.putfield 17, 3) := by decide +kernel
theorem dX2_init_22 : decode cX2_init 22 = .ok (.aload_n 0, 1) := by decide +kernel
theorem dX2_init_23 : decode cX2_init 23 = .ok (.sipush 400, 3) := by decide +kernel
theorem dX2_init_26 : decode cX2_init 26 = .ok (.newarray .int, 2) := by decide +kernel
theorem dX2_init_28 : decode cX2_init 28 = .ok (.putfield 21, 3) := by decide +kernel
theorem dX2_init_31 : decode cX2_init 31 = .ok (.aload_n 0, 1) := by decide +kernel
theorem dX2_init_32 : decode cX2_init 32 = .ok (.iconst 1, 1) := by decide +kernel
theorem dX2_init_33 : decode cX2_init 33 = .ok (.putfield 25, 3) := by decide +kernel
theorem dX2_init_36 : decode cX2_init 36 = .ok (.aload_n 0, 1) := by decide +kernel
theorem dX2_init_37 : decode cX2_init 37 = .ok (.iconst 0, 1) := by decide +kernel
theorem dX2_init_38 : decode cX2_init 38 = .ok (.putfield 29, 3) := by decide +kernel
theorem dX2_init_41 : decode cX2_init 41 = .ok (.aload_n 0, 1) := by decide +kernel
theorem dX2_init_42 : decode cX2_init 42 = .ok (.iconst 0, 1) := by decide +kernel
theorem dX2_init_43 : decode cX2_init 43 = .ok (.putfield 32, 3) := by decide +kernel
theorem dX2_init_46 : decode cX2_init 46 = .ok (.aload_n 0, 1) := by decide +kernel
theorem dX2_init_47 : decode cX2_init 47 = .ok (.iconst 0, 1) := by decide +kernel
theorem dX2_init_48 : decode cX2_init 48 = .ok (.putfield 35, 3) := by decide +kernel
theorem dX2_init_51 : decode cX2_init 51 = .ok (.aload_n 0, 1) := by decide +kernel
theorem dX2_init_52 : decode cX2_init 52 = .ok (.aconst_null, 1) := by decide +kernel
theorem dX2_init_53 : decode cX2_init 53 = .ok (.putfield 38, 3) := by decide +kernel
theorem dX2_init_56 : decode cX2_init 56 = .ok (.aload_n 0, 1) := by decide +kernel
theorem dX2_init_57 : decode cX2_init 57 = .ok (.iconst 0, 1) := by decide +kernel
theorem dX2_init_58 : decode cX2_init 58 = .ok (.putfield 42, 3) := by decide +kernel
theorem dX2_init_61 : decode cX2_init 61 = .ok (.aload_n 0, 1) := by decide +kernel
theorem dX2_init_62 : decode cX2_init 62 = .ok (.iconst 0, 1) := by decide +kernel
theorem dX2_init_63 : decode cX2_init 63 = .ok (.putfield 45, 3) := by decide +kernel
theorem dX2_init_66 : decode cX2_init 66 = .ok (.aload_n 0, 1) := by decide +kernel
theorem dX2_init_67 : decode cX2_init 67 = .ok (.iconst 0, 1) := by decide +kernel
theorem dX2_init_68 : decode cX2_init 68 = .ok (.putfield 48, 3) := by decide +kernel
theorem dX2_init_71 : decode cX2_init 71 = .ok (.aload_n 0, 1) := by decide +kernel
theorem dX2_init_72 : decode cX2_init 72 = .ok (.iconst 0, 1) := by decide +kernel
theorem dX2_init_73 : decode cX2_init 73 = .ok (.putfield 51, 3) := by decide +kernel
theorem dX2_init_76 : decode cX2_init 76 = .ok (.iconst 0, 1) := by decide +kernel
theorem dX2_init_77 : decode cX2_init 77 = .ok (.istore_n 1, 1) := by decide +kernel
theorem dX2_init_78 : decode cX2_init 78 = .ok (.iload_n 1, 1) := by decide +kernel
theorem dX2_init_79 : decode cX2_init 79 = .ok (.bipush 6, 2) := by decide +kernel
theorem dX2_init_81 : decode cX2_init 81 = .ok (.if_icmp .ge 22, 3) := by decide +kernel
theorem dX2_init_84 : decode cX2_init 84 = .ok (.aload_n 0, 1) := by decide +kernel
theorem dX2_init_85 : decode cX2_init 85 = .ok (.getfield 11, 3) := by decide +kernel
theorem dX2_init_88 : decode cX2_init 88 = .ok (.iload_n 1, 1) := by decide +kernel
theorem dX2_init_89 : decode cX2_init 89 = .ok (.new 9, 3) := by decide +kernel
theorem dX2_init_92 : decode cX2_init 92 = .ok (.dup, 1) := by decide +kernel
theorem dX2_init_93 : decode cX2_init 93 = .ok (.invokespecial 54, 3) := by decide +kernel
theorem dX2_init_96 : decode cX2_init 96 = .ok (.aastore, 1) := by decide +kernel
theorem dX2_init_97 : decode cX2_init 97 = .ok (.iinc 1 1, 3) := by decide +kernel
theorem dX2_init_100 : decode cX2_init 100 = .ok (.goto (-22), 3) := by decide +kernel
theorem dX2_init_103 : decode cX2_init 103 = .ok (.iconst 0, 1) := by decide +kernel
theorem dX2_init_104 : decode cX2_init 104 = .ok (.istore_n 1, 1) := by decide +kernel
theorem dX2_init_105 : decode cX2_init 105 = .ok (.iload_n 1, 1) := by decide +kernel
theorem dX2_init_106 : decode cX2_init 106 = .ok (.bipush 16, 2) := by decide +kernel
theorem dX2_init_108 : decode cX2_init 108 = .ok (.if_icmp .ge 23, 3) := by decide +kernel
theorem dX2_init_111 : decode cX2_init 111 = .ok (.aload_n 0, 1) := by decide +kernel
theorem dX2_init_112 : decode cX2_init 112 = .ok (.getfield 17, 3) := by decide +kernel
theorem dX2_init_115 : decode cX2_init 115 = .ok (.iload_n 1, 1) := by decide +kernel
theorem dX2_init_116 : decode cX2_init 116 = .ok (.new 15, 3) := by decide +kernel
theorem dX2_init_119 : decode cX2_init 119 = .ok (.dup, 1) := by decide +kernel
theorem dX2_init_120 : decode cX2_init 120 = .ok (.iload_n 1, 1) := by decide +kernel
theorem dX2_init_121 : decode cX2_init 121 = .ok (.invokespecial 55, 3) := by decide +kernel
theorem dX2_init_124 : decode cX2_init 124 = .ok (.aastore, 1) := by decide +kernel
theorem dX2_init_125 : decode cX2_init 125 = .ok (.iinc 1 1, 3) := by decide +kernel
theorem dX2_init_128 : decode cX2_init 128 = .ok (.goto (-23), 3) := by decide +kernel
theorem dX2_init_131 : decode cX2_init 131 = .ok (.return_, 1) := by decide +kernel
set_option maxRecDepth 20000 in
theorem ggX2_levels_X2_startOver : GoodIn wsX2_levels wsX2_startOver := goodIn_r _ [10, 11, 12, 13, 14, 15, 16, 4, 17, 18, 19, 20, 21, 22, 23, 24, 25, 26, 27, 28, 29, 30, 31, 32, 33, 34, 35, 36, 37, 38, 39, 40, 41, 42, 43, 44, 45, 46, 47, 48, 49, 50, 51, 52, 53, 54, 55, 56, 57, 58, 59, 60, 61, 62, 63, 64, 65, 66, 67, 68, 69, 70, 71, 72, 73, 74, 75, 76] (by decide +kernel) (by decide +kernel)
set_option maxRecDepth 20000 in
theorem gX2_levels_X2_startOver : GoodIn wsX2_levels (wsV RX2 71 RX2 yX2_startOver wsX2_startOver) := goodIn_app (goodIn_of _ (by decide +kernel)) ggX2_levels_X2_startOver
theorem dX2_levels_0 : decode cX2_levels 0 = .ok (.iload_n 1, 1) := by decide +kernel
theorem dX2_levels_1 : decode cX2_levels 1 = .ok (.iconst 1, 1) := by decide +kernel
theorem dX2_levels_2 : decode cX2_levels 2 = .ok (.if_icmp .lt 9, 3) := by decide +kernel
theorem dX2_levels_5 : decode cX2_levels 5 = .ok (.iload_n 1, 1) := by decide +kernel
theorem dX2_levels_6 : decode cX2_levels 6 = .ok (.bipush 6, 2) := by decide +kernel
theorem dX2_levels_8 : decode cX2_levels 8 = .ok (.if_icmp .le 13, 3) := by decide +kernel
theorem dX2_levels_11 : decode cX2_levels 11 = .ok (.new 58, 3) := by decide +kernel
theorem dX2_levels_14 : decode cX2_levels 14 = .ok (.dup, 1) := by decide +kernel
theorem dX2_levels_15 : decode cX2_levels 15 = .ok (.ldc 60, 2) := by decide +kernel
theorem dX2_levels_17 : decode cX2_levels 17 = .ok (.invokespecial 62, 3) := by decide +kernel
theorem dX2_levels_20 : decode cX2_levels 20 = .ok (.athrow, 1) := by decide +kernel
theorem dX2_levels_21 : decode cX2_levels 21 = .ok (.aload_n 0, 1) := by decide +kernel
theorem dX2_levels_22 : decode cX2_levels 22 = .ok (.iload_n 1, 1) := by decide +kernel
theorem dX2_levels_23 : decode cX2_levels 23 = .ok (.putfield 25, 3) := by decide +kernel
theorem dX2_levels_26 : decode cX2_levels 26 = .ok (.iconst 0, 1) := by decide +kernel
theorem dX2_levels_27 : decode cX2_levels 27 = .ok (.istore_n 2, 1) := by decide +kernel
theorem dX2_levels_28 : decode cX2_levels 28 = .ok (.iload_n 2, 1) := by decide +kernel
theorem dX2_levels_29 : decode cX2_levels 29 = .ok (.bipush 6, 2) := by decide +kernel
theorem dX2_levels_31 : decode cX2_levels 31 = .ok (.if_icmp .ge 29, 3) := by decide +kernel
theorem dX2_levels_34 : decode cX2_levels 34 = .ok (.aload_n 0, 1) := by decide +kernel
theorem dX2_levels_35 : decode cX2_levels 35 = .ok (.getfield 11, 3) := by decide +kernel
theorem dX2_levels_38 : decode cX2_levels 38 = .ok (.iload_n 2, 1) := by decide +kernel
theorem dX2_levels_39 : decode cX2_levels 39 = .ok (.aaload, 1) := by decide +kernel
theorem dX2_levels_40 : decode cX2_levels 40 = .ok (.iconst 1, 1) := by decide +kernel
theorem dX2_levels_41 : decode cX2_levels 41 = .ok (.putfield 65, 3) := by decide +kernel
theorem dX2_levels_44 : decode cX2_levels 44 = .ok (.aload_n 0, 1) := by decide +kernel
theorem dX2_levels_45 : decode cX2_levels 45 = .ok (.getfield 11, 3) := by decide +kernel
theorem dX2_levels_48 : decode cX2_levels 48 = .ok (.iload_n 2, 1) := by decide +kernel
theorem dX2_levels_49 : decode cX2_levels 49 = .ok (.aaload, 1) := by decide +kernel
theorem dX2_levels_50 : decode cX2_levels 50 = .ok (.iconst 1, 1) := by decide +kernel
theorem dX2_levels_51 : decode cX2_levels 51 = .ok (.putfield 68, 3) := by decide +kernel
theorem dX2_levels_54 : decode cX2_levels 54 = .ok (.iinc 2 1, 3) := by decide +kernel
theorem dX2_levels_57 : decode cX2_levels 57 = .ok (.goto (-29), 3) := by decide +kernel
theorem dX2_levels_60 : decode cX2_levels 60 = .ok (.aload_n 0, 1) := by decide +kernel
theorem dX2_levels_61 : decode cX2_levels 61 = .ok (.iconst 0, 1) := by decide +kernel
theorem dX2_levels_62 : decode cX2_levels 62 = .ok (.putfield 29, 3) := by decide +kernel
theorem dX2_levels_65 : decode cX2_levels 65 = .ok (.aload_n 0, 1) := by decide +kernel
theorem dX2_levels_66 : decode cX2_levels 66 = .ok (.invokevirtual 71, 3) := by decide +kernel
theorem dX2_levels_69 : decode cX2_levels 69 = .ok (.return_, 1) := by decide +kernel
set_option maxRecDepth 20000 in
theorem ggX2_level_X2_isLevel : GoodIn wsX2_level wsX2_isLevel := goodIn_r _ [13, 14, 15, 16, 17, 18, 19, 20, 21, 22, 23, 24, 25, 26] (by decide +kernel) (by decide +kernel)
set_option maxRecDepth 20000 in
theorem gX2_level_X2_isLevel : GoodIn wsX2_level (wsV RX2 74 RX2 yX2_isLevel wsX2_isLevel) := goodIn_app (goodIn_of _ (by decide +kernel)) ggX2_level_X2_isLevel
theorem dX2_level_0 : decode cX2_level 0 = .ok (.aload_n 0, 1) := by decide +kernel
theorem dX2_level_1 : decode cX2_level 1 = .ok (.iload_n 1, 1) := by decide +kernel
theorem dX2_level_2 : decode cX2_level 2 = .ok (.invokevirtual 74, 3) := by decide +kernel
theorem dX2_level_5 : decode cX2_level 5 = .ok (.ifCond .ne 13, 3) := by decide +kernel
theorem dX2_level_8 : decode cX2_level 8 = .ok (.new 78, 3) := by decide +kernel
theorem dX2_level_11 : decode cX2_level 11 = .ok (.dup, 1) := by decide +kernel
theorem dX2_level_12 : decode cX2_level 12 = .ok (.ldc 80, 2) := by decide +kernel
theorem dX2_level_14 : decode cX2_level 14 = .ok (.invokespecial 82, 3) := by decide +kernel
theorem dX2_level_17 : decode cX2_level 17 = .ok (.athrow, 1) := by decide +kernel
theorem dX2_level_18 : decode cX2_level 18 = .ok (.iload_n 2, 1) := by decide +kernel
theorem dX2_level_19 : decode cX2_level 19 = .ok (.iconst 1, 1) := by decide +kernel
theorem dX2_level_20 : decode cX2_level 20 = .ok (.if_icmp .lt 9, 3) := by decide +kernel
theorem dX2_level_23 : decode cX2_level 23 = .ok (.iload_n 2, 1) := by decide +kernel
theorem dX2_level_24 : decode cX2_level 24 = .ok (.bipush 100, 2) := by decide +kernel
theorem dX2_level_26 : decode cX2_level 26 = .ok (.if_icmp .le 13, 3) := by decide +kernel
theorem dX2_level_29 : decode cX2_level 29 = .ok (.new 58, 3) := by decide +kernel
theorem dX2_level_32 : decode cX2_level 32 = .ok (.dup, 1) := by decide +kernel
theorem dX2_level_33 : decode cX2_level 33 = .ok (.ldc 83, 2) := by decide +kernel
theorem dX2_level_35 : decode cX2_level 35 = .ok (.invokespecial 62, 3) := by decide +kernel
theorem dX2_level_38 : decode cX2_level 38 = .ok (.athrow, 1) := by decide +kernel
theorem dX2_level_39 : decode cX2_level 39 = .ok (.iload_n 3, 1) := by decide +kernel
theorem dX2_level_40 : decode cX2_level 40 = .ok (.iconst 1, 1) := by decide +kernel
theorem dX2_level_41 : decode cX2_level 41 = .ok (.if_icmp .lt 10, 3) := by decide +kernel
theorem dX2_level_44 : decode cX2_level 44 = .ok (.iload_n 3, 1) := by decide +kernel
theorem dX2_level_45 : decode cX2_level 45 = .ok (.sipush 1000, 3) := by decide +kernel
theorem dX2_level_48 : decode cX2_level 48 = .ok (.if_icmp .le 13, 3) := by decide +kernel
theorem dX2_level_51 : decode cX2_level 51 = .ok (.new 58, 3) := by decide +kernel
theorem dX2_level_54 : decode cX2_level 54 = .ok (.dup, 1) := by decide +kernel
theorem dX2_level_55 : decode cX2_level 55 = .ok (.ldc 85, 2) := by decide +kernel
theorem dX2_level_57 : decode cX2_level 57 = .ok (.invokespecial 62, 3) := by decide +kernel
theorem dX2_level_60 : decode cX2_level 60 = .ok (.athrow, 1) := by decide +kernel
theorem dX2_level_61 : decode cX2_level 61 = .ok (.aload_n 0, 1) := by decide +kernel
theorem dX2_level_62 : decode cX2_level 62 = .ok (.getfield 35, 3) := by decide +kernel
theorem dX2_level_65 : decode cX2_level 65 = .ok (.ifCond .eq 13, 3) := by decide +kernel
theorem dX2_level_68 : decode cX2_level 68 = .ok (.new 87, 3) := by decide +kernel
theorem dX2_level_71 : decode cX2_level 71 = .ok (.dup, 1) := by decide +kernel
theorem dX2_level_72 : decode cX2_level 72 = .ok (.ldc 89, 2) := by decide +kernel
theorem dX2_level_74 : decode cX2_level 74 = .ok (.invokespecial 91, 3) := by decide +kernel
theorem dX2_level_77 : decode cX2_level 77 = .ok (.athrow, 1) := by decide +kernel
theorem dX2_level_78 : decode cX2_level 78 = .ok (.aload_n 0, 1) := by decide +kernel
theorem dX2_level_79 : decode cX2_level 79 = .ok (.getfield 11, 3) := by decide +kernel
theorem dX2_level_82 : decode cX2_level 82 = .ok (.iload_n 1, 1) := by decide +kernel
theorem dX2_level_83 : decode cX2_level 83 = .ok (.aaload, 1) := by decide +kernel
theorem dX2_level_84 : decode cX2_level 84 = .ok (.iload_n 2, 1) := by decide +kernel
theorem dX2_level_85 : decode cX2_level 85 = .ok (.putfield 65, 3) := by decide +kernel
theorem dX2_level_88 : decode cX2_level 88 = .ok (.aload_n 0, 1) := by decide +kernel
theorem dX2_level_89 : decode cX2_level 89 = .ok (.getfield 11, 3) := by decide +kernel
theorem dX2_level_92 : decode cX2_level 92 = .ok (.iload_n 1, 1) := by decide +kernel
theorem dX2_level_93 : decode cX2_level 93 = .ok (.aaload, 1) := by decide +kernel
theorem dX2_level_94 : decode cX2_level 94 = .ok (.iload_n 3, 1) := by decide +kernel
theorem dX2_level_95 : decode cX2_level 95 = .ok (.putfield 68, 3) := by decide +kernel
theorem dX2_level_98 : decode cX2_level 98 = .ok (.return_, 1) := by decide +kernel
theorem dX2_period_0 : decode cX2_period 0 = .ok (.iload_n 1, 1) := by decide +kernel
theorem dX2_period_1 : decode cX2_period 1 = .ok (.ifCond .lt 10, 3) := by decide +kernel
theorem dX2_period_4 : decode cX2_period 4 = .ok (.iload_n 1, 1) := by decide +kernel
theorem dX2_period_5 : decode cX2_period 5 = .ok (.sipush 10000, 3) := by decide +kernel
theorem dX2_period_8 : decode cX2_period 8 = .ok (.if_icmp .le 13, 3) := by decide +kernel
theorem dX2_period_11 : decode cX2_period 11 = .ok (.new 58, 3) := by decide +kernel
theorem dX2_period_14 : decode cX2_period 14 = .ok (.dup, 1) := by decide +kernel
theorem dX2_period_15 : decode cX2_period 15 = .ok (.ldc 92, 2) := by decide +kernel
theorem dX2_period_17 : decode cX2_period 17 = .ok (.invokespecial 62, 3) := by decide +kernel
theorem dX2_period_20 : decode cX2_period 20 = .ok (.athrow, 1) := by decide +kernel
theorem dX2_period_21 : decode cX2_period 21 = .ok (.aload_n 0, 1) := by decide +kernel
theorem dX2_period_22 : decode cX2_period 22 = .ok (.getfield 35, 3) := by decide +kernel
theorem dX2_period_25 : decode cX2_period 25 = .ok (.ifCond .eq 13, 3) := by decide +kernel
theorem dX2_period_28 : decode cX2_period 28 = .ok (.new 87, 3) := by decide +kernel
theorem dX2_period_31 : decode cX2_period 31 = .ok (.dup, 1) := by decide +kernel
theorem dX2_period_32 : decode cX2_period 32 = .ok (.ldc 89, 2) := by decide +kernel
theorem dX2_period_34 : decode cX2_period 34 = .ok (.invokespecial 91, 3) := by decide +kernel
theorem dX2_period_37 : decode cX2_period 37 = .ok (.athrow, 1) := by decide +kernel
theorem dX2_period_38 : decode cX2_period 38 = .ok (.aload_n 0, 1) := by decide +kernel
theorem dX2_period_39 : decode cX2_period 39 = .ok (.iload_n 1, 1) := by decide +kernel
theorem dX2_period_40 : decode cX2_period 40 = .ok (.putfield 32, 3) := by decide +kernel
theorem dX2_period_43 : decode cX2_period 43 = .ok (.return_, 1) := by decide +kernel
set_option maxRecDepth 20000 in
theorem ggX2_process_X1_tellArrival : GoodIn wsX2_process wsX1_tellArrival := goodIn_r _ [11, 12, 13, 26, 27, 28, 29, 30, 31, 32, 33, 34, 35, 36, 37, 38, 39, 40, 41, 42, 43, 44] (by decide +kernel) (by decide +kernel)
set_option maxRecDepth 20000 in
theorem gX2_process_X1_tellArrival_n96 : GoodIn wsX2_process (wsX1_tellArrival) := ggX2_process_X1_tellArrival
theorem dX2_process_0 : decode cX2_process 0 = .ok (.iload_n 1, 1) := by decide +kernel
theorem dX2_process_1 : decode cX2_process 1 = .ok (.ifCond .lt 10, 3) := by decide +kernel
theorem dX2_process_4 : decode cX2_process 4 = .ok (.iload_n 1, 1) := by decide +kernel
theorem dX2_process_5 : decode cX2_process 5 = .ok (.sipush 20000, 3) := by decide +kernel
theorem dX2_process_8 : decode cX2_process 8 = .ok (.if_icmp .le 13, 3) := by decide +kernel
theorem dX2_process_11 : decode cX2_process 11 = .ok (.new 58, 3) := by decide +kernel
theorem dX2_process_14 : decode cX2_process 14 = .ok (.dup, 1) := by decide +kernel
theorem dX2_process_15 : decode cX2_process 15 = .ok (.ldc 94, 2) := by decide +kernel
theorem dX2_process_17 : decode cX2_process 17 = .ok (.invokespecial 62, 3) := by decide +kernel
theorem dX2_process_20 : decode cX2_process 20 = .ok (.athrow, 1) := by decide +kernel
theorem dX2_process_21 : decode cX2_process 21 = .ok (.aload_n 0, 1) := by decide +kernel
theorem dX2_process_22 : decode cX2_process 22 = .ok (.getfield 35, 3) := by decide +kernel
theorem dX2_process_25 : decode cX2_process 25 = .ok (.ifCond .eq 13, 3) := by decide +kernel
theorem dX2_process_28 : decode cX2_process 28 = .ok (.new 87, 3) := by decide +kernel
theorem dX2_process_31 : decode cX2_process 31 = .ok (.dup, 1) := by decide +kernel
theorem dX2_process_32 : decode cX2_process 32 = .ok (.ldc 89, 2) := by decide +kernel
theorem dX2_process_34 : decode cX2_process 34 = .ok (.invokespecial 91, 3) := by decide +kernel
theorem dX2_process_37 : decode cX2_process 37 = .ok (.athrow, 1) := by decide +kernel
theorem dX2_process_38 : decode cX2_process 38 = .ok (.aload_n 0, 1) := by decide +kernel
theorem dX2_process_39 : decode cX2_process 39 = .ok (.getfield 29, 3) := by decide +kernel
theorem dX2_process_42 : decode cX2_process 42 = .ok (.bipush 16, 2) := by decide +kernel
theorem dX2_process_44 : decode cX2_process 44 = .ok (.if_icmp .lt 5, 3) := by decide +kernel
theorem dX2_process_47 : decode cX2_process 47 = .ok (.iconst (-1), 1) := by decide +kernel
theorem dX2_process_48 : decode cX2_process 48 = .ok (.ireturn, 1) := by decide +kernel
theorem dX2_process_49 : decode cX2_process 49 = .ok (.aload_n 0, 1) := by decide +kernel
theorem dX2_process_50 : decode cX2_process 50 = .ok (.getfield 17, 3) := by decide +kernel
theorem dX2_process_53 : decode cX2_process 53 = .ok (.aload_n 0, 1) := by decide +kernel
theorem dX2_process_54 : decode cX2_process 54 = .ok (.getfield 29, 3) := by decide +kernel
theorem dX2_process_57 : decode cX2_process 57 = .ok (.aaload, 1) := by decide +kernel
theorem dX2_process_58 : decode cX2_process 58 = .ok (.iload_n 1, 1) := by decide +kernel
theorem dX2_process_59 : decode cX2_process 59 = .ok (.invokevirtual 96, 3) := by decide +kernel
theorem dX2_process_62 : decode cX2_process 62 = .ok (.aload_n 0, 1) := by decide +kernel
theorem dX2_process_63 : decode cX2_process 63 = .ok (.dup, 1) := by decide +kernel
theorem dX2_process_64 : decode cX2_process 64 = .ok (.getfield 29, 3) := by decide +kernel
theorem dX2_process_67 : decode cX2_process 67 = .ok (.iconst 1, 1) := by decide +kernel
theorem dX2_process_68 : decode cX2_process 68 = .ok (.iadd, 1) := by decide +kernel
theorem dX2_process_69 : decode cX2_process 69 = .ok (.putfield 29, 3) := by decide +kernel
theorem dX2_process_72 : decode cX2_process 72 = .ok (.aload_n 0, 1) := by decide +kernel
theorem dX2_process_73 : decode cX2_process 73 = .ok (.getfield 29, 3) := by decide +kernel
theorem dX2_process_76 : decode cX2_process 76 = .ok (.iconst 1, 1) := by decide +kernel
theorem dX2_process_77 : decode cX2_process 77 = .ok (.isub, 1) := by decide +kernel
theorem dX2_process_78 : decode cX2_process 78 = .ok (.ireturn, 1) := by decide +kernel
set_option maxRecDepth 20000 in
theorem ggX2_burst_X2_isTask : GoodIn wsX2_burst wsX2_isTask := goodIn_r _ [13, 14, 21, 22, 23, 24, 25, 26, 27, 28, 29, 30, 31, 32] (by decide +kernel) (by decide +kernel)
set_option maxRecDepth 20000 in
theorem gX2_burst_X2_isTask : GoodIn wsX2_burst (wsV RX2 99 RX2 yX2_isTask wsX2_isTask) := goodIn_app (goodIn_of _ (by decide +kernel)) ggX2_burst_X2_isTask
set_option maxRecDepth 20000 in
theorem ggX2_burst_X1_tellBurst : GoodIn wsX2_burst wsX1_tellBurst := goodIn_r _ [18, 19, 20, 33, 34, 35, 36, 37, 38, 39, 40, 41, 42, 43, 44, 45, 46, 47, 48, 49, 50, 51] (by decide +kernel) (by decide +kernel)
set_option maxRecDepth 20000 in
theorem gX2_burst_X1_tellBurst_n106 : GoodIn wsX2_burst (wsX1_tellBurst) := ggX2_burst_X1_tellBurst
theorem dX2_burst_0 : decode cX2_burst 0 = .ok (.aload_n 0, 1) := by decide +kernel
theorem dX2_burst_1 : decode cX2_burst 1 = .ok (.iload_n 1, 1) := by decide +kernel
theorem dX2_burst_2 : decode cX2_burst 2 = .ok (.invokevirtual 99, 3) := by decide +kernel
theorem dX2_burst_5 : decode cX2_burst 5 = .ok (.ifCond .ne 13, 3) := by decide +kernel
theorem dX2_burst_8 : decode cX2_burst 8 = .ok (.new 78, 3) := by decide +kernel
theorem dX2_burst_11 : decode cX2_burst 11 = .ok (.dup, 1) := by decide +kernel
theorem dX2_burst_12 : decode cX2_burst 12 = .ok (.ldc 102, 2) := by decide +kernel
theorem dX2_burst_14 : decode cX2_burst 14 = .ok (.invokespecial 82, 3) := by decide +kernel
theorem dX2_burst_17 : decode cX2_burst 17 = .ok (.athrow, 1) := by decide +kernel
theorem dX2_burst_18 : decode cX2_burst 18 = .ok (.iload_n 2, 1) := by decide +kernel
theorem dX2_burst_19 : decode cX2_burst 19 = .ok (.iconst 1, 1) := by decide +kernel
theorem dX2_burst_20 : decode cX2_burst 20 = .ok (.if_icmp .lt 10, 3) := by decide +kernel
theorem dX2_burst_23 : decode cX2_burst 23 = .ok (.iload_n 2, 1) := by decide +kernel
theorem dX2_burst_24 : decode cX2_burst 24 = .ok (.sipush 5000, 3) := by decide +kernel
theorem dX2_burst_27 : decode cX2_burst 27 = .ok (.if_icmp .le 13, 3) := by decide +kernel
theorem dX2_burst_30 : decode cX2_burst 30 = .ok (.new 58, 3) := by decide +kernel
theorem dX2_burst_33 : decode cX2_burst 33 = .ok (.dup, 1) := by decide +kernel
theorem dX2_burst_34 : decode cX2_burst 34 = .ok (.ldc 104, 2) := by decide +kernel
theorem dX2_burst_36 : decode cX2_burst 36 = .ok (.invokespecial 62, 3) := by decide +kernel
theorem dX2_burst_39 : decode cX2_burst 39 = .ok (.athrow, 1) := by decide +kernel
theorem dX2_burst_40 : decode cX2_burst 40 = .ok (.aload_n 0, 1) := by decide +kernel
theorem dX2_burst_41 : decode cX2_burst 41 = .ok (.getfield 35, 3) := by decide +kernel
theorem dX2_burst_44 : decode cX2_burst 44 = .ok (.ifCond .eq 13, 3) := by decide +kernel
theorem dX2_burst_47 : decode cX2_burst 47 = .ok (.new 87, 3) := by decide +kernel
theorem dX2_burst_50 : decode cX2_burst 50 = .ok (.dup, 1) := by decide +kernel
theorem dX2_burst_51 : decode cX2_burst 51 = .ok (.ldc 89, 2) := by decide +kernel
theorem dX2_burst_53 : decode cX2_burst 53 = .ok (.invokespecial 91, 3) := by decide +kernel
theorem dX2_burst_56 : decode cX2_burst 56 = .ok (.athrow, 1) := by decide +kernel
theorem dX2_burst_57 : decode cX2_burst 57 = .ok (.aload_n 0, 1) := by decide +kernel
theorem dX2_burst_58 : decode cX2_burst 58 = .ok (.getfield 17, 3) := by decide +kernel
theorem dX2_burst_61 : decode cX2_burst 61 = .ok (.iload_n 1, 1) := by decide +kernel
theorem dX2_burst_62 : decode cX2_burst 62 = .ok (.aaload, 1) := by decide +kernel
theorem dX2_burst_63 : decode cX2_burst 63 = .ok (.iload_n 2, 1) := by decide +kernel
theorem dX2_burst_64 : decode cX2_burst 64 = .ok (.invokevirtual 106, 3) := by decide +kernel
theorem dX2_burst_67 : decode cX2_burst 67 = .ok (.ireturn, 1) := by decide +kernel
set_option maxRecDepth 20000 in
theorem ggX2_run_X2_doTick : GoodIn wsX2_run wsX2_doTick := goodIn_r _ [10, 11, 3, 12, 5, 13, 14, 15, 9, 16, 17, 18, 19, 20, 21, 22, 23, 24, 25, 26, 27, 28, 29, 30, 31, 32, 33, 34, 35, 36, 37, 38, 39, 40, 41, 42, 43, 44, 45, 46, 47, 48, 49, 50, 51, 52, 53, 54, 55, 56, 57, 58, 59, 60, 61, 62, 63, 64, 65, 66, 67, 68, 69, 70, 71, 72, 73, 74, 75, 76, 77, 78, 79, 80, 81, 82, 83, 84, 85, 86, 87, 88, 89, 90, 91, 92, 93, 94, 95, 96, 97, 98, 99, 100, 101, 102, 103, 104, 105, 106, 107, 108, 109, 110, 111, 112, 113, 114, 115, 116, 117, 118, 119, 120, 121, 122, 123, 124, 125, 126, 127, 128, 129, 130, 131, 132, 133, 134, 135, 136, 137, 138, 139, 140, 141, 142, 143, 144, 145, 146, 147, 148, 149, 150, 151, 152, 153, 154, 155, 156, 157, 158, 159] (by decide +kernel) (by decide +kernel)
set_option maxRecDepth 20000 in
theorem gX2_run_X2_doTick : GoodIn wsX2_run (wsV RX2 115 RX2 yX2_doTick wsX2_doTick) := goodIn_app (goodIn_of _ (by decide +kernel)) ggX2_run_X2_doTick
theorem dX2_run_0 : decode cX2_run 0 = .ok (.iload_n 1, 1) := by decide +kernel
theorem dX2_run_1 : decode cX2_run 1 = .ok (.ifCond .lt 10, 3) := by decide +kernel
theorem dX2_run_4 : decode cX2_run 4 = .ok (.iload_n 1, 1) := by decide +kernel
theorem dX2_run_5 : decode cX2_run 5 = .ok (.sipush 30000, 3) := by decide +kernel
theorem dX2_run_8 : decode cX2_run 8 = .ok (.if_icmp .le 13, 3) := by decide +kernel
theorem dX2_run_11 : decode cX2_run 11 = .ok (.new 58, 3) := by decide +kernel
theorem dX2_run_14 : decode cX2_run 14 = .ok (.dup, 1) := by decide +kernel
theorem dX2_run_15 : decode cX2_run 15 = .ok (.ldc 110, 2) := by decide +kernel
theorem dX2_run_17 : decode cX2_run 17 = .ok (.invokespecial 62, 3) := by decide +kernel
theorem dX2_run_20 : decode cX2_run 20 = .ok (.athrow, 1) := by decide +kernel
theorem dX2_run_21 : decode cX2_run 21 = .ok (.aload_n 0, 1) := by decide +kernel
theorem dX2_run_22 : decode cX2_run 22 = .ok (.getfield 35, 3) := by decide +kernel
theorem dX2_run_25 : decode cX2_run 25 = .ok (.iload_n 1, 1) := by decide +kernel
theorem dX2_run_26 : decode cX2_run 26 = .ok (.iadd, 1) := by decide +kernel
theorem dX2_run_27 : decode cX2_run 27 = .ok (.ldc 112, 2) := by decide +kernel
theorem dX2_run_29 : decode cX2_run 29 = .ok (.if_icmp .le 13, 3) := by decide +kernel
theorem dX2_run_32 : decode cX2_run 32 = .ok (.new 58, 3) := by decide +kernel
theorem dX2_run_35 : decode cX2_run 35 = .ok (.dup, 1) := by decide +kernel
theorem dX2_run_36 : decode cX2_run 36 = .ok (.ldc 113, 2) := by decide +kernel
theorem dX2_run_38 : decode cX2_run 38 = .ok (.invokespecial 62, 3) := by decide +kernel
theorem dX2_run_41 : decode cX2_run 41 = .ok (.athrow, 1) := by decide +kernel
theorem dX2_run_42 : decode cX2_run 42 = .ok (.aload_n 0, 1) := by decide +kernel
theorem dX2_run_43 : decode cX2_run 43 = .ok (.getfield 45, 3) := by decide +kernel
theorem dX2_run_46 : decode cX2_run 46 = .ok (.istore_n 2, 1) := by decide +kernel
theorem dX2_run_47 : decode cX2_run 47 = .ok (.iconst 0, 1) := by decide +kernel
theorem dX2_run_48 : decode cX2_run 48 = .ok (.istore_n 3, 1) := by decide +kernel
theorem dX2_run_49 : decode cX2_run 49 = .ok (.iload_n 3, 1) := by decide +kernel
theorem dX2_run_50 : decode cX2_run 50 = .ok (.iload_n 1, 1) := by decide +kernel
theorem dX2_run_51 : decode cX2_run 51 = .ok (.if_icmp .ge 13, 3) := by decide +kernel
theorem dX2_run_54 : decode cX2_run 54 = .ok (.aload_n 0, 1) := by decide +kernel
theorem dX2_run_55 : decode cX2_run 55 = .ok (.invokevirtual 115, 3) := by decide +kernel
theorem dX2_run_58 : decode cX2_run 58 = .ok (.iinc 3 1, 3) := by decide +kernel
theorem dX2_run_61 : decode cX2_run 61 = .ok (.goto (-12), 3) := by decide +kernel
theorem dX2_run_64 : decode cX2_run 64 = .ok (.aload_n 0, 1) := by decide +kernel
theorem dX2_run_65 : decode cX2_run 65 = .ok (.getfield 45, 3) := by decide +kernel
theorem dX2_run_68 : decode cX2_run 68 = .ok (.iload_n 2, 1) := by decide +kernel
theorem dX2_run_69 : decode cX2_run 69 = .ok (.isub, 1) := by decide +kernel
theorem dX2_run_70 : decode cX2_run 70 = .ok (.ireturn, 1) := by decide +kernel
set_option maxRecDepth 20000 in
theorem ggX2_restart_X2_startOver : GoodIn wsX2_restart wsX2_startOver := goodIn_r _ [5, 6, 7, 8, 9, 10, 11, 12, 13, 14, 15, 16, 17, 18, 19, 20, 21, 22, 23, 24, 25, 26, 27, 28, 29, 30, 31, 32, 33, 34, 35, 36, 37, 38, 39, 40, 41, 42, 43, 44, 45, 46, 47, 48, 49, 50, 51, 52, 53, 54, 55, 56, 57, 58, 59, 60, 61, 62, 63, 64, 65, 66, 67, 68, 69, 70, 71, 72] (by decide +kernel) (by decide +kernel)
set_option maxRecDepth 20000 in
theorem gX2_restart_X2_startOver : GoodIn wsX2_restart (wsV RX2 71 RX2 yX2_startOver wsX2_startOver) := goodIn_app (goodIn_of _ (by decide +kernel)) ggX2_restart_X2_startOver
theorem dX2_restart_0 : decode cX2_restart 0 = .ok (.aload_n 0, 1) := by decide +kernel
theorem dX2_restart_1 : decode cX2_restart 1 = .ok (.invokevirtual 71, 3) := by decide +kernel
theorem dX2_restart_4 : decode cX2_restart 4 = .ok (.return_, 1) := by decide +kernel
theorem dX2_time_0 : decode cX2_time 0 = .ok (.aload_n 0, 1) := by decide +kernel
theorem dX2_time_1 : decode cX2_time 1 = .ok (.getfield 35, 3) := by decide +kernel
theorem dX2_time_4 : decode cX2_time 4 = .ok (.ireturn, 1) := by decide +kernel
set_option maxRecDepth 20000 in
theorem ggX2_told_X2_isTask : GoodIn wsX2_told wsX2_isTask := goodIn_r _ [10, 11, 12, 13, 14, 15, 16, 17, 18, 19, 20, 21, 22, 23] (by decide +kernel) (by decide +kernel)
set_option maxRecDepth 20000 in
theorem gX2_told_X2_isTask : GoodIn wsX2_told (wsV RX2 99 RX2 yX2_isTask wsX2_isTask) := goodIn_app (goodIn_of _ (by decide +kernel)) ggX2_told_X2_isTask
theorem dX2_told_0 : decode cX2_told 0 = .ok (.aload_n 0, 1) := by decide +kernel
theorem dX2_told_1 : decode cX2_told 1 = .ok (.iload_n 1, 1) := by decide +kernel
theorem dX2_told_2 : decode cX2_told 2 = .ok (.invokevirtual 99, 3) := by decide +kernel
theorem dX2_told_5 : decode cX2_told 5 = .ok (.ifCond .ne 13, 3) := by decide +kernel
theorem dX2_told_8 : decode cX2_told 8 = .ok (.new 78, 3) := by decide +kernel
theorem dX2_told_11 : decode cX2_told 11 = .ok (.dup, 1) := by decide +kernel
theorem dX2_told_12 : decode cX2_told 12 = .ok (.ldc 102, 2) := by decide +kernel
theorem dX2_told_14 : decode cX2_told 14 = .ok (.invokespecial 82, 3) := by decide +kernel
theorem dX2_told_17 : decode cX2_told 17 = .ok (.athrow, 1) := by decide +kernel
theorem dX2_told_18 : decode cX2_told 18 = .ok (.aload_n 0, 1) := by decide +kernel
theorem dX2_told_19 : decode cX2_told 19 = .ok (.getfield 17, 3) := by decide +kernel
theorem dX2_told_22 : decode cX2_told 22 = .ok (.iload_n 1, 1) := by decide +kernel
theorem dX2_told_23 : decode cX2_told 23 = .ok (.aaload, 1) := by decide +kernel
theorem dX2_told_24 : decode cX2_told 24 = .ok (.astore_n 3, 1) := by decide +kernel
theorem dX2_told_25 : decode cX2_told 25 = .ok (.iload_n 2, 1) := by decide +kernel
theorem dX2_told_26 : decode cX2_told 26 = .ok (.tableswitch 104 0 9 #[54, 59, 64, 69, 74, 79, 84, 89, 94, 99], 54) := by decide +kernel
theorem dX2_told_80 : decode cX2_told 80 = .ok (.aload_n 3, 1) := by decide +kernel
theorem dX2_told_81 : decode cX2_told 81 = .ok (.getfield 118, 3) := by decide +kernel
theorem dX2_told_84 : decode cX2_told 84 = .ok (.ireturn, 1) := by decide +kernel
theorem dX2_told_85 : decode cX2_told 85 = .ok (.aload_n 3, 1) := by decide +kernel
theorem dX2_told_86 : decode cX2_told 86 = .ok (.getfield 121, 3) := by decide +kernel
theorem dX2_told_89 : decode cX2_told 89 = .ok (.ireturn, 1) := by decide +kernel
theorem dX2_told_90 : decode cX2_told 90 = .ok (.aload_n 3, 1) := by decide +kernel
theorem dX2_told_91 : decode cX2_told 91 = .ok (.getfield 124, 3) := by decide +kernel
theorem dX2_told_94 : decode cX2_told 94 = .ok (.ireturn, 1) := by decide +kernel
theorem dX2_told_95 : decode cX2_told 95 = .ok (.aload_n 3, 1) := by decide +kernel
theorem dX2_told_96 : decode cX2_told 96 = .ok (.getfield 127, 3) := by decide +kernel
theorem dX2_told_99 : decode cX2_told 99 = .ok (.ireturn, 1) := by decide +kernel
theorem dX2_told_100 : decode cX2_told 100 = .ok (.aload_n 3, 1) := by decide +kernel
theorem dX2_told_101 : decode cX2_told 101 = .ok (.getfield 130, 3) := by decide +kernel
theorem dX2_told_104 : decode cX2_told 104 = .ok (.ireturn, 1) := by decide +kernel
theorem dX2_told_105 : decode cX2_told 105 = .ok (.aload_n 3, 1) := by decide +kernel
theorem dX2_told_106 : decode cX2_told 106 = .ok (.getfield 133, 3) := by decide +kernel
theorem dX2_told_109 : decode cX2_told 109 = .ok (.ireturn, 1) := by decide +kernel
theorem dX2_told_110 : decode cX2_told 110 = .ok (.aload_n 3, 1) := by decide +kernel
theorem dX2_told_111 : decode cX2_told 111 = .ok (.getfield 136, 3) := by decide +kernel
theorem dX2_told_114 : decode cX2_told 114 = .ok (.ireturn, 1) := by decide +kernel
theorem dX2_told_115 : decode cX2_told 115 = .ok (.aload_n 3, 1) := by decide +kernel
theorem dX2_told_116 : decode cX2_told 116 = .ok (.getfield 139, 3) := by decide +kernel
theorem dX2_told_119 : decode cX2_told 119 = .ok (.ireturn, 1) := by decide +kernel
theorem dX2_told_120 : decode cX2_told 120 = .ok (.aload_n 3, 1) := by decide +kernel
theorem dX2_told_121 : decode cX2_told 121 = .ok (.getfield 142, 3) := by decide +kernel
theorem dX2_told_124 : decode cX2_told 124 = .ok (.ireturn, 1) := by decide +kernel
theorem dX2_told_125 : decode cX2_told 125 = .ok (.aload_n 3, 1) := by decide +kernel
theorem dX2_told_126 : decode cX2_told 126 = .ok (.getfield 145, 3) := by decide +kernel
theorem dX2_told_129 : decode cX2_told 129 = .ok (.ireturn, 1) := by decide +kernel
theorem dX2_told_130 : decode cX2_told 130 = .ok (.new 58, 3) := by decide +kernel
theorem dX2_told_133 : decode cX2_told 133 = .ok (.dup, 1) := by decide +kernel
theorem dX2_told_134 : decode cX2_told 134 = .ok (.ldc 148, 2) := by decide +kernel
theorem dX2_told_136 : decode cX2_told 136 = .ok (.invokespecial 62, 3) := by decide +kernel
theorem dX2_told_139 : decode cX2_told 139 = .ok (.athrow, 1) := by decide +kernel
theorem dX2_running_0 : decode cX2_running 0 = .ok (.aload_n 0, 1) := by decide +kernel
theorem dX2_running_1 : decode cX2_running 1 = .ok (.getfield 38, 3) := by decide +kernel
theorem dX2_running_4 : decode cX2_running 4 = .ok (.ifnonnull 7, 3) := by decide +kernel
theorem dX2_running_7 : decode cX2_running 7 = .ok (.iconst (-1), 1) := by decide +kernel
theorem dX2_running_8 : decode cX2_running 8 = .ok (.goto 10, 3) := by decide +kernel
theorem dX2_running_11 : decode cX2_running 11 = .ok (.aload_n 0, 1) := by decide +kernel
theorem dX2_running_12 : decode cX2_running 12 = .ok (.getfield 38, 3) := by decide +kernel
theorem dX2_running_15 : decode cX2_running 15 = .ok (.getfield 150, 3) := by decide +kernel
theorem dX2_running_18 : decode cX2_running 18 = .ok (.ireturn, 1) := by decide +kernel
set_option maxRecDepth 20000 in
theorem ggX2_queued_X2_isLevel : GoodIn wsX2_queued wsX2_isLevel := goodIn_r _ [8, 9, 16, 17, 18, 19, 20, 21, 22, 23, 24, 25, 26, 27] (by decide +kernel) (by decide +kernel)
set_option maxRecDepth 20000 in
theorem gX2_queued_X2_isLevel : GoodIn wsX2_queued (wsV RX2 74 RX2 yX2_isLevel wsX2_isLevel) := goodIn_app (goodIn_of _ (by decide +kernel)) ggX2_queued_X2_isLevel
set_option maxRecDepth 20000 in
theorem ggX2_queued_X0_at : GoodIn wsX2_queued wsX0_at := goodIn_r _ [13, 14, 15, 28, 29, 30, 31] (by decide +kernel) (by decide +kernel)
set_option maxRecDepth 20000 in
theorem gX2_queued_X0_at_n153 : GoodIn wsX2_queued (wsX0_at) := ggX2_queued_X0_at
theorem dX2_queued_0 : decode cX2_queued 0 = .ok (.aload_n 0, 1) := by decide +kernel
theorem dX2_queued_1 : decode cX2_queued 1 = .ok (.iload_n 1, 1) := by decide +kernel
theorem dX2_queued_2 : decode cX2_queued 2 = .ok (.invokevirtual 74, 3) := by decide +kernel
theorem dX2_queued_5 : decode cX2_queued 5 = .ok (.ifCond .ne 13, 3) := by decide +kernel
theorem dX2_queued_8 : decode cX2_queued 8 = .ok (.new 78, 3) := by decide +kernel
theorem dX2_queued_11 : decode cX2_queued 11 = .ok (.dup, 1) := by decide +kernel
theorem dX2_queued_12 : decode cX2_queued 12 = .ok (.ldc 80, 2) := by decide +kernel
theorem dX2_queued_14 : decode cX2_queued 14 = .ok (.invokespecial 82, 3) := by decide +kernel
theorem dX2_queued_17 : decode cX2_queued 17 = .ok (.athrow, 1) := by decide +kernel
theorem dX2_queued_18 : decode cX2_queued 18 = .ok (.aload_n 0, 1) := by decide +kernel
theorem dX2_queued_19 : decode cX2_queued 19 = .ok (.getfield 11, 3) := by decide +kernel
theorem dX2_queued_22 : decode cX2_queued 22 = .ok (.iload_n 1, 1) := by decide +kernel
theorem dX2_queued_23 : decode cX2_queued 23 = .ok (.aaload, 1) := by decide +kernel
theorem dX2_queued_24 : decode cX2_queued 24 = .ok (.iload_n 2, 1) := by decide +kernel
theorem dX2_queued_25 : decode cX2_queued 25 = .ok (.invokevirtual 153, 3) := by decide +kernel
theorem dX2_queued_28 : decode cX2_queued 28 = .ok (.ireturn, 1) := by decide +kernel
theorem dX2_all_0 : decode cX2_all 0 = .ok (.iload_n 1, 1) := by decide +kernel
theorem dX2_all_1 : decode cX2_all 1 = .ok (.tableswitch 51 0 3 #[31, 36, 41, 46], 31) := by decide +kernel
theorem dX2_all_32 : decode cX2_all 32 = .ok (.aload_n 0, 1) := by decide +kernel
theorem dX2_all_33 : decode cX2_all 33 = .ok (.getfield 42, 3) := by decide +kernel
theorem dX2_all_36 : decode cX2_all 36 = .ok (.ireturn, 1) := by decide +kernel
theorem dX2_all_37 : decode cX2_all 37 = .ok (.aload_n 0, 1) := by decide +kernel
theorem dX2_all_38 : decode cX2_all 38 = .ok (.getfield 45, 3) := by decide +kernel
theorem dX2_all_41 : decode cX2_all 41 = .ok (.ireturn, 1) := by decide +kernel
theorem dX2_all_42 : decode cX2_all 42 = .ok (.aload_n 0, 1) := by decide +kernel
theorem dX2_all_43 : decode cX2_all 43 = .ok (.getfield 48, 3) := by decide +kernel
theorem dX2_all_46 : decode cX2_all 46 = .ok (.ireturn, 1) := by decide +kernel
theorem dX2_all_47 : decode cX2_all 47 = .ok (.aload_n 0, 1) := by decide +kernel
theorem dX2_all_48 : decode cX2_all 48 = .ok (.getfield 51, 3) := by decide +kernel
theorem dX2_all_51 : decode cX2_all 51 = .ok (.ireturn, 1) := by decide +kernel
theorem dX2_all_52 : decode cX2_all 52 = .ok (.new 58, 3) := by decide +kernel
theorem dX2_all_55 : decode cX2_all 55 = .ok (.dup, 1) := by decide +kernel
theorem dX2_all_56 : decode cX2_all 56 = .ok (.ldc 156, 2) := by decide +kernel
theorem dX2_all_58 : decode cX2_all 58 = .ok (.invokespecial 62, 3) := by decide +kernel
theorem dX2_all_61 : decode cX2_all 61 = .ok (.athrow, 1) := by decide +kernel
theorem dX2_switched_0 : decode cX2_switched 0 = .ok (.iload_n 1, 1) := by decide +kernel
theorem dX2_switched_1 : decode cX2_switched 1 = .ok (.ifCond .lt 18, 3) := by decide +kernel
theorem dX2_switched_4 : decode cX2_switched 4 = .ok (.iload_n 1, 1) := by decide +kernel
theorem dX2_switched_5 : decode cX2_switched 5 = .ok (.aload_n 0, 1) := by decide +kernel
theorem dX2_switched_6 : decode cX2_switched 6 = .ok (.getfield 42, 3) := by decide +kernel
theorem dX2_switched_9 : decode cX2_switched 9 = .ok (.if_icmp .ge 10, 3) := by decide +kernel
theorem dX2_switched_12 : decode cX2_switched 12 = .ok (.iload_n 1, 1) := by decide +kernel
theorem dX2_switched_13 : decode cX2_switched 13 = .ok (.sipush 400, 3) := by decide +kernel
theorem dX2_switched_16 : decode cX2_switched 16 = .ok (.if_icmp .lt 13, 3) := by decide +kernel
theorem dX2_switched_19 : decode cX2_switched 19 = .ok (.new 78, 3) := by decide +kernel
theorem dX2_switched_22 : decode cX2_switched 22 = .ok (.dup, 1) := by decide +kernel
theorem dX2_switched_23 : decode cX2_switched 23 = .ok (.ldc 158, 2) := by decide +kernel
theorem dX2_switched_25 : decode cX2_switched 25 = .ok (.invokespecial 82, 3) := by decide +kernel
theorem dX2_switched_28 : decode cX2_switched 28 = .ok (.athrow, 1) := by decide +kernel
theorem dX2_switched_29 : decode cX2_switched 29 = .ok (.aload_n 0, 1) := by decide +kernel
theorem dX2_switched_30 : decode cX2_switched 30 = .ok (.getfield 21, 3) := by decide +kernel
theorem dX2_switched_33 : decode cX2_switched 33 = .ok (.iload_n 1, 1) := by decide +kernel
theorem dX2_switched_34 : decode cX2_switched 34 = .ok (.iaload, 1) := by decide +kernel
theorem dX2_switched_35 : decode cX2_switched 35 = .ok (.ireturn, 1) := by decide +kernel
theorem dX2_isLevel_0 : decode cX2_isLevel 0 = .ok (.iload_n 1, 1) := by decide +kernel
theorem dX2_isLevel_1 : decode cX2_isLevel 1 = .ok (.ifCond .lt 15, 3) := by decide +kernel
theorem dX2_isLevel_4 : decode cX2_isLevel 4 = .ok (.iload_n 1, 1) := by decide +kernel
theorem dX2_isLevel_5 : decode cX2_isLevel 5 = .ok (.aload_n 0, 1) := by decide +kernel
theorem dX2_isLevel_6 : decode cX2_isLevel 6 = .ok (.getfield 25, 3) := by decide +kernel
theorem dX2_isLevel_9 : decode cX2_isLevel 9 = .ok (.if_icmp .ge 7, 3) := by decide +kernel
theorem dX2_isLevel_12 : decode cX2_isLevel 12 = .ok (.iconst 1, 1) := by decide +kernel
theorem dX2_isLevel_13 : decode cX2_isLevel 13 = .ok (.goto 4, 3) := by decide +kernel
theorem dX2_isLevel_16 : decode cX2_isLevel 16 = .ok (.iconst 0, 1) := by decide +kernel
theorem dX2_isLevel_17 : decode cX2_isLevel 17 = .ok (.ireturn, 1) := by decide +kernel
theorem dX2_isTask_0 : decode cX2_isTask 0 = .ok (.iload_n 1, 1) := by decide +kernel
theorem dX2_isTask_1 : decode cX2_isTask 1 = .ok (.ifCond .lt 15, 3) := by decide +kernel
theorem dX2_isTask_4 : decode cX2_isTask 4 = .ok (.iload_n 1, 1) := by decide +kernel
theorem dX2_isTask_5 : decode cX2_isTask 5 = .ok (.aload_n 0, 1) := by decide +kernel
theorem dX2_isTask_6 : decode cX2_isTask 6 = .ok (.getfield 29, 3) := by decide +kernel
theorem dX2_isTask_9 : decode cX2_isTask 9 = .ok (.if_icmp .ge 7, 3) := by decide +kernel
theorem dX2_isTask_12 : decode cX2_isTask 12 = .ok (.iconst 1, 1) := by decide +kernel
theorem dX2_isTask_13 : decode cX2_isTask 13 = .ok (.goto 4, 3) := by decide +kernel
theorem dX2_isTask_16 : decode cX2_isTask 16 = .ok (.iconst 0, 1) := by decide +kernel
theorem dX2_isTask_17 : decode cX2_isTask 17 = .ok (.ireturn, 1) := by decide +kernel
