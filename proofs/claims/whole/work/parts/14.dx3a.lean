set_option maxRecDepth 20000 in
theorem ggX3_init_X3_set : GoodIn wsX3_init wsX3_set := goodIn_r _ [28, 29, 5, 6, 30, 31, 32, 33, 27, 34, 35, 36, 22, 21, 10, 11, 12, 17, 19, 37, 38, 39, 40, 41, 42, 43, 44, 45, 46, 47, 48, 49, 50, 51, 52, 53, 54, 55, 56, 57, 58, 59, 60] (by decide +kernel) (by decide +kernel)
set_option maxRecDepth 20000 in
theorem gX3_init_X3_set : GoodIn wsX3_init (wsV RX3 65 RX3 yX3_set wsX3_set) := goodIn_app (goodIn_of _ (by decide +kernel)) ggX3_init_X3_set
theorem dX3_init_0 : decode cX3_init 0 = .ok (.aload_n 0, 1) := by decide +kernel
theorem dX3_init_1 : decode cX3_init 1 = .ok (.invokespecial 1, 3) := by decide +kernel
theorem dX3_init_4 : decode cX3_init 4 = .ok (.aload_n 0, 1) := by decide +kernel
theorem dX3_init_5 : decode cX3_init 5 = .ok (.bipush 6, 2) := by decide +kernel
theorem dX3_init_7 : decode cX3_init 7 = .ok (.newarray .int, 2) := by decide +kernel
theorem dX3_init_9 : decode cX3_init 9 = .ok (.putfield 7, 3) := by decide +kernel
theorem dX3_init_12 : decode cX3_init 12 = .ok (.aload_n 0, 1) := by decide +kernel
theorem dX3_init_13 : decode cX3_init 13 = .ok (.bipush 6, 2) := by decide +kernel
theorem dX3_init_15 : decode cX3_init 15 = .ok (.newarray .int, 2) := by decide +kernel
theorem dX3_init_17 : decode cX3_init 17 = .ok (.putfield 13, 3) := by decide +kernel
theorem dX3_init_20 : decode cX3_init 20 = .ok (.aload_n 0, 1) := by decide +kernel
theorem dX3_init_21 : decode cX3_init 21 = .ok (.bipush 16, 2) := by decide +kernel
theorem dX3_init_23 : decode cX3_init 23 = .ok (.newarray .int, 2) := by decide +kernel
theorem dX3_init_25 : decode cX3_init 25 = .ok (.putfield 16, 3) := by decide +kernel
theorem dX3_init_28 : decode cX3_init 28 = .ok (.aload_n 0, 1) := by decide +kernel
theorem dX3_init_29 : decode cX3_init 29 = .ok (.bipush 16, 2) := by decide +kernel
theorem dX3_init_31 : decode cX3_init 31 = .ok (.newarray .int, 2) := by decide +kernel
theorem dX3_init_33 : decode cX3_init 33 = .ok (.putfield 19, 3) := by decide +kernel
theorem dX3_init_36 : decode cX3_init 36 = .ok (.aload_n 0, 1) := by decide +kernel
theorem dX3_init_37 : decode cX3_init 37 = .ok (.sipush 192, 3) := by decide +kernel
theorem dX3_init_40 : decode cX3_init 40 = .ok (.newarray .int, 2) := by decide +kernel
theorem dX3_init_42 : decode cX3_init 42 = .ok (.putfield 22, 3) := by decide +kernel
theorem dX3_init_45 : decode cX3_init 45 = .ok (.aload_n 0, 1) := by decide +kernel
theorem dX3_init_46 : decode cX3_init 46 = .ok (.bipush 16, 2) := by decide +kernel
theorem dX3_init_48 : decode cX3_init 48 = .ok (.newarray .int, 2) := by decide +kernel
theorem dX3_init_50 : decode cX3_init 50 = .ok (.putfield 25, 3) := by decide +kernel
theorem dX3_init_53 : decode cX3_init 53 = .ok (.aload_n 0, 1) := by decide +kernel
theorem dX3_init_54 : decode cX3_init 54 = .ok (.bipush 16, 2) := by decide +kernel
theorem dX3_init_56 : decode cX3_init 56 = .ok (.newarray .int, 2) := by decide +kernel
theorem dX3_init_58 : decode cX3_init 58 = .ok (.putfield 28, 3) := by decide +kernel
theorem dX3_init_61 : decode cX3_init 61 = .ok (.aload_n 0, 1) := by decide +kernel
theorem dX3_init_62 : decode cX3_init 62 = .ok (.bipush 16, 2) := by decide +kernel
theorem dX3_init_64 : decode cX3_init 64 = .ok (.newarray .int, 2) := by decide +kernel
theorem dX3_init_66 : decode cX3_init 66 = .ok (.putfield 31, 3) := by decide +kernel
theorem dX3_init_69 : decode cX3_init 69 = .ok (.aload_n 0, 1) := by decide +kernel
theorem dX3_init_70 : decode cX3_init 70 = .ok (.bipush 16, 2) := by decide +kernel
theorem dX3_init_72 : decode cX3_init 72 = .ok (.newarray .int, 2) := by decide +kernel
theorem dX3_init_74 : decode cX3_init 74 = .ok (.putfield 34, 3) := by decide +kernel
theorem dX3_init_77 : decode cX3_init 77 = .ok (.aload_n 0, 1) := by decide +kernel
theorem dX3_init_78 : decode cX3_init 78 = .ok (.bipush 16, 2) := by decide +kernel
theorem dX3_init_80 : decode cX3_init 80 = .ok (.newarray .int, 2) := by decide +kernel
theorem dX3_init_82 : decode cX3_init 82 = .ok (.putfield 37, 3) := by decide +kernel
theorem dX3_init_85 : decode cX3_init 85 = .ok (.aload_n 0, 1) := by decide +kernel
theorem dX3_init_86 : decode cX3_init 86 = .ok (.bipush 16, 2) := by decide +kernel
theorem dX3_init_88 : decode cX3_init 88 = .ok (.newarray .int, 2) := by decide +kernel
theorem dX3_init_90 : decode cX3_init 90 = .ok (.putfield 40, 3) := by decide +kernel
theorem dX3_init_93 : decode cX3_init 93 = .ok (.aload_n 0, 1) := by decide +kernel
theorem dX3_init_94 : decode cX3_init 94 = .ok (.bipush 16, 2) := by decide +kernel
theorem dX3_init_96 : decode cX3_init 96 = .ok (.newarray .boolean, 2) := by decide +kernel
theorem dX3_init_98 : decode cX3_init 98 = .ok (.putfield 43, 3) := by decide +kernel
theorem dX3_init_101 : decode cX3_init 101 = .ok (.aload_n 0, 1) := by decide +kernel
theorem dX3_init_102 : decode cX3_init 102 = .ok (.bipush 16, 2) := by decide +kernel
theorem dX3_init_104 : decode cX3_init 104 = .ok (.newarray .int, 2) := by decide +kernel
theorem dX3_init_106 : decode cX3_init 106 = .ok (.putfield 47, 3) := by decide +kernel
theorem dX3_init_109 : decode cX3_init 109 = .ok (.aload_n 0, 1) := by decide +kernel
theorem dX3_init_110 : decode cX3_init 110 = .ok (.sipush 160, 3) := by decide +kernel
theorem dX3_init_113 : decode cX3_init 113 = .ok (.newarray .int, 2) := by decide +kernel
theorem dX3_init_115 : decode cX3_init 115 = .ok (.putfield 50, 3) := by decide +kernel
theorem dX3_init_118 : decode cX3_init 118 = .ok (.aload_n 0, 1) := by decide +kernel
theorem dX3_init_119 : decode cX3_init 119 = .ok (.bipush 96, 2) := by decide +kernel
theorem dX3_init_121 : decode cX3_init 121 = .ok (.newarray .int, 2) := by decide +kernel
theorem dX3_init_123 : decode cX3_init 123 = .ok (.putfield 53, 3) := by decide +kernel
theorem dX3_init_126 : decode cX3_init 126 = .ok (.aload_n 0, 1) := by decide +kernel
theorem dX3_init_127 : decode cX3_init 127 = .ok (.bipush 6, 2) := by decide +kernel
theorem dX3_init_129 : decode cX3_init 129 = .ok (.newarray .int, 2) := by decide +kernel
theorem dX3_init_131 : decode cX3_init 131 = .ok (.putfield 56, 3) := by decide +kernel
theorem dX3_init_134 : decode cX3_init 134 = .ok (.aload_n 0, 1) := by decide +kernel
theorem dX3_init_135 : decode cX3_init 135 = .ok (.iconst 4, 1) := by decide +kernel
theorem dX3_init_136 : decode cX3_init 136 = .ok (.newarray .int, 2) := by decide +kernel
theorem dX3_init_138 : decode cX3_init 138 = .ok (.putfield 59, 3) := by decide +kernel
theorem dX3_init_141 : decode cX3_init 141 = .ok (.aload_n 0, 1) := by decide +kernel
theorem dX3_init_142 : decode cX3_init 142 = .ok (.sipush 400, 3) := by decide +kernel
theorem dX3_init_145 : decode cX3_init 145 = .ok (.newarray .int, 2) := by decide +kernel
theorem dX3_init_147 : decode cX3_init 147 = .ok (.putfield 62, 3) := by decide +kernel
theorem dX3_init_150 : decode cX3_init 150 = .ok (.aload_n 0, 1) := by decide +kernel
theorem dX3_init_151 : decode cX3_init 151 = .ok (.iconst 1, 1) := by decide +kernel
theorem dX3_init_152 : decode cX3_init 152 = .ok (.invokevirtual 65, 3) := by decide +kernel
theorem dX3_init_155 : decode cX3_init 155 = .ok (.return_, 1) := by decide +kernel
theorem dX3_thrown_0 : decode cX3_thrown 0 = .ok (.aload_n 0, 1) := by decide +kernel
theorem dX3_thrown_1 : decode cX3_thrown 1 = .ok (.getfield 69, 3) := by decide +kernel
theorem dX3_thrown_4 : decode cX3_thrown 4 = .ok (.ireturn, 1) := by decide +kernel
set_option maxRecDepth 20000 in
theorem ggX3_set_X3_begin : GoodIn wsX3_set wsX3_begin := goodIn_r _ [9, 10, 11, 12, 13, 14, 15, 16, 17, 18, 19, 20, 21, 22, 23, 24, 25, 26, 27, 28, 29, 30, 31, 32, 33, 34, 35, 36, 37, 38, 39, 40, 41, 42] (by decide +kernel) (by decide +kernel)
set_option maxRecDepth 20000 in
theorem gX3_set_X3_begin : GoodIn wsX3_set (wsV RX3 79 RX3 yX3_begin wsX3_begin) := goodIn_app (goodIn_of _ (by decide +kernel)) ggX3_set_X3_begin
theorem dX3_set_0 : decode cX3_set 0 = .ok (.aload_n 0, 1) := by decide +kernel
theorem dX3_set_1 : decode cX3_set 1 = .ok (.iload_n 1, 1) := by decide +kernel
theorem dX3_set_2 : decode cX3_set 2 = .ok (.putfield 73, 3) := by decide +kernel
theorem dX3_set_5 : decode cX3_set 5 = .ok (.iconst 0, 1) := by decide +kernel
theorem dX3_set_6 : decode cX3_set 6 = .ok (.istore_n 2, 1) := by decide +kernel
theorem dX3_set_7 : decode cX3_set 7 = .ok (.iload_n 2, 1) := by decide +kernel
theorem dX3_set_8 : decode cX3_set 8 = .ok (.bipush 6, 2) := by decide +kernel
theorem dX3_set_10 : decode cX3_set 10 = .ok (.if_icmp .ge 23, 3) := by decide +kernel
theorem dX3_set_13 : decode cX3_set 13 = .ok (.aload_n 0, 1) := by decide +kernel
theorem dX3_set_14 : decode cX3_set 14 = .ok (.getfield 7, 3) := by decide +kernel
theorem dX3_set_17 : decode cX3_set 17 = .ok (.iload_n 2, 1) := by decide +kernel
theorem dX3_set_18 : decode cX3_set 18 = .ok (.iconst 1, 1) := by decide +kernel
theorem dX3_set_19 : decode cX3_set 19 = .ok (.iastore, 1) := by decide +kernel
theorem dX3_set_20 : decode cX3_set 20 = .ok (.aload_n 0, 1) := by decide +kernel
theorem dX3_set_21 : decode cX3_set 21 = .ok (.getfield 13, 3) := by decide +kernel
theorem dX3_set_24 : decode cX3_set 24 = .ok (.iload_n 2, 1) := by decide +kernel
theorem dX3_set_25 : decode cX3_set 25 = .ok (.iconst 1, 1) := by decide +kernel
theorem dX3_set_26 : decode cX3_set 26 = .ok (.iastore, 1) := by decide +kernel
theorem dX3_set_27 : decode cX3_set 27 = .ok (.iinc 2 1, 3) := by decide +kernel
theorem dX3_set_30 : decode cX3_set 30 = .ok (.goto (-23), 3) := by decide +kernel
theorem dX3_set_33 : decode cX3_set 33 = .ok (.aload_n 0, 1) := by decide +kernel
theorem dX3_set_34 : decode cX3_set 34 = .ok (.iconst 0, 1) := by decide +kernel
theorem dX3_set_35 : decode cX3_set 35 = .ok (.putfield 76, 3) := by decide +kernel
theorem dX3_set_38 : decode cX3_set 38 = .ok (.aload_n 0, 1) := by decide +kernel
theorem dX3_set_39 : decode cX3_set 39 = .ok (.invokevirtual 79, 3) := by decide +kernel
theorem dX3_set_42 : decode cX3_set 42 = .ok (.return_, 1) := by decide +kernel
theorem dX3_begin_0 : decode cX3_begin 0 = .ok (.aload_n 0, 1) := by decide +kernel
theorem dX3_begin_1 : decode cX3_begin 1 = .ok (.iconst 0, 1) := by decide +kernel
theorem dX3_begin_2 : decode cX3_begin 2 = .ok (.putfield 82, 3) := by decide +kernel
theorem dX3_begin_5 : decode cX3_begin 5 = .ok (.aload_n 0, 1) := by decide +kernel
theorem dX3_begin_6 : decode cX3_begin 6 = .ok (.iconst (-1), 1) := by decide +kernel
theorem dX3_begin_7 : decode cX3_begin 7 = .ok (.putfield 85, 3) := by decide +kernel
theorem dX3_begin_10 : decode cX3_begin 10 = .ok (.iconst 0, 1) := by decide +kernel
theorem dX3_begin_11 : decode cX3_begin 11 = .ok (.istore_n 1, 1) := by decide +kernel
theorem dX3_begin_12 : decode cX3_begin 12 = .ok (.iload_n 1, 1) := by decide +kernel
theorem dX3_begin_13 : decode cX3_begin 13 = .ok (.iconst 4, 1) := by decide +kernel
theorem dX3_begin_14 : decode cX3_begin 14 = .ok (.if_icmp .ge 16, 3) := by decide +kernel
theorem dX3_begin_17 : decode cX3_begin 17 = .ok (.aload_n 0, 1) := by decide +kernel
theorem dX3_begin_18 : decode cX3_begin 18 = .ok (.getfield 59, 3) := by decide +kernel
theorem dX3_begin_21 : decode cX3_begin 21 = .ok (.iload_n 1, 1) := by decide +kernel
theorem dX3_begin_22 : decode cX3_begin 22 = .ok (.iconst 0, 1) := by decide +kernel
theorem dX3_begin_23 : decode cX3_begin 23 = .ok (.iastore, 1) := by decide +kernel
theorem dX3_begin_24 : decode cX3_begin 24 = .ok (.iinc 1 1, 3) := by decide +kernel
theorem dX3_begin_27 : decode cX3_begin 27 = .ok (.goto (-15), 3) := by decide +kernel
theorem dX3_begin_30 : decode cX3_begin 30 = .ok (.iconst 0, 1) := by decide +kernel
theorem dX3_begin_31 : decode cX3_begin 31 = .ok (.istore_n 1, 1) := by decide +kernel
theorem dX3_begin_32 : decode cX3_begin 32 = .ok (.iload_n 1, 1) := by decide +kernel
theorem dX3_begin_33 : decode cX3_begin 33 = .ok (.bipush 6, 2) := by decide +kernel
theorem dX3_begin_35 : decode cX3_begin 35 = .ok (.if_icmp .ge 16, 3) := by decide +kernel
theorem dX3_begin_38 : decode cX3_begin 38 = .ok (.aload_n 0, 1) := by decide +kernel
theorem dX3_begin_39 : decode cX3_begin 39 = .ok (.getfield 56, 3) := by decide +kernel
theorem dX3_begin_42 : decode cX3_begin 42 = .ok (.iload_n 1, 1) := by decide +kernel
theorem dX3_begin_43 : decode cX3_begin 43 = .ok (.iconst 0, 1) := by decide +kernel
theorem dX3_begin_44 : decode cX3_begin 44 = .ok (.iastore, 1) := by decide +kernel
theorem dX3_begin_45 : decode cX3_begin 45 = .ok (.iinc 1 1, 3) := by decide +kernel
theorem dX3_begin_48 : decode cX3_begin 48 = .ok (.goto (-16), 3) := by decide +kernel
theorem dX3_begin_51 : decode cX3_begin 51 = .ok (.iconst 0, 1) := by decide +kernel
theorem dX3_begin_52 : decode cX3_begin 52 = .ok (.istore_n 1, 1) := by decide +kernel
theorem dX3_begin_53 : decode cX3_begin 53 = .ok (.iload_n 1, 1) := by decide +kernel
theorem dX3_begin_54 : decode cX3_begin 54 = .ok (.bipush 16, 2) := by decide +kernel
theorem dX3_begin_56 : decode cX3_begin 56 = .ok (.if_icmp .ge 78, 3) := by decide +kernel
theorem dX3_begin_59 : decode cX3_begin 59 = .ok (.aload_n 0, 1) := by decide +kernel
theorem dX3_begin_60 : decode cX3_begin 60 = .ok (.getfield 25, 3) := by decide +kernel
theorem dX3_begin_63 : decode cX3_begin 63 = .ok (.iload_n 1, 1) := by decide +kernel
theorem dX3_begin_64 : decode cX3_begin 64 = .ok (.iconst 0, 1) := by decide +kernel
theorem dX3_begin_65 : decode cX3_begin 65 = .ok (.iastore, 1) := by decide +kernel
theorem dX3_begin_66 : decode cX3_begin 66 = .ok (.aload_n 0, 1) := by decide +kernel
theorem dX3_begin_67 : decode cX3_begin 67 = .ok (.getfield 28, 3) := by decide +kernel
theorem dX3_begin_70 : decode cX3_begin 70 = .ok (.iload_n 1, 1) := by decide +kernel
theorem dX3_begin_71 : decode cX3_begin 71 = .ok (.iconst 0, 1) := by decide +kernel
theorem dX3_begin_72 : decode cX3_begin 72 = .ok (.iastore, 1) := by decide +kernel
theorem dX3_begin_73 : decode cX3_begin 73 = .ok (.aload_n 0, 1) := by decide +kernel
theorem dX3_begin_74 : decode cX3_begin 74 = .ok (.getfield 31, 3) := by decide +kernel
theorem dX3_begin_77 : decode cX3_begin 77 = .ok (.iload_n 1, 1) := by decide +kernel
theorem dX3_begin_78 : decode cX3_begin 78 = .ok (.iconst 0, 1) := by decide +kernel
theorem dX3_begin_79 : decode cX3_begin 79 = .ok (.iastore, 1) := by decide +kernel
theorem dX3_begin_80 : decode cX3_begin 80 = .ok (.aload_n 0, 1) := by decide +kernel
theorem dX3_begin_81 : decode cX3_begin 81 = .ok (.getfield 43, 3) := by decide +kernel
theorem dX3_begin_84 : decode cX3_begin 84 = .ok (.iload_n 1, 1) := by decide +kernel
theorem dX3_begin_85 : decode cX3_begin 85 = .ok (.iconst 0, 1) := by decide +kernel
theorem dX3_begin_86 : decode cX3_begin 86 = .ok (.bastore, 1) := by decide +kernel
theorem dX3_begin_87 : decode cX3_begin 87 = .ok (.iconst 0, 1) := by decide +kernel
theorem dX3_begin_88 : decode cX3_begin 88 = .ok (.istore_n 2, 1) := by decide +kernel
theorem dX3_begin_89 : decode cX3_begin 89 = .ok (.iload_n 2, 1) := by decide +kernel
theorem dX3_begin_90 : decode cX3_begin 90 = .ok (.bipush 10, 2) := by decide +kernel
theorem dX3_begin_92 : decode cX3_begin 92 = .ok (.if_icmp .ge 36, 3) := by decide +kernel
theorem dX3_begin_95 : decode cX3_begin 95 = .ok (.aload_n 0, 1) := by decide +kernel
theorem dX3_begin_96 : decode cX3_begin 96 = .ok (.getfield 50, 3) := by decide +kernel
theorem dX3_begin_99 : decode cX3_begin 99 = .ok (.bipush 10, 2) := by decide +kernel
theorem dX3_begin_101 : decode cX3_begin 101 = .ok (.iload_n 1, 1) := by decide +kernel
theorem dX3_begin_102 : decode cX3_begin 102 = .ok (.imul, 1) := by decide +kernel
theorem dX3_begin_103 : decode cX3_begin 103 = .ok (.iload_n 2, 1) := by decide +kernel
theorem dX3_begin_104 : decode cX3_begin 104 = .ok (.iadd, 1) := by decide +kernel
theorem dX3_begin_105 : decode cX3_begin 105 = .ok (.iload_n 2, 1) := by decide +kernel
theorem dX3_begin_106 : decode cX3_begin 106 = .ok (.iconst 5, 1) := by decide +kernel
theorem dX3_begin_107 : decode cX3_begin 107 = .ok (.if_icmp .eq 9, 3) := by decide +kernel
theorem dX3_begin_110 : decode cX3_begin 110 = .ok (.iload_n 2, 1) := by decide +kernel
theorem dX3_begin_111 : decode cX3_begin 111 = .ok (.bipush 6, 2) := by decide +kernel
theorem dX3_begin_113 : decode cX3_begin 113 = .ok (.if_icmp .ne 7, 3) := by decide +kernel
theorem dX3_begin_116 : decode cX3_begin 116 = .ok (.iconst (-1), 1) := by decide +kernel
theorem dX3_begin_117 : decode cX3_begin 117 = .ok (.goto 4, 3) := by decide +kernel
theorem dX3_begin_120 : decode cX3_begin 120 = .ok (.iconst 0, 1) := by decide +kernel
theorem dX3_begin_121 : decode cX3_begin 121 = .ok (.iastore, 1) := by decide +kernel
theorem dX3_begin_122 : decode cX3_begin 122 = .ok (.iinc 2 1, 3) := by decide +kernel
theorem dX3_begin_125 : decode cX3_begin 125 = .ok (.goto (-36), 3) := by decide +kernel
theorem dX3_begin_128 : decode cX3_begin 128 = .ok (.iinc 1 1, 3) := by decide +kernel
theorem dX3_begin_131 : decode cX3_begin 131 = .ok (.goto (-78), 3) := by decide +kernel
theorem dX3_begin_134 : decode cX3_begin 134 = .ok (.return_, 1) := by decide +kernel
set_option maxRecDepth 20000 in
theorem ggX3_levels_X3_set : GoodIn wsX3_levels wsX3_set := goodIn_r _ [6, 7, 8, 9, 10, 11, 12, 13, 5, 14, 15, 16, 17, 18, 19, 20, 21, 22, 23, 24, 25, 26, 27, 28, 29, 30, 31, 32, 33, 34, 35, 36, 37, 38, 39, 40, 41, 42, 43, 44, 45, 46, 47] (by decide +kernel) (by decide +kernel)
set_option maxRecDepth 20000 in
theorem gX3_levels_X3_set : GoodIn wsX3_levels (wsV RX3 65 RX3 yX3_set wsX3_set) := goodIn_app (goodIn_of _ (by decide +kernel)) ggX3_levels_X3_set
theorem dX3_levels_0 : decode cX3_levels 0 = .ok (.aload_n 0, 1) := by decide +kernel
theorem dX3_levels_1 : decode cX3_levels 1 = .ok (.iload_n 1, 1) := by decide +kernel
theorem dX3_levels_2 : decode cX3_levels 2 = .ok (.iconst 1, 1) := by decide +kernel
theorem dX3_levels_3 : decode cX3_levels 3 = .ok (.if_icmp .lt 9, 3) := by decide +kernel
theorem dX3_levels_6 : decode cX3_levels 6 = .ok (.iload_n 1, 1) := by decide +kernel
theorem dX3_levels_7 : decode cX3_levels 7 = .ok (.bipush 6, 2) := by decide +kernel
theorem dX3_levels_9 : decode cX3_levels 9 = .ok (.if_icmp .le 7, 3) := by decide +kernel
theorem dX3_levels_12 : decode cX3_levels 12 = .ok (.iconst 1, 1) := by decide +kernel
theorem dX3_levels_13 : decode cX3_levels 13 = .ok (.goto 4, 3) := by decide +kernel
theorem dX3_levels_16 : decode cX3_levels 16 = .ok (.iconst 0, 1) := by decide +kernel
theorem dX3_levels_17 : decode cX3_levels 17 = .ok (.putfield 69, 3) := by decide +kernel
theorem dX3_levels_20 : decode cX3_levels 20 = .ok (.aload_n 0, 1) := by decide +kernel
theorem dX3_levels_21 : decode cX3_levels 21 = .ok (.getfield 69, 3) := by decide +kernel
theorem dX3_levels_24 : decode cX3_levels 24 = .ok (.ifCond .ne 8, 3) := by decide +kernel
theorem dX3_levels_27 : decode cX3_levels 27 = .ok (.aload_n 0, 1) := by decide +kernel
theorem dX3_levels_28 : decode cX3_levels 28 = .ok (.iload_n 1, 1) := by decide +kernel
theorem dX3_levels_29 : decode cX3_levels 29 = .ok (.invokevirtual 65, 3) := by decide +kernel
theorem dX3_levels_32 : decode cX3_levels 32 = .ok (.return_, 1) := by decide +kernel
theorem dX3_level_0 : decode cX3_level 0 = .ok (.aload_n 0, 1) := by decide +kernel
theorem dX3_level_1 : decode cX3_level 1 = .ok (.iload_n 1, 1) := by decide +kernel
theorem dX3_level_2 : decode cX3_level 2 = .ok (.ifCond .lt 11, 3) := by decide +kernel
theorem dX3_level_5 : decode cX3_level 5 = .ok (.iload_n 1, 1) := by decide +kernel
theorem dX3_level_6 : decode cX3_level 6 = .ok (.aload_n 0, 1) := by decide +kernel
theorem dX3_level_7 : decode cX3_level 7 = .ok (.getfield 73, 3) := by decide +kernel
theorem dX3_level_10 : decode cX3_level 10 = .ok (.if_icmp .lt 7, 3) := by decide +kernel
theorem dX3_level_13 : decode cX3_level 13 = .ok (.iconst 1, 1) := by decide +kernel
theorem dX3_level_14 : decode cX3_level 14 = .ok (.goto 42, 3) := by decide +kernel
theorem dX3_level_17 : decode cX3_level 17 = .ok (.iload_n 2, 1) := by decide +kernel
theorem dX3_level_18 : decode cX3_level 18 = .ok (.iconst 1, 1) := by decide +kernel
theorem dX3_level_19 : decode cX3_level 19 = .ok (.if_icmp .lt 21, 3) := by decide +kernel
theorem dX3_level_22 : decode cX3_level 22 = .ok (.iload_n 2, 1) := by decide +kernel
theorem dX3_level_23 : decode cX3_level 23 = .ok (.bipush 100, 2) := by decide +kernel
theorem dX3_level_25 : decode cX3_level 25 = .ok (.if_icmp .gt 15, 3) := by decide +kernel
theorem dX3_level_28 : decode cX3_level 28 = .ok (.iload_n 3, 1) := by decide +kernel
theorem dX3_level_29 : decode cX3_level 29 = .ok (.iconst 1, 1) := by decide +kernel
theorem dX3_level_30 : decode cX3_level 30 = .ok (.if_icmp .lt 10, 3) := by decide +kernel
theorem dX3_level_33 : decode cX3_level 33 = .ok (.iload_n 3, 1) := by decide +kernel
theorem dX3_level_34 : decode cX3_level 34 = .ok (.sipush 1000, 3) := by decide +kernel
theorem dX3_level_37 : decode cX3_level 37 = .ok (.if_icmp .le 7, 3) := by decide +kernel
theorem dX3_level_40 : decode cX3_level 40 = .ok (.iconst 2, 1) := by decide +kernel
theorem dX3_level_41 : decode cX3_level 41 = .ok (.goto 15, 3) := by decide +kernel
theorem dX3_level_44 : decode cX3_level 44 = .ok (.aload_n 0, 1) := by decide +kernel
theorem dX3_level_45 : decode cX3_level 45 = .ok (.getfield 82, 3) := by decide +kernel
theorem dX3_level_48 : decode cX3_level 48 = .ok (.ifCond .le 7, 3) := by decide +kernel
theorem dX3_level_51 : decode cX3_level 51 = .ok (.iconst 3, 1) := by decide +kernel
theorem dX3_level_52 : decode cX3_level 52 = .ok (.goto 4, 3) := by decide +kernel
theorem dX3_level_55 : decode cX3_level 55 = .ok (.iconst 0, 1) := by decide +kernel
theorem dX3_level_56 : decode cX3_level 56 = .ok (.putfield 69, 3) := by decide +kernel
theorem dX3_level_59 : decode cX3_level 59 = .ok (.aload_n 0, 1) := by decide +kernel
theorem dX3_level_60 : decode cX3_level 60 = .ok (.getfield 69, 3) := by decide +kernel
theorem dX3_level_63 : decode cX3_level 63 = .ok (.ifCond .ne 17, 3) := by decide +kernel
theorem dX3_level_66 : decode cX3_level 66 = .ok (.aload_n 0, 1) := by decide +kernel
theorem dX3_level_67 : decode cX3_level 67 = .ok (.getfield 7, 3) := by decide +kernel
theorem dX3_level_70 : decode cX3_level 70 = .ok (.iload_n 1, 1) := by decide +kernel
theorem dX3_level_71 : decode cX3_level 71 = .ok (.iload_n 2, 1) := by decide +kernel
theorem dX3_level_72 : decode cX3_level 72 = .ok (.iastore, 1) := by decide +kernel
theorem dX3_level_73 : decode cX3_level 73 = .ok (.aload_n 0, 1) := by decide +kernel
theorem dX3_level_74 : decode cX3_level 74 = .ok (.getfield 13, 3) := by decide +kernel
theorem dX3_level_77 : decode cX3_level 77 = .ok (.iload_n 1, 1) := by decide +kernel
theorem dX3_level_78 : decode cX3_level 78 = .ok (.iload_n 3, 1) := by decide +kernel
theorem dX3_level_79 : decode cX3_level 79 = .ok (.iastore, 1) := by decide +kernel
theorem dX3_level_80 : decode cX3_level 80 = .ok (.return_, 1) := by decide +kernel
theorem dX3_period_0 : decode cX3_period 0 = .ok (.aload_n 0, 1) := by decide +kernel
theorem dX3_period_1 : decode cX3_period 1 = .ok (.iload_n 1, 1) := by decide +kernel
theorem dX3_period_2 : decode cX3_period 2 = .ok (.ifCond .lt 10, 3) := by decide +kernel
theorem dX3_period_5 : decode cX3_period 5 = .ok (.iload_n 1, 1) := by decide +kernel
theorem dX3_period_6 : decode cX3_period 6 = .ok (.sipush 10000, 3) := by decide +kernel
theorem dX3_period_9 : decode cX3_period 9 = .ok (.if_icmp .le 7, 3) := by decide +kernel
theorem dX3_period_12 : decode cX3_period 12 = .ok (.iconst 1, 1) := by decide +kernel
theorem dX3_period_13 : decode cX3_period 13 = .ok (.goto 15, 3) := by decide +kernel
theorem dX3_period_16 : decode cX3_period 16 = .ok (.aload_n 0, 1) := by decide +kernel
theorem dX3_period_17 : decode cX3_period 17 = .ok (.getfield 82, 3) := by decide +kernel
theorem dX3_period_20 : decode cX3_period 20 = .ok (.ifCond .le 7, 3) := by decide +kernel
theorem dX3_period_23 : decode cX3_period 23 = .ok (.iconst 2, 1) := by decide +kernel
theorem dX3_period_24 : decode cX3_period 24 = .ok (.goto 4, 3) := by decide +kernel
theorem dX3_period_27 : decode cX3_period 27 = .ok (.iconst 0, 1) := by decide +kernel
theorem dX3_period_28 : decode cX3_period 28 = .ok (.putfield 69, 3) := by decide +kernel
theorem dX3_period_31 : decode cX3_period 31 = .ok (.aload_n 0, 1) := by decide +kernel
theorem dX3_period_32 : decode cX3_period 32 = .ok (.getfield 69, 3) := by decide +kernel
theorem dX3_period_35 : decode cX3_period 35 = .ok (.ifCond .ne 8, 3) := by decide +kernel
theorem dX3_period_38 : decode cX3_period 38 = .ok (.aload_n 0, 1) := by decide +kernel
theorem dX3_period_39 : decode cX3_period 39 = .ok (.iload_n 1, 1) := by decide +kernel
theorem dX3_period_40 : decode cX3_period 40 = .ok (.putfield 88, 3) := by decide +kernel
theorem dX3_period_43 : decode cX3_period 43 = .ok (.return_, 1) := by decide +kernel
theorem dX3_process_0 : decode cX3_process 0 = .ok (.aload_n 0, 1) := by decide +kernel
theorem dX3_process_1 : decode cX3_process 1 = .ok (.iload_n 1, 1) := by decide +kernel
theorem dX3_process_2 : decode cX3_process 2 = .ok (.ifCond .lt 10, 3) := by decide +kernel
theorem dX3_process_5 : decode cX3_process 5 = .ok (.iload_n 1, 1) := by decide +kernel
theorem dX3_process_6 : decode cX3_process 6 = .ok (.sipush 20000, 3) := by decide +kernel
theorem dX3_process_9 : decode cX3_process 9 = .ok (.if_icmp .le 7, 3) := by decide +kernel
theorem dX3_process_12 : decode cX3_process 12 = .ok (.iconst 1, 1) := by decide +kernel
theorem dX3_process_13 : decode cX3_process 13 = .ok (.goto 15, 3) := by decide +kernel
theorem dX3_process_16 : decode cX3_process 16 = .ok (.aload_n 0, 1) := by decide +kernel
theorem dX3_process_17 : decode cX3_process 17 = .ok (.getfield 82, 3) := by decide +kernel
theorem dX3_process_20 : decode cX3_process 20 = .ok (.ifCond .le 7, 3) := by decide +kernel
theorem dX3_process_23 : decode cX3_process 23 = .ok (.iconst 2, 1) := by decide +kernel
theorem dX3_process_24 : decode cX3_process 24 = .ok (.goto 4, 3) := by decide +kernel
theorem dX3_process_27 : decode cX3_process 27 = .ok (.iconst 0, 1) := by decide +kernel
theorem dX3_process_28 : decode cX3_process 28 = .ok (.putfield 69, 3) := by decide +kernel
theorem dX3_process_31 : decode cX3_process 31 = .ok (.aload_n 0, 1) := by decide +kernel
theorem dX3_process_32 : decode cX3_process 32 = .ok (.getfield 69, 3) := by decide +kernel
theorem dX3_process_35 : decode cX3_process 35 = .ok (.ifCond .le 5, 3) := by decide +kernel
theorem dX3_process_38 : decode cX3_process 38 = .ok (.iconst 0, 1) := by decide +kernel
theorem dX3_process_39 : decode cX3_process 39 = .ok (.ireturn, 1) := by decide +kernel
theorem dX3_process_40 : decode cX3_process 40 = .ok (.aload_n 0, 1) := by decide +kernel
theorem dX3_process_41 : decode cX3_process 41 = .ok (.getfield 76, 3) := by decide +kernel
theorem dX3_process_44 : decode cX3_process 44 = .ok (.bipush 16, 2) := by decide +kernel
theorem dX3_process_46 : decode cX3_process 46 = .ok (.if_icmp .ne 5, 3) := by decide +kernel
theorem dX3_process_49 : decode cX3_process 49 = .ok (.iconst (-1), 1) := by decide +kernel
theorem dX3_process_50 : decode cX3_process 50 = .ok (.ireturn, 1) := by decide +kernel
theorem dX3_process_51 : decode cX3_process 51 = .ok (.aload_n 0, 1) := by decide +kernel
theorem dX3_process_52 : decode cX3_process 52 = .ok (.getfield 16, 3) := by decide +kernel
theorem dX3_process_55 : decode cX3_process 55 = .ok (.aload_n 0, 1) := by decide +kernel
theorem dX3_process_56 : decode cX3_process 56 = .ok (.getfield 76, 3) := by decide +kernel
theorem dX3_process_59 : decode cX3_process 59 = .ok (.iload_n 1, 1) := by decide +kernel
theorem dX3_process_60 : decode cX3_process 60 = .ok (.iastore, 1) := by decide +kernel
theorem dX3_process_61 : decode cX3_process 61 = .ok (.aload_n 0, 1) := by decide +kernel
theorem dX3_process_62 : decode cX3_process 62 = .ok (.getfield 19, 3) := by decide +kernel
theorem dX3_process_65 : decode cX3_process 65 = .ok (.aload_n 0, 1) := by decide +kernel
theorem dX3_process_66 : decode cX3_process 66 = .ok (.getfield 76, 3) := by decide +kernel
theorem dX3_process_69 : decode cX3_process 69 = .ok (.iconst 0, 1) := by decide +kernel
theorem dX3_process_70 : decode cX3_process 70 = .ok (.iastore, 1) := by decide +kernel
theorem dX3_process_71 : decode cX3_process 71 = .ok (.aload_n 0, 1) := by decide +kernel
theorem dX3_process_72 : decode cX3_process 72 = .ok (.dup, 1) := by decide +kernel
theorem dX3_process_73 : decode cX3_process 73 = .ok (.getfield 76, 3) := by decide +kernel
theorem dX3_process_76 : decode cX3_process 76 = .ok (.iconst 1, 1) := by decide +kernel
theorem dX3_process_77 : decode cX3_process 77 = .ok (.iadd, 1) := by decide +kernel
theorem dX3_process_78 : decode cX3_process 78 = .ok (.putfield 76, 3) := by decide +kernel
theorem dX3_process_81 : decode cX3_process 81 = .ok (.aload_n 0, 1) := by decide +kernel
theorem dX3_process_82 : decode cX3_process 82 = .ok (.getfield 76, 3) := by decide +kernel
theorem dX3_process_85 : decode cX3_process 85 = .ok (.iconst 1, 1) := by decide +kernel
theorem dX3_process_86 : decode cX3_process 86 = .ok (.isub, 1) := by decide +kernel
theorem dX3_process_87 : decode cX3_process 87 = .ok (.ireturn, 1) := by decide +kernel
theorem dX3_noProcess_0 : decode cX3_noProcess 0 = .ok (.iload_n 1, 1) := by decide +kernel
theorem dX3_noProcess_1 : decode cX3_noProcess 1 = .ok (.ifCond .lt 11, 3) := by decide +kernel
theorem dX3_noProcess_4 : decode cX3_noProcess 4 = .ok (.iload_n 1, 1) := by decide +kernel
theorem dX3_noProcess_5 : decode cX3_noProcess 5 = .ok (.aload_n 0, 1) := by decide +kernel
theorem dX3_noProcess_6 : decode cX3_noProcess 6 = .ok (.getfield 76, 3) := by decide +kernel
theorem dX3_noProcess_9 : decode cX3_noProcess 9 = .ok (.if_icmp .lt 7, 3) := by decide +kernel
theorem dX3_noProcess_12 : decode cX3_noProcess 12 = .ok (.iconst 1, 1) := by decide +kernel
theorem dX3_noProcess_13 : decode cX3_noProcess 13 = .ok (.goto 4, 3) := by decide +kernel
theorem dX3_noProcess_16 : decode cX3_noProcess 16 = .ok (.iconst 0, 1) := by decide +kernel
theorem dX3_noProcess_17 : decode cX3_noProcess 17 = .ok (.ireturn, 1) := by decide +kernel
set_option maxRecDepth 20000 in
theorem ggX3_burst_X3_noProcess : GoodIn wsX3_burst wsX3_noProcess := goodIn_r _ [9, 10, 11, 12, 13, 14, 15, 16, 17, 18, 19, 20, 21, 22, 23, 24, 25, 26, 27, 28, 29, 30, 31, 32, 33, 34] (by decide +kernel) (by decide +kernel)
set_option maxRecDepth 20000 in
theorem gX3_burst_X3_noProcess : GoodIn wsX3_burst (wsV RX3 91 RX3 yX3_noProcess wsX3_noProcess) := goodIn_app (goodIn_of _ (by decide +kernel)) ggX3_burst_X3_noProcess
theorem dX3_burst_0 : decode cX3_burst 0 = .ok (.aload_n 0, 1) := by decide +kernel
theorem dX3_burst_1 : decode cX3_burst 1 = .ok (.aload_n 0, 1) := by decide +kernel
theorem dX3_burst_2 : decode cX3_burst 2 = .ok (.iload_n 1, 1) := by decide +kernel
theorem dX3_burst_3 : decode cX3_burst 3 = .ok (.invokevirtual 91, 3) := by decide +kernel
theorem dX3_burst_6 : decode cX3_burst 6 = .ok (.ifCond .eq 7, 3) := by decide +kernel
theorem dX3_burst_9 : decode cX3_burst 9 = .ok (.iconst 1, 1) := by decide +kernel
theorem dX3_burst_10 : decode cX3_burst 10 = .ok (.goto 31, 3) := by decide +kernel
theorem dX3_burst_13 : decode cX3_burst 13 = .ok (.iload_n 2, 1) := by decide +kernel
theorem dX3_burst_14 : decode cX3_burst 14 = .ok (.iconst 1, 1) := by decide +kernel
theorem dX3_burst_15 : decode cX3_burst 15 = .ok (.if_icmp .lt 10, 3) := by decide +kernel
theorem dX3_burst_18 : decode cX3_burst 18 = .ok (.iload_n 2, 1) := by decide +kernel
theorem dX3_burst_19 : decode cX3_burst 19 = .ok (.sipush 5000, 3) := by decide +kernel
theorem dX3_burst_22 : decode cX3_burst 22 = .ok (.if_icmp .le 7, 3) := by decide +kernel
theorem dX3_burst_25 : decode cX3_burst 25 = .ok (.iconst 2, 1) := by decide +kernel
theorem dX3_burst_26 : decode cX3_burst 26 = .ok (.goto 15, 3) := by decide +kernel
theorem dX3_burst_29 : decode cX3_burst 29 = .ok (.aload_n 0, 1) := by decide +kernel
theorem dX3_burst_30 : decode cX3_burst 30 = .ok (.getfield 82, 3) := by decide +kernel
theorem dX3_burst_33 : decode cX3_burst 33 = .ok (.ifCond .le 7, 3) := by decide +kernel
theorem dX3_burst_36 : decode cX3_burst 36 = .ok (.iconst 3, 1) := by decide +kernel
theorem dX3_burst_37 : decode cX3_burst 37 = .ok (.goto 4, 3) := by decide +kernel
theorem dX3_burst_40 : decode cX3_burst 40 = .ok (.iconst 0, 1) := by decide +kernel
theorem dX3_burst_41 : decode cX3_burst 41 = .ok (.putfield 69, 3) := by decide +kernel
theorem dX3_burst_44 : decode cX3_burst 44 = .ok (.aload_n 0, 1) := by decide +kernel
theorem dX3_burst_45 : decode cX3_burst 45 = .ok (.getfield 69, 3) := by decide +kernel
theorem dX3_burst_48 : decode cX3_burst 48 = .ok (.ifCond .le 5, 3) := by decide +kernel
theorem dX3_burst_51 : decode cX3_burst 51 = .ok (.iconst 0, 1) := by decide +kernel
theorem dX3_burst_52 : decode cX3_burst 52 = .ok (.ireturn, 1) := by decide +kernel
theorem dX3_burst_53 : decode cX3_burst 53 = .ok (.aload_n 0, 1) := by decide +kernel
theorem dX3_burst_54 : decode cX3_burst 54 = .ok (.getfield 19, 3) := by decide +kernel
theorem dX3_burst_57 : decode cX3_burst 57 = .ok (.iload_n 1, 1) := by decide +kernel
theorem dX3_burst_58 : decode cX3_burst 58 = .ok (.iaload, 1) := by decide +kernel
theorem dX3_burst_59 : decode cX3_burst 59 = .ok (.bipush 12, 2) := by decide +kernel
theorem dX3_burst_61 : decode cX3_burst 61 = .ok (.if_icmp .ne 5, 3) := by decide +kernel
theorem dX3_burst_64 : decode cX3_burst 64 = .ok (.iconst (-1), 1) := by decide +kernel
theorem dX3_burst_65 : decode cX3_burst 65 = .ok (.ireturn, 1) := by decide +kernel
theorem dX3_burst_66 : decode cX3_burst 66 = .ok (.aload_n 0, 1) := by decide +kernel
theorem dX3_burst_67 : decode cX3_burst 67 = .ok (.getfield 22, 3) := by decide +kernel
theorem dX3_burst_70 : decode cX3_burst 70 = .ok (.bipush 12, 2) := by decide +kernel
theorem dX3_burst_72 : decode cX3_burst 72 = .ok (.iload_n 1, 1) := by decide +kernel
theorem dX3_burst_73 : decode cX3_burst 73 = .ok (.imul, 1) := by decide +kernel
theorem dX3_burst_74 : decode cX3_burst 74 = .ok (.aload_n 0, 1) := by decide +kernel
theorem dX3_burst_75 : decode cX3_burst 75 = .ok (.getfield 19, 3) := by decide +kernel
theorem dX3_burst_78 : decode cX3_burst 78 = .ok (.iload_n 1, 1) := by decide +kernel
theorem dX3_burst_79 : decode cX3_burst 79 = .ok (.iaload, 1) := by decide +kernel
theorem dX3_burst_80 : decode cX3_burst 80 = .ok (.iadd, 1) := by decide +kernel
theorem dX3_burst_81 : decode cX3_burst 81 = .ok (.iload_n 2, 1) := by decide +kernel
theorem dX3_burst_82 : decode cX3_burst 82 = .ok (.iastore, 1) := by decide +kernel
theorem dX3_burst_83 : decode cX3_burst 83 = .ok (.aload_n 0, 1) := by decide +kernel
theorem dX3_burst_84 : decode cX3_burst 84 = .ok (.getfield 19, 3) := by decide +kernel
theorem dX3_burst_87 : decode cX3_burst 87 = .ok (.iload_n 1, 1) := by decide +kernel
theorem dX3_burst_88 : decode cX3_burst 88 = .ok (.dup2, 1) := by decide +kernel
theorem dX3_burst_89 : decode cX3_burst 89 = .ok (.iaload, 1) := by decide +kernel
theorem dX3_burst_90 : decode cX3_burst 90 = .ok (.iconst 1, 1) := by decide +kernel
theorem dX3_burst_91 : decode cX3_burst 91 = .ok (.iadd, 1) := by decide +kernel
theorem dX3_burst_92 : decode cX3_burst 92 = .ok (.iastore, 1) := by decide +kernel
theorem dX3_burst_93 : decode cX3_burst 93 = .ok (.aload_n 0, 1) := by decide +kernel
theorem dX3_burst_94 : decode cX3_burst 94 = .ok (.getfield 19, 3) := by decide +kernel
theorem dX3_burst_97 : decode cX3_burst 97 = .ok (.iload_n 1, 1) := by decide +kernel
theorem dX3_burst_98 : decode cX3_burst 98 = .ok (.iaload, 1) := by decide +kernel
theorem dX3_burst_99 : decode cX3_burst 99 = .ok (.ireturn, 1) := by decide +kernel
theorem dX3_toEnd_0 : decode cX3_toEnd 0 = .ok (.aload_n 0, 1) := by decide +kernel
theorem dX3_toEnd_1 : decode cX3_toEnd 1 = .ok (.getfield 53, 3) := by decide +kernel
theorem dX3_toEnd_4 : decode cX3_toEnd 4 = .ok (.bipush 16, 2) := by decide +kernel
theorem dX3_toEnd_6 : decode cX3_toEnd 6 = .ok (.iload_n 1, 1) := by decide +kernel
theorem dX3_toEnd_7 : decode cX3_toEnd 7 = .ok (.imul, 1) := by decide +kernel
theorem dX3_toEnd_8 : decode cX3_toEnd 8 = .ok (.aload_n 0, 1) := by decide +kernel
theorem dX3_toEnd_9 : decode cX3_toEnd 9 = .ok (.getfield 56, 3) := by decide +kernel
theorem dX3_toEnd_12 : decode cX3_toEnd 12 = .ok (.iload_n 1, 1) := by decide +kernel
theorem dX3_toEnd_13 : decode cX3_toEnd 13 = .ok (.iaload, 1) := by decide +kernel
theorem dX3_toEnd_14 : decode cX3_toEnd 14 = .ok (.iadd, 1) := by decide +kernel
theorem dX3_toEnd_15 : decode cX3_toEnd 15 = .ok (.iload_n 2, 1) := by decide +kernel
theorem dX3_toEnd_16 : decode cX3_toEnd 16 = .ok (.iastore, 1) := by decide +kernel
theorem dX3_toEnd_17 : decode cX3_toEnd 17 = .ok (.aload_n 0, 1) := by decide +kernel
theorem dX3_toEnd_18 : decode cX3_toEnd 18 = .ok (.getfield 56, 3) := by decide +kernel
theorem dX3_toEnd_21 : decode cX3_toEnd 21 = .ok (.iload_n 1, 1) := by decide +kernel
theorem dX3_toEnd_22 : decode cX3_toEnd 22 = .ok (.dup2, 1) := by decide +kernel
theorem dX3_toEnd_23 : decode cX3_toEnd 23 = .ok (.iaload, 1) := by decide +kernel
theorem dX3_toEnd_24 : decode cX3_toEnd 24 = .ok (.iconst 1, 1) := by decide +kernel
theorem dX3_toEnd_25 : decode cX3_toEnd 25 = .ok (.iadd, 1) := by decide +kernel
theorem dX3_toEnd_26 : decode cX3_toEnd 26 = .ok (.iastore, 1) := by decide +kernel
theorem dX3_toEnd_27 : decode cX3_toEnd 27 = .ok (.aload_n 0, 1) := by decide +kernel
theorem dX3_toEnd_28 : decode cX3_toEnd 28 = .ok (.getfield 25, 3) := by decide +kernel
theorem dX3_toEnd_31 : decode cX3_toEnd 31 = .ok (.iload_n 2, 1) := by decide +kernel
theorem dX3_toEnd_32 : decode cX3_toEnd 32 = .ok (.iconst 1, 1) := by decide +kernel
theorem dX3_toEnd_33 : decode cX3_toEnd 33 = .ok (.iastore, 1) := by decide +kernel
theorem dX3_toEnd_34 : decode cX3_toEnd 34 = .ok (.return_, 1) := by decide +kernel
theorem dX3_toFront_0 : decode cX3_toFront 0 = .ok (.aload_n 0, 1) := by decide +kernel
theorem dX3_toFront_1 : decode cX3_toFront 1 = .ok (.getfield 56, 3) := by decide +kernel
theorem dX3_toFront_4 : decode cX3_toFront 4 = .ok (.iload_n 1, 1) := by decide +kernel
theorem dX3_toFront_5 : decode cX3_toFront 5 = .ok (.iaload, 1) := by decide +kernel
theorem dX3_toFront_6 : decode cX3_toFront 6 = .ok (.istore_n 3, 1) := by decide +kernel
theorem dX3_toFront_7 : decode cX3_toFront 7 = .ok (.iload_n 3, 1) := by decide +kernel
theorem dX3_toFront_8 : decode cX3_toFront 8 = .ok (.ifCond .le 33, 3) := by decide +kernel
theorem dX3_toFront_11 : decode cX3_toFront 11 = .ok (.aload_n 0, 1) := by decide +kernel
theorem dX3_toFront_12 : decode cX3_toFront 12 = .ok (.getfield 53, 3) := by decide +kernel
theorem dX3_toFront_15 : decode cX3_toFront 15 = .ok (.bipush 16, 2) := by decide +kernel
theorem dX3_toFront_17 : decode cX3_toFront 17 = .ok (.iload_n 1, 1) := by decide +kernel
theorem dX3_toFront_18 : decode cX3_toFront 18 = .ok (.imul, 1) := by decide +kernel
theorem dX3_toFront_19 : decode cX3_toFront 19 = .ok (.iload_n 3, 1) := by decide +kernel
theorem dX3_toFront_20 : decode cX3_toFront 20 = .ok (.iadd, 1) := by decide +kernel
theorem dX3_toFront_21 : decode cX3_toFront 21 = .ok (.aload_n 0, 1) := by decide +kernel
theorem dX3_toFront_22 : decode cX3_toFront 22 = .ok (.getfield 53, 3) := by decide +kernel
theorem dX3_toFront_25 : decode cX3_toFront 25 = .ok (.bipush 16, 2) := by decide +kernel
theorem dX3_toFront_27 : decode cX3_toFront 27 = .ok (.iload_n 1, 1) := by decide +kernel
theorem dX3_toFront_28 : decode cX3_toFront 28 = .ok (.imul, 1) := by decide +kernel
theorem dX3_toFront_29 : decode cX3_toFront 29 = .ok (.iload_n 3, 1) := by decide +kernel
theorem dX3_toFront_30 : decode cX3_toFront 30 = .ok (.iadd, 1) := by decide +kernel
theorem dX3_toFront_31 : decode cX3_toFront 31 = .ok (.iconst 1, 1) := by decide +kernel
theorem dX3_toFront_32 : decode cX3_toFront 32 = .ok (.isub, 1) := by decide +kernel
theorem dX3_toFront_33 : decode cX3_toFront 33 = .ok (.iaload, 1) := by decide +kernel
theorem dX3_toFront_34 : decode cX3_toFront 34 = .ok (.iastore, 1) := by decide +kernel
theorem dX3_toFront_35 : decode cX3_toFront 35 = .ok (.iinc 3 (-1), 3) := by decide +kernel
theorem dX3_toFront_38 : decode cX3_toFront 38 = .ok (.goto (-31), 3) := by decide +kernel
theorem dX3_toFront_41 : decode cX3_toFront 41 = .ok (.aload_n 0, 1) := by decide +kernel
theorem dX3_toFront_42 : decode cX3_toFront 42 = .ok (.getfield 53, 3) := by decide +kernel
theorem dX3_toFront_45 : decode cX3_toFront 45 = .ok (.bipush 16, 2) := by decide +kernel
theorem dX3_toFront_47 : decode cX3_toFront 47 = .ok (.iload_n 1, 1) := by decide +kernel
theorem dX3_toFront_48 : decode cX3_toFront 48 = .ok (.imul, 1) := by decide +kernel
theorem dX3_toFront_49 : decode cX3_toFront 49 = .ok (.iload_n 2, 1) := by decide +kernel
theorem dX3_toFront_50 : decode cX3_toFront 50 = .ok (.iastore, 1) := by decide +kernel
theorem dX3_toFront_51 : decode cX3_toFront 51 = .ok (.aload_n 0, 1) := by decide +kernel
theorem dX3_toFront_52 : decode cX3_toFront 52 = .ok (.getfield 56, 3) := by decide +kernel
theorem dX3_toFront_55 : decode cX3_toFront 55 = .ok (.iload_n 1, 1) := by decide +kernel
theorem dX3_toFront_56 : decode cX3_toFront 56 = .ok (.dup2, 1) := by decide +kernel
theorem dX3_toFront_57 : decode cX3_toFront 57 = .ok (.iaload, 1) := by decide +kernel
theorem dX3_toFront_58 : decode cX3_toFront 58 = .ok (.iconst 1, 1) := by decide +kernel
theorem dX3_toFront_59 : decode cX3_toFront 59 = .ok (.iadd, 1) := by decide +kernel
theorem dX3_toFront_60 : decode cX3_toFront 60 = .ok (.iastore, 1) := by decide +kernel
theorem dX3_toFront_61 : decode cX3_toFront 61 = .ok (.aload_n 0, 1) := by decide +kernel
theorem dX3_toFront_62 : decode cX3_toFront 62 = .ok (.getfield 25, 3) := by decide +kernel
theorem dX3_toFront_65 : decode cX3_toFront 65 = .ok (.iload_n 2, 1) := by decide +kernel
theorem dX3_toFront_66 : decode cX3_toFront 66 = .ok (.iconst 1, 1) := by decide +kernel
theorem dX3_toFront_67 : decode cX3_toFront 67 = .ok (.iastore, 1) := by decide +kernel
theorem dX3_toFront_68 : decode cX3_toFront 68 = .ok (.return_, 1) := by decide +kernel
