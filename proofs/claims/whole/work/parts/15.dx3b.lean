theorem dX3_takeFirst_0 : decode cX3_takeFirst 0 = .ok (.aload_n 0, 1) := by decide +kernel
theorem dX3_takeFirst_1 : decode cX3_takeFirst 1 = .ok (.getfield 53, 3) := by decide +kernel
theorem dX3_takeFirst_4 : decode cX3_takeFirst 4 = .ok (.bipush 16, 2) := by decide +kernel
theorem dX3_takeFirst_6 : decode cX3_takeFirst 6 = .ok (.iload_n 1, 1) := by decide +kernel
theorem dX3_takeFirst_7 : decode cX3_takeFirst 7 = .ok (.imul, 1) := by decide +kernel
theorem dX3_takeFirst_8 : decode cX3_takeFirst 8 = .ok (.iaload, 1) := by decide +kernel
theorem dX3_takeFirst_9 : decode cX3_takeFirst 9 = .ok (.istore_n 2, 1) := by decide +kernel
theorem dX3_takeFirst_10 : decode cX3_takeFirst 10 = .ok (.aload_n 0, 1) := by decide +kernel
theorem dX3_takeFirst_11 : decode cX3_takeFirst 11 = .ok (.getfield 56, 3) := by decide +kernel
theorem dX3_takeFirst_14 : decode cX3_takeFirst 14 = .ok (.iload_n 1, 1) := by decide +kernel
theorem dX3_takeFirst_15 : decode cX3_takeFirst 15 = .ok (.dup2, 1) := by decide +kernel
theorem dX3_takeFirst_16 : decode cX3_takeFirst 16 = .ok (.iaload, 1) := by decide +kernel
theorem dX3_takeFirst_17 : decode cX3_takeFirst 17 = .ok (.iconst 1, 1) := by decide +kernel
theorem dX3_takeFirst_18 : decode cX3_takeFirst 18 = .ok (.isub, 1) := by decide +kernel
theorem dX3_takeFirst_19 : decode cX3_takeFirst 19 = .ok (.iastore, 1) := by decide +kernel
theorem dX3_takeFirst_20 : decode cX3_takeFirst 20 = .ok (.iconst 0, 1) := by decide +kernel
theorem dX3_takeFirst_21 : decode cX3_takeFirst 21 = .ok (.istore_n 3, 1) := by decide +kernel
theorem dX3_takeFirst_22 : decode cX3_takeFirst 22 = .ok (.iload_n 3, 1) := by decide +kernel
theorem dX3_takeFirst_23 : decode cX3_takeFirst 23 = .ok (.aload_n 0, 1) := by decide +kernel
theorem dX3_takeFirst_24 : decode cX3_takeFirst 24 = .ok (.getfield 56, 3) := by decide +kernel
theorem dX3_takeFirst_27 : decode cX3_takeFirst 27 = .ok (.iload_n 1, 1) := by decide +kernel
theorem dX3_takeFirst_28 : decode cX3_takeFirst 28 = .ok (.iaload, 1) := by decide +kernel
theorem dX3_takeFirst_29 : decode cX3_takeFirst 29 = .ok (.if_icmp .ge 33, 3) := by decide +kernel
theorem dX3_takeFirst_32 : decode cX3_takeFirst 32 = .ok (.aload_n 0, 1) := by decide +kernel
theorem dX3_takeFirst_33 : decode cX3_takeFirst 33 = .ok (.getfield 53, 3) := by decide +kernel
theorem dX3_takeFirst_36 : decode cX3_takeFirst 36 = .ok (.bipush 16, 2) := by decide +kernel
theorem dX3_takeFirst_38 : decode cX3_takeFirst 38 = .ok (.iload_n 1, 1) := by decide +kernel
theorem dX3_takeFirst_39 : decode cX3_takeFirst 39 = .ok (.imul, 1) := by decide +kernel
theorem dX3_takeFirst_40 : decode cX3_takeFirst 40 = .ok (.iload_n 3, 1) := by decide +kernel
theorem dX3_takeFirst_41 : decode cX3_takeFirst 41 = .ok (.iadd, 1) := by decide +kernel
theorem dX3_takeFirst_42 : decode cX3_takeFirst 42 = .ok (.aload_n 0, 1) := by decide +kernel
theorem dX3_takeFirst_43 : decode cX3_takeFirst 43 = .ok (.getfield 53, 3) := by decide +kernel
theorem dX3_takeFirst_46 : decode cX3_takeFirst 46 = .ok (.bipush 16, 2) := by decide +kernel
theorem dX3_takeFirst_48 : decode cX3_takeFirst 48 = .ok (.iload_n 1, 1) := by decide +kernel
theorem dX3_takeFirst_49 : decode cX3_takeFirst 49 = .ok (.imul, 1) := by decide +kernel
theorem dX3_takeFirst_50 : decode cX3_takeFirst 50 = .ok (.iload_n 3, 1) := by decide +kernel
theorem dX3_takeFirst_51 : decode cX3_takeFirst 51 = .ok (.iadd, 1) := by decide +kernel
theorem dX3_takeFirst_52 : decode cX3_takeFirst 52 = .ok (.iconst 1, 1) := by decide +kernel
theorem dX3_takeFirst_53 : decode cX3_takeFirst 53 = .ok (.iadd, 1) := by decide +kernel
theorem dX3_takeFirst_54 : decode cX3_takeFirst 54 = .ok (.iaload, 1) := by decide +kernel
theorem dX3_takeFirst_55 : decode cX3_takeFirst 55 = .ok (.iastore, 1) := by decide +kernel
theorem dX3_takeFirst_56 : decode cX3_takeFirst 56 = .ok (.iinc 3 1, 3) := by decide +kernel
theorem dX3_takeFirst_59 : decode cX3_takeFirst 59 = .ok (.goto (-37), 3) := by decide +kernel
theorem dX3_takeFirst_62 : decode cX3_takeFirst 62 = .ok (.iload_n 2, 1) := by decide +kernel
theorem dX3_takeFirst_63 : decode cX3_takeFirst 63 = .ok (.ireturn, 1) := by decide +kernel
set_option maxRecDepth 20000 in
theorem ggX3_allUp_X3_takeFirst : GoodIn wsX3_allUp wsX3_takeFirst := goodIn_r _ [17, 18, 3, 23, 24, 25, 26, 27, 28, 29, 30, 31, 32, 33, 34, 35, 36, 37, 38, 39, 40, 41, 42, 43, 44, 45, 46] (by decide +kernel) (by decide +kernel)
set_option maxRecDepth 20000 in
theorem gX3_allUp_X3_takeFirst : GoodIn wsX3_allUp (wsV RX3 95 RX3 yX3_takeFirst wsX3_takeFirst) := goodIn_app (goodIn_of _ (by decide +kernel)) ggX3_allUp_X3_takeFirst
set_option maxRecDepth 20000 in
theorem ggX3_allUp_X3_toEnd : GoodIn wsX3_allUp wsX3_toEnd := goodIn_r _ [22, 18, 3, 5, 23, 24, 25, 26, 27, 28, 29, 30, 31, 32, 33, 34, 35, 36, 37, 38, 39, 40, 41, 42, 43, 44, 45, 46] (by decide +kernel) (by decide +kernel)
set_option maxRecDepth 20000 in
theorem gX3_allUp_X3_toEnd : GoodIn wsX3_allUp (wsV RX3 99 RX3 yX3_toEnd wsX3_toEnd) := goodIn_app (goodIn_of _ (by decide +kernel)) ggX3_allUp_X3_toEnd
theorem dX3_allUp_0 : decode cX3_allUp 0 = .ok (.aload_n 0, 1) := by decide +kernel
theorem dX3_allUp_1 : decode cX3_allUp 1 = .ok (.getfield 59, 3) := by decide +kernel
theorem dX3_allUp_4 : decode cX3_allUp 4 = .ok (.iconst 2, 1) := by decide +kernel
theorem dX3_allUp_5 : decode cX3_allUp 5 = .ok (.dup2, 1) := by decide +kernel
theorem dX3_allUp_6 : decode cX3_allUp 6 = .ok (.iaload, 1) := by decide +kernel
theorem dX3_allUp_7 : decode cX3_allUp 7 = .ok (.iconst 1, 1) := by decide +kernel
theorem dX3_allUp_8 : decode cX3_allUp 8 = .ok (.iadd, 1) := by decide +kernel
theorem dX3_allUp_9 : decode cX3_allUp 9 = .ok (.iastore, 1) := by decide +kernel
theorem dX3_allUp_10 : decode cX3_allUp 10 = .ok (.iconst 1, 1) := by decide +kernel
theorem dX3_allUp_11 : decode cX3_allUp 11 = .ok (.istore_n 1, 1) := by decide +kernel
theorem dX3_allUp_12 : decode cX3_allUp 12 = .ok (.iload_n 1, 1) := by decide +kernel
theorem dX3_allUp_13 : decode cX3_allUp 13 = .ok (.aload_n 0, 1) := by decide +kernel
theorem dX3_allUp_14 : decode cX3_allUp 14 = .ok (.getfield 73, 3) := by decide +kernel
theorem dX3_allUp_17 : decode cX3_allUp 17 = .ok (.if_icmp .ge 31, 3) := by decide +kernel
theorem dX3_allUp_20 : decode cX3_allUp 20 = .ok (.aload_n 0, 1) := by decide +kernel
theorem dX3_allUp_21 : decode cX3_allUp 21 = .ok (.getfield 56, 3) := by decide +kernel
theorem dX3_allUp_24 : decode cX3_allUp 24 = .ok (.iload_n 1, 1) := by decide +kernel
theorem dX3_allUp_25 : decode cX3_allUp 25 = .ok (.iaload, 1) := by decide +kernel
theorem dX3_allUp_26 : decode cX3_allUp 26 = .ok (.ifCond .le 16, 3) := by decide +kernel
theorem dX3_allUp_29 : decode cX3_allUp 29 = .ok (.aload_n 0, 1) := by decide +kernel
theorem dX3_allUp_30 : decode cX3_allUp 30 = .ok (.iconst 0, 1) := by decide +kernel
theorem dX3_allUp_31 : decode cX3_allUp 31 = .ok (.aload_n 0, 1) := by decide +kernel
theorem dX3_allUp_32 : decode cX3_allUp 32 = .ok (.iload_n 1, 1) := by decide +kernel
theorem dX3_allUp_33 : decode cX3_allUp 33 = .ok (.invokevirtual 95, 3) := by decide +kernel
theorem dX3_allUp_36 : decode cX3_allUp 36 = .ok (.invokevirtual 99, 3) := by decide +kernel
theorem dX3_allUp_39 : decode cX3_allUp 39 = .ok (.goto (-19), 3) := by decide +kernel
theorem dX3_allUp_42 : decode cX3_allUp 42 = .ok (.iinc 1 1, 3) := by decide +kernel
theorem dX3_allUp_45 : decode cX3_allUp 45 = .ok (.goto (-33), 3) := by decide +kernel
theorem dX3_allUp_48 : decode cX3_allUp 48 = .ok (.iconst 0, 1) := by decide +kernel
theorem dX3_allUp_49 : decode cX3_allUp 49 = .ok (.istore_n 1, 1) := by decide +kernel
theorem dX3_allUp_50 : decode cX3_allUp 50 = .ok (.iload_n 1, 1) := by decide +kernel
theorem dX3_allUp_51 : decode cX3_allUp 51 = .ok (.aload_n 0, 1) := by decide +kernel
theorem dX3_allUp_52 : decode cX3_allUp 52 = .ok (.getfield 76, 3) := by decide +kernel
theorem dX3_allUp_55 : decode cX3_allUp 55 = .ok (.if_icmp .ge 83, 3) := by decide +kernel
theorem dX3_allUp_58 : decode cX3_allUp 58 = .ok (.aload_n 0, 1) := by decide +kernel
theorem dX3_allUp_59 : decode cX3_allUp 59 = .ok (.getfield 25, 3) := by decide +kernel
theorem dX3_allUp_62 : decode cX3_allUp 62 = .ok (.iload_n 1, 1) := by decide +kernel
theorem dX3_allUp_63 : decode cX3_allUp 63 = .ok (.iaload, 1) := by decide +kernel
theorem dX3_allUp_64 : decode cX3_allUp 64 = .ok (.ifCond .eq 68, 3) := by decide +kernel
theorem dX3_allUp_67 : decode cX3_allUp 67 = .ok (.aload_n 0, 1) := by decide +kernel
theorem dX3_allUp_68 : decode cX3_allUp 68 = .ok (.getfield 25, 3) := by decide +kernel
theorem dX3_allUp_71 : decode cX3_allUp 71 = .ok (.iload_n 1, 1) := by decide +kernel
theorem dX3_allUp_72 : decode cX3_allUp 72 = .ok (.iaload, 1) := by decide +kernel
theorem dX3_allUp_73 : decode cX3_allUp 73 = .ok (.iconst 4, 1) := by decide +kernel
theorem dX3_allUp_74 : decode cX3_allUp 74 = .ok (.if_icmp .eq 58, 3) := by decide +kernel
theorem dX3_allUp_77 : decode cX3_allUp 77 = .ok (.aload_n 0, 1) := by decide +kernel
theorem dX3_allUp_78 : decode cX3_allUp 78 = .ok (.getfield 28, 3) := by decide +kernel
theorem dX3_allUp_81 : decode cX3_allUp 81 = .ok (.iload_n 1, 1) := by decide +kernel
theorem dX3_allUp_82 : decode cX3_allUp 82 = .ok (.iconst 0, 1) := by decide +kernel
theorem dX3_allUp_83 : decode cX3_allUp 83 = .ok (.iastore, 1) := by decide +kernel
theorem dX3_allUp_84 : decode cX3_allUp 84 = .ok (.aload_n 0, 1) := by decide +kernel
theorem dX3_allUp_85 : decode cX3_allUp 85 = .ok (.getfield 40, 3) := by decide +kernel
theorem dX3_allUp_88 : decode cX3_allUp 88 = .ok (.iload_n 1, 1) := by decide +kernel
theorem dX3_allUp_89 : decode cX3_allUp 89 = .ok (.aload_n 0, 1) := by decide +kernel
theorem dX3_allUp_90 : decode cX3_allUp 90 = .ok (.getfield 13, 3) := by decide +kernel
theorem dX3_allUp_93 : decode cX3_allUp 93 = .ok (.iconst 0, 1) := by decide +kernel
theorem dX3_allUp_94 : decode cX3_allUp 94 = .ok (.iaload, 1) := by decide +kernel
theorem dX3_allUp_95 : decode cX3_allUp 95 = .ok (.iastore, 1) := by decide +kernel
theorem dX3_allUp_96 : decode cX3_allUp 96 = .ok (.aload_n 0, 1) := by decide +kernel
theorem dX3_allUp_97 : decode cX3_allUp 97 = .ok (.getfield 43, 3) := by decide +kernel
theorem dX3_allUp_100 : decode cX3_allUp 100 = .ok (.iload_n 1, 1) := by decide +kernel
theorem dX3_allUp_101 : decode cX3_allUp 101 = .ok (.baload, 1) := by decide +kernel
theorem dX3_allUp_102 : decode cX3_allUp 102 = .ok (.ifCond .eq 30, 3) := by decide +kernel
theorem dX3_allUp_105 : decode cX3_allUp 105 = .ok (.aload_n 0, 1) := by decide +kernel
theorem dX3_allUp_106 : decode cX3_allUp 106 = .ok (.getfield 37, 3) := by decide +kernel
theorem dX3_allUp_109 : decode cX3_allUp 109 = .ok (.iload_n 1, 1) := by decide +kernel
theorem dX3_allUp_110 : decode cX3_allUp 110 = .ok (.iaload, 1) := by decide +kernel
theorem dX3_allUp_111 : decode cX3_allUp 111 = .ok (.aload_n 0, 1) := by decide +kernel
theorem dX3_allUp_112 : decode cX3_allUp 112 = .ok (.getfield 7, 3) := by decide +kernel
theorem dX3_allUp_115 : decode cX3_allUp 115 = .ok (.iconst 0, 1) := by decide +kernel
theorem dX3_allUp_116 : decode cX3_allUp 116 = .ok (.iaload, 1) := by decide +kernel
theorem dX3_allUp_117 : decode cX3_allUp 117 = .ok (.if_icmp .le 15, 3) := by decide +kernel
theorem dX3_allUp_120 : decode cX3_allUp 120 = .ok (.aload_n 0, 1) := by decide +kernel
theorem dX3_allUp_121 : decode cX3_allUp 121 = .ok (.getfield 37, 3) := by decide +kernel
theorem dX3_allUp_124 : decode cX3_allUp 124 = .ok (.iload_n 1, 1) := by decide +kernel
theorem dX3_allUp_125 : decode cX3_allUp 125 = .ok (.aload_n 0, 1) := by decide +kernel
theorem dX3_allUp_126 : decode cX3_allUp 126 = .ok (.getfield 7, 3) := by decide +kernel
theorem dX3_allUp_129 : decode cX3_allUp 129 = .ok (.iconst 0, 1) := by decide +kernel
theorem dX3_allUp_130 : decode cX3_allUp 130 = .ok (.iaload, 1) := by decide +kernel
theorem dX3_allUp_131 : decode cX3_allUp 131 = .ok (.iastore, 1) := by decide +kernel
theorem dX3_allUp_132 : decode cX3_allUp 132 = .ok (.iinc 1 1, 3) := by decide +kernel
theorem dX3_allUp_135 : decode cX3_allUp 135 = .ok (.goto (-85), 3) := by decide +kernel
theorem dX3_allUp_138 : decode cX3_allUp 138 = .ok (.aload_n 0, 1) := by decide +kernel
theorem dX3_allUp_139 : decode cX3_allUp 139 = .ok (.getfield 85, 3) := by decide +kernel
theorem dX3_allUp_142 : decode cX3_allUp 142 = .ok (.ifCond .lt 18, 3) := by decide +kernel
theorem dX3_allUp_145 : decode cX3_allUp 145 = .ok (.aload_n 0, 1) := by decide +kernel
theorem dX3_allUp_146 : decode cX3_allUp 146 = .ok (.getfield 37, 3) := by decide +kernel
theorem dX3_allUp_149 : decode cX3_allUp 149 = .ok (.aload_n 0, 1) := by decide +kernel
theorem dX3_allUp_150 : decode cX3_allUp 150 = .ok (.getfield 85, 3) := by decide +kernel
theorem dX3_allUp_153 : decode cX3_allUp 153 = .ok (.aload_n 0, 1) := by decide +kernel
theorem dX3_allUp_154 : decode cX3_allUp 154 = .ok (.getfield 7, 3) := by decide +kernel
theorem dX3_allUp_157 : decode cX3_allUp 157 = .ok (.iconst 0, 1) := by decide +kernel
theorem dX3_allUp_158 : decode cX3_allUp 158 = .ok (.iaload, 1) := by decide +kernel
theorem dX3_allUp_159 : decode cX3_allUp 159 = .ok (.iastore, 1) := by decide +kernel
theorem dX3_allUp_160 : decode cX3_allUp 160 = .ok (.return_, 1) := by decide +kernel
theorem dX3_end_0 : decode cX3_end 0 = .ok (.aload_n 0, 1) := by decide +kernel
theorem dX3_end_1 : decode cX3_end 1 = .ok (.getfield 25, 3) := by decide +kernel
theorem dX3_end_4 : decode cX3_end 4 = .ok (.iload_n 1, 1) := by decide +kernel
theorem dX3_end_5 : decode cX3_end 5 = .ok (.iconst 4, 1) := by decide +kernel
theorem dX3_end_6 : decode cX3_end 6 = .ok (.iastore, 1) := by decide +kernel
theorem dX3_end_7 : decode cX3_end 7 = .ok (.aload_n 0, 1) := by decide +kernel
theorem dX3_end_8 : decode cX3_end 8 = .ok (.getfield 50, 3) := by decide +kernel
theorem dX3_end_11 : decode cX3_end 11 = .ok (.bipush 10, 2) := by decide +kernel
theorem dX3_end_13 : decode cX3_end 13 = .ok (.iload_n 1, 1) := by decide +kernel
theorem dX3_end_14 : decode cX3_end 14 = .ok (.imul, 1) := by decide +kernel
theorem dX3_end_15 : decode cX3_end 15 = .ok (.bipush 6, 2) := by decide +kernel
theorem dX3_end_17 : decode cX3_end 17 = .ok (.iadd, 1) := by decide +kernel
theorem dX3_end_18 : decode cX3_end 18 = .ok (.iload_n 2, 1) := by decide +kernel
theorem dX3_end_19 : decode cX3_end 19 = .ok (.iastore, 1) := by decide +kernel
theorem dX3_end_20 : decode cX3_end 20 = .ok (.aload_n 0, 1) := by decide +kernel
theorem dX3_end_21 : decode cX3_end 21 = .ok (.getfield 59, 3) := by decide +kernel
theorem dX3_end_24 : decode cX3_end 24 = .ok (.iconst 3, 1) := by decide +kernel
theorem dX3_end_25 : decode cX3_end 25 = .ok (.dup2, 1) := by decide +kernel
theorem dX3_end_26 : decode cX3_end 26 = .ok (.iaload, 1) := by decide +kernel
theorem dX3_end_27 : decode cX3_end 27 = .ok (.iconst 1, 1) := by decide +kernel
theorem dX3_end_28 : decode cX3_end 28 = .ok (.iadd, 1) := by decide +kernel
theorem dX3_end_29 : decode cX3_end 29 = .ok (.iastore, 1) := by decide +kernel
theorem dX3_end_30 : decode cX3_end 30 = .ok (.return_, 1) := by decide +kernel
set_option maxRecDepth 20000 in
theorem ggX3_come_X3_end : GoodIn wsX3_come wsX3_end := goodIn_r _ [13, 14, 15, 16, 23, 24, 25, 26, 27, 28, 29, 30, 31, 32, 33, 34, 35, 36, 37, 38, 39, 40, 41, 42, 43, 44, 45, 46] (by decide +kernel) (by decide +kernel)
set_option maxRecDepth 20000 in
theorem gX3_come_X3_end : GoodIn wsX3_come (wsV RX3 103 RX3 yX3_end wsX3_end) := goodIn_app (goodIn_of _ (by decide +kernel)) ggX3_come_X3_end
set_option maxRecDepth 20000 in
theorem ggX3_come_X3_toEnd : GoodIn wsX3_come wsX3_toEnd := goodIn_r _ [20, 21, 22, 14, 23, 24, 25, 26, 27, 28, 29, 30, 31, 32, 33, 34, 35, 36, 37, 38, 39, 40, 41, 42, 43, 44, 45, 46] (by decide +kernel) (by decide +kernel)
set_option maxRecDepth 20000 in
theorem gX3_come_X3_toEnd : GoodIn wsX3_come (wsV RX3 99 RX3 yX3_toEnd wsX3_toEnd) := goodIn_app (goodIn_of _ (by decide +kernel)) ggX3_come_X3_toEnd
theorem dX3_come_0 : decode cX3_come 0 = .ok (.iconst 0, 1) := by decide +kernel
theorem dX3_come_1 : decode cX3_come 1 = .ok (.istore_n 2, 1) := by decide +kernel
theorem dX3_come_2 : decode cX3_come 2 = .ok (.iload_n 2, 1) := by decide +kernel
theorem dX3_come_3 : decode cX3_come 3 = .ok (.aload_n 0, 1) := by decide +kernel
theorem dX3_come_4 : decode cX3_come 4 = .ok (.getfield 76, 3) := by decide +kernel
theorem dX3_come_7 : decode cX3_come 7 = .ok (.if_icmp .ge 87, 3) := by decide +kernel
theorem dX3_come_10 : decode cX3_come 10 = .ok (.aload_n 0, 1) := by decide +kernel
theorem dX3_come_11 : decode cX3_come 11 = .ok (.getfield 16, 3) := by decide +kernel
theorem dX3_come_14 : decode cX3_come 14 = .ok (.iload_n 2, 1) := by decide +kernel
theorem dX3_come_15 : decode cX3_come 15 = .ok (.iaload, 1) := by decide +kernel
theorem dX3_come_16 : decode cX3_come 16 = .ok (.iload_n 1, 1) := by decide +kernel
theorem dX3_come_17 : decode cX3_come 17 = .ok (.if_icmp .ne 21, 3) := by decide +kernel
theorem dX3_come_20 : decode cX3_come 20 = .ok (.aload_n 0, 1) := by decide +kernel
theorem dX3_come_21 : decode cX3_come 21 = .ok (.getfield 19, 3) := by decide +kernel
theorem dX3_come_24 : decode cX3_come 24 = .ok (.iload_n 2, 1) := by decide +kernel
theorem dX3_come_25 : decode cX3_come 25 = .ok (.iaload, 1) := by decide +kernel
theorem dX3_come_26 : decode cX3_come 26 = .ok (.ifCond .ne 12, 3) := by decide +kernel
theorem dX3_come_29 : decode cX3_come 29 = .ok (.aload_n 0, 1) := by decide +kernel
theorem dX3_come_30 : decode cX3_come 30 = .ok (.iload_n 2, 1) := by decide +kernel
theorem dX3_come_31 : decode cX3_come 31 = .ok (.iload_n 1, 1) := by decide +kernel
theorem dX3_come_32 : decode cX3_come 32 = .ok (.invokevirtual 103, 3) := by decide +kernel
theorem dX3_come_35 : decode cX3_come 35 = .ok (.goto 53, 3) := by decide +kernel
theorem dX3_come_38 : decode cX3_come 38 = .ok (.aload_n 0, 1) := by decide +kernel
theorem dX3_come_39 : decode cX3_come 39 = .ok (.getfield 16, 3) := by decide +kernel
theorem dX3_come_42 : decode cX3_come 42 = .ok (.iload_n 2, 1) := by decide +kernel
theorem dX3_come_43 : decode cX3_come 43 = .ok (.iaload, 1) := by decide +kernel
theorem dX3_come_44 : decode cX3_come 44 = .ok (.iload_n 1, 1) := by decide +kernel
theorem dX3_come_45 : decode cX3_come 45 = .ok (.if_icmp .ne 43, 3) := by decide +kernel
theorem dX3_come_48 : decode cX3_come 48 = .ok (.aload_n 0, 1) := by decide +kernel
theorem dX3_come_49 : decode cX3_come 49 = .ok (.getfield 28, 3) := by decide +kernel
theorem dX3_come_52 : decode cX3_come 52 = .ok (.iload_n 2, 1) := by decide +kernel
theorem dX3_come_53 : decode cX3_come 53 = .ok (.iconst 0, 1) := by decide +kernel
theorem dX3_come_54 : decode cX3_come 54 = .ok (.iastore, 1) := by decide +kernel
theorem dX3_come_55 : decode cX3_come 55 = .ok (.aload_n 0, 1) := by decide +kernel
theorem dX3_come_56 : decode cX3_come 56 = .ok (.getfield 40, 3) := by decide +kernel
theorem dX3_come_59 : decode cX3_come 59 = .ok (.iload_n 2, 1) := by decide +kernel
theorem dX3_come_60 : decode cX3_come 60 = .ok (.aload_n 0, 1) := by decide +kernel
theorem dX3_come_61 : decode cX3_come 61 = .ok (.getfield 13, 3) := by decide +kernel
theorem dX3_come_64 : decode cX3_come 64 = .ok (.iconst 0, 1) := by decide +kernel
theorem dX3_come_65 : decode cX3_come 65 = .ok (.iaload, 1) := by decide +kernel
theorem dX3_come_66 : decode cX3_come 66 = .ok (.iastore, 1) := by decide +kernel
theorem dX3_come_67 : decode cX3_come 67 = .ok (.aload_n 0, 1) := by decide +kernel
theorem dX3_come_68 : decode cX3_come 68 = .ok (.getfield 34, 3) := by decide +kernel
theorem dX3_come_71 : decode cX3_come 71 = .ok (.iload_n 2, 1) := by decide +kernel
theorem dX3_come_72 : decode cX3_come 72 = .ok (.aload_n 0, 1) := by decide +kernel
theorem dX3_come_73 : decode cX3_come 73 = .ok (.getfield 22, 3) := by decide +kernel
theorem dX3_come_76 : decode cX3_come 76 = .ok (.bipush 12, 2) := by decide +kernel
theorem dX3_come_78 : decode cX3_come 78 = .ok (.iload_n 2, 1) := by decide +kernel
theorem dX3_come_79 : decode cX3_come 79 = .ok (.imul, 1) := by decide +kernel
theorem dX3_come_80 : decode cX3_come 80 = .ok (.iaload, 1) := by decide +kernel
theorem dX3_come_81 : decode cX3_come 81 = .ok (.iastore, 1) := by decide +kernel
theorem dX3_come_82 : decode cX3_come 82 = .ok (.aload_n 0, 1) := by decide +kernel
theorem dX3_come_83 : decode cX3_come 83 = .ok (.iconst 0, 1) := by decide +kernel
theorem dX3_come_84 : decode cX3_come 84 = .ok (.iload_n 2, 1) := by decide +kernel
theorem dX3_come_85 : decode cX3_come 85 = .ok (.invokevirtual 99, 3) := by decide +kernel
theorem dX3_come_88 : decode cX3_come 88 = .ok (.iinc 2 1, 3) := by decide +kernel
theorem dX3_come_91 : decode cX3_come 91 = .ok (.goto (-89), 3) := by decide +kernel
theorem dX3_come_94 : decode cX3_come 94 = .ok (.return_, 1) := by decide +kernel
set_option maxRecDepth 20000 in
theorem ggX3_comeBack_X3_end : GoodIn wsX3_comeBack wsX3_end := goodIn_r _ [13, 2, 14, 15, 22, 23, 24, 25, 26, 27, 28, 29, 30, 31, 32, 33, 34, 35, 36, 37, 38, 39, 40, 41, 42, 43, 44, 45] (by decide +kernel) (by decide +kernel)
set_option maxRecDepth 20000 in
theorem gX3_comeBack_X3_end : GoodIn wsX3_comeBack (wsV RX3 103 RX3 yX3_end wsX3_end) := goodIn_app (goodIn_of _ (by decide +kernel)) ggX3_comeBack_X3_end
set_option maxRecDepth 20000 in
theorem ggX3_comeBack_X3_toEnd : GoodIn wsX3_comeBack wsX3_toEnd := goodIn_r _ [19, 20, 21, 2, 22, 23, 24, 25, 26, 27, 28, 29, 30, 31, 32, 33, 34, 35, 36, 37, 38, 39, 40, 41, 42, 43, 44, 45] (by decide +kernel) (by decide +kernel)
set_option maxRecDepth 20000 in
theorem gX3_comeBack_X3_toEnd : GoodIn wsX3_comeBack (wsV RX3 99 RX3 yX3_toEnd wsX3_toEnd) := goodIn_app (goodIn_of _ (by decide +kernel)) ggX3_comeBack_X3_toEnd
theorem dX3_comeBack_0 : decode cX3_comeBack 0 = .ok (.iconst 0, 1) := by decide +kernel
theorem dX3_comeBack_1 : decode cX3_comeBack 1 = .ok (.istore_n 2, 1) := by decide +kernel
theorem dX3_comeBack_2 : decode cX3_comeBack 2 = .ok (.iload_n 2, 1) := by decide +kernel
theorem dX3_comeBack_3 : decode cX3_comeBack 3 = .ok (.aload_n 0, 1) := by decide +kernel
theorem dX3_comeBack_4 : decode cX3_comeBack 4 = .ok (.getfield 76, 3) := by decide +kernel
theorem dX3_comeBack_7 : decode cX3_comeBack 7 = .ok (.if_icmp .ge 96, 3) := by decide +kernel
theorem dX3_comeBack_10 : decode cX3_comeBack 10 = .ok (.aload_n 0, 1) := by decide +kernel
theorem dX3_comeBack_11 : decode cX3_comeBack 11 = .ok (.getfield 25, 3) := by decide +kernel
theorem dX3_comeBack_14 : decode cX3_comeBack 14 = .ok (.iload_n 2, 1) := by decide +kernel
theorem dX3_comeBack_15 : decode cX3_comeBack 15 = .ok (.iaload, 1) := by decide +kernel
theorem dX3_comeBack_16 : decode cX3_comeBack 16 = .ok (.iconst 3, 1) := by decide +kernel
theorem dX3_comeBack_17 : decode cX3_comeBack 17 = .ok (.if_icmp .ne 80, 3) := by decide +kernel
theorem dX3_comeBack_20 : decode cX3_comeBack 20 = .ok (.aload_n 0, 1) := by decide +kernel
theorem dX3_comeBack_21 : decode cX3_comeBack 21 = .ok (.getfield 47, 3) := by decide +kernel
theorem dX3_comeBack_24 : decode cX3_comeBack 24 = .ok (.iload_n 2, 1) := by decide +kernel
theorem dX3_comeBack_25 : decode cX3_comeBack 25 = .ok (.iaload, 1) := by decide +kernel
theorem dX3_comeBack_26 : decode cX3_comeBack 26 = .ok (.iload_n 1, 1) := by decide +kernel
theorem dX3_comeBack_27 : decode cX3_comeBack 27 = .ok (.if_icmp .ne 70, 3) := by decide +kernel
theorem dX3_comeBack_30 : decode cX3_comeBack 30 = .ok (.aload_n 0, 1) := by decide +kernel
theorem dX3_comeBack_31 : decode cX3_comeBack 31 = .ok (.getfield 31, 3) := by decide +kernel
theorem dX3_comeBack_34 : decode cX3_comeBack 34 = .ok (.iload_n 2, 1) := by decide +kernel
theorem dX3_comeBack_35 : decode cX3_comeBack 35 = .ok (.dup2, 1) := by decide +kernel
theorem dX3_comeBack_36 : decode cX3_comeBack 36 = .ok (.iaload, 1) := by decide +kernel
theorem dX3_comeBack_37 : decode cX3_comeBack 37 = .ok (.iconst 1, 1) := by decide +kernel
theorem dX3_comeBack_38 : decode cX3_comeBack 38 = .ok (.iadd, 1) := by decide +kernel
theorem dX3_comeBack_39 : decode cX3_comeBack 39 = .ok (.iastore, 1) := by decide +kernel
theorem dX3_comeBack_40 : decode cX3_comeBack 40 = .ok (.aload_n 0, 1) := by decide +kernel
theorem dX3_comeBack_41 : decode cX3_comeBack 41 = .ok (.getfield 31, 3) := by decide +kernel
theorem dX3_comeBack_44 : decode cX3_comeBack 44 = .ok (.iload_n 2, 1) := by decide +kernel
theorem dX3_comeBack_45 : decode cX3_comeBack 45 = .ok (.iaload, 1) := by decide +kernel
theorem dX3_comeBack_46 : decode cX3_comeBack 46 = .ok (.aload_n 0, 1) := by decide +kernel
theorem dX3_comeBack_47 : decode cX3_comeBack 47 = .ok (.getfield 19, 3) := by decide +kernel
theorem dX3_comeBack_50 : decode cX3_comeBack 50 = .ok (.iload_n 2, 1) := by decide +kernel
theorem dX3_comeBack_51 : decode cX3_comeBack 51 = .ok (.iaload, 1) := by decide +kernel
theorem dX3_comeBack_52 : decode cX3_comeBack 52 = .ok (.if_icmp .ne 12, 3) := by decide +kernel
theorem dX3_comeBack_55 : decode cX3_comeBack 55 = .ok (.aload_n 0, 1) := by decide +kernel
theorem dX3_comeBack_56 : decode cX3_comeBack 56 = .ok (.iload_n 2, 1) := by decide +kernel
theorem dX3_comeBack_57 : decode cX3_comeBack 57 = .ok (.iload_n 1, 1) := by decide +kernel
theorem dX3_comeBack_58 : decode cX3_comeBack 58 = .ok (.invokevirtual 103, 3) := by decide +kernel
theorem dX3_comeBack_61 : decode cX3_comeBack 61 = .ok (.goto 36, 3) := by decide +kernel
theorem dX3_comeBack_64 : decode cX3_comeBack 64 = .ok (.aload_n 0, 1) := by decide +kernel
theorem dX3_comeBack_65 : decode cX3_comeBack 65 = .ok (.getfield 34, 3) := by decide +kernel
theorem dX3_comeBack_68 : decode cX3_comeBack 68 = .ok (.iload_n 2, 1) := by decide +kernel
theorem dX3_comeBack_69 : decode cX3_comeBack 69 = .ok (.aload_n 0, 1) := by decide +kernel
theorem dX3_comeBack_70 : decode cX3_comeBack 70 = .ok (.getfield 22, 3) := by decide +kernel
theorem dX3_comeBack_73 : decode cX3_comeBack 73 = .ok (.bipush 12, 2) := by decide +kernel
theorem dX3_comeBack_75 : decode cX3_comeBack 75 = .ok (.iload_n 2, 1) := by decide +kernel
theorem dX3_comeBack_76 : decode cX3_comeBack 76 = .ok (.imul, 1) := by decide +kernel
theorem dX3_comeBack_77 : decode cX3_comeBack 77 = .ok (.aload_n 0, 1) := by decide +kernel
theorem dX3_comeBack_78 : decode cX3_comeBack 78 = .ok (.getfield 31, 3) := by decide +kernel
theorem dX3_comeBack_81 : decode cX3_comeBack 81 = .ok (.iload_n 2, 1) := by decide +kernel
theorem dX3_comeBack_82 : decode cX3_comeBack 82 = .ok (.iaload, 1) := by decide +kernel
theorem dX3_comeBack_83 : decode cX3_comeBack 83 = .ok (.iadd, 1) := by decide +kernel
theorem dX3_comeBack_84 : decode cX3_comeBack 84 = .ok (.iaload, 1) := by decide +kernel
theorem dX3_comeBack_85 : decode cX3_comeBack 85 = .ok (.iastore, 1) := by decide +kernel
theorem dX3_comeBack_86 : decode cX3_comeBack 86 = .ok (.aload_n 0, 1) := by decide +kernel
theorem dX3_comeBack_87 : decode cX3_comeBack 87 = .ok (.aload_n 0, 1) := by decide +kernel
theorem dX3_comeBack_88 : decode cX3_comeBack 88 = .ok (.getfield 28, 3) := by decide +kernel
theorem dX3_comeBack_91 : decode cX3_comeBack 91 = .ok (.iload_n 2, 1) := by decide +kernel
theorem dX3_comeBack_92 : decode cX3_comeBack 92 = .ok (.iaload, 1) := by decide +kernel
theorem dX3_comeBack_93 : decode cX3_comeBack 93 = .ok (.iload_n 2, 1) := by decide +kernel
theorem dX3_comeBack_94 : decode cX3_comeBack 94 = .ok (.invokevirtual 99, 3) := by decide +kernel
theorem dX3_comeBack_97 : decode cX3_comeBack 97 = .ok (.iinc 2 1, 3) := by decide +kernel
theorem dX3_comeBack_100 : decode cX3_comeBack 100 = .ok (.goto (-98), 3) := by decide +kernel
theorem dX3_comeBack_103 : decode cX3_comeBack 103 = .ok (.return_, 1) := by decide +kernel
theorem dX3_firstLevel_0 : decode cX3_firstLevel 0 = .ok (.iconst 0, 1) := by decide +kernel
theorem dX3_firstLevel_1 : decode cX3_firstLevel 1 = .ok (.istore_n 1, 1) := by decide +kernel
theorem dX3_firstLevel_2 : decode cX3_firstLevel 2 = .ok (.iload_n 1, 1) := by decide +kernel
theorem dX3_firstLevel_3 : decode cX3_firstLevel 3 = .ok (.aload_n 0, 1) := by decide +kernel
theorem dX3_firstLevel_4 : decode cX3_firstLevel 4 = .ok (.getfield 73, 3) := by decide +kernel
theorem dX3_firstLevel_7 : decode cX3_firstLevel 7 = .ok (.if_icmp .ge 20, 3) := by decide +kernel
theorem dX3_firstLevel_10 : decode cX3_firstLevel 10 = .ok (.aload_n 0, 1) := by decide +kernel
theorem dX3_firstLevel_11 : decode cX3_firstLevel 11 = .ok (.getfield 56, 3) := by decide +kernel
theorem dX3_firstLevel_14 : decode cX3_firstLevel 14 = .ok (.iload_n 1, 1) := by decide +kernel
theorem dX3_firstLevel_15 : decode cX3_firstLevel 15 = .ok (.iaload, 1) := by decide +kernel
theorem dX3_firstLevel_16 : decode cX3_firstLevel 16 = .ok (.ifCond .le 5, 3) := by decide +kernel
theorem dX3_firstLevel_19 : decode cX3_firstLevel 19 = .ok (.iload_n 1, 1) := by decide +kernel
theorem dX3_firstLevel_20 : decode cX3_firstLevel 20 = .ok (.ireturn, 1) := by decide +kernel
theorem dX3_firstLevel_21 : decode cX3_firstLevel 21 = .ok (.iinc 1 1, 3) := by decide +kernel
theorem dX3_firstLevel_24 : decode cX3_firstLevel 24 = .ok (.goto (-22), 3) := by decide +kernel
theorem dX3_firstLevel_27 : decode cX3_firstLevel 27 = .ok (.iconst (-1), 1) := by decide +kernel
theorem dX3_firstLevel_28 : decode cX3_firstLevel 28 = .ok (.ireturn, 1) := by decide +kernel
set_option maxRecDepth 20000 in
theorem ggX3_choose_X3_firstLevel : GoodIn wsX3_choose wsX3_firstLevel := goodIn_r _ [14, 15, 16, 26, 27, 28, 29, 30, 31, 32, 33, 34, 35, 36, 37, 38, 39, 40, 41, 42, 43, 44, 45, 46, 47, 48, 49] (by decide +kernel) (by decide +kernel)
set_option maxRecDepth 20000 in
theorem gX3_choose_X3_firstLevel : GoodIn wsX3_choose (wsV RX3 106 RX3 yX3_firstLevel wsX3_firstLevel) := goodIn_app (goodIn_of _ (by decide +kernel)) ggX3_choose_X3_firstLevel
set_option maxRecDepth 20000 in
theorem ggX3_choose_X3_toFront : GoodIn wsX3_choose wsX3_toFront := goodIn_r _ [20, 16, 21, 5, 26, 27, 28, 29, 30, 31, 32, 33, 34, 35, 36, 37, 38, 39, 40, 41, 42, 43, 44, 45, 46, 47, 48, 49] (by decide +kernel) (by decide +kernel)
set_option maxRecDepth 20000 in
theorem gX3_choose_X3_toFront : GoodIn wsX3_choose (wsV RX3 110 RX3 yX3_toFront wsX3_toFront) := goodIn_app (goodIn_of _ (by decide +kernel)) ggX3_choose_X3_toFront
set_option maxRecDepth 20000 in
theorem ggX3_choose_X3_takeFirst : GoodIn wsX3_choose wsX3_takeFirst := goodIn_r _ [25, 21, 16, 26, 27, 28, 29, 30, 31, 32, 33, 34, 35, 36, 37, 38, 39, 40, 41, 42, 43, 44, 45, 46, 47, 48, 49] (by decide +kernel) (by decide +kernel)
set_option maxRecDepth 20000 in
theorem gX3_choose_X3_takeFirst : GoodIn wsX3_choose (wsV RX3 95 RX3 yX3_takeFirst wsX3_takeFirst) := goodIn_app (goodIn_of _ (by decide +kernel)) ggX3_choose_X3_takeFirst
theorem dX3_choose_0 : decode cX3_choose 0 = .ok (.aload_n 0, 1) := by decide +kernel
theorem dX3_choose_1 : decode cX3_choose 1 = .ok (.invokevirtual 106, 3) := by decide +kernel
theorem dX3_choose_4 : decode cX3_choose 4 = .ok (.istore_n 2, 1) := by decide +kernel
theorem dX3_choose_5 : decode cX3_choose 5 = .ok (.aload_n 0, 1) := by decide +kernel
theorem dX3_choose_6 : decode cX3_choose 6 = .ok (.getfield 85, 3) := by decide +kernel
theorem dX3_choose_9 : decode cX3_choose 9 = .ok (.ifCond .lt 71, 3) := by decide +kernel
theorem dX3_choose_12 : decode cX3_choose 12 = .ok (.iload_n 2, 1) := by decide +kernel
theorem dX3_choose_13 : decode cX3_choose 13 = .ok (.ifCond .lt 67, 3) := by decide +kernel
theorem dX3_choose_16 : decode cX3_choose 16 = .ok (.iload_n 2, 1) := by decide +kernel
theorem dX3_choose_17 : decode cX3_choose 17 = .ok (.aload_n 0, 1) := by decide +kernel
theorem dX3_choose_18 : decode cX3_choose 18 = .ok (.getfield 28, 3) := by decide +kernel
theorem dX3_choose_21 : decode cX3_choose 21 = .ok (.aload_n 0, 1) := by decide +kernel
theorem dX3_choose_22 : decode cX3_choose 22 = .ok (.getfield 85, 3) := by decide +kernel
theorem dX3_choose_25 : decode cX3_choose 25 = .ok (.iaload, 1) := by decide +kernel
theorem dX3_choose_26 : decode cX3_choose 26 = .ok (.if_icmp .ge 54, 3) := by decide +kernel
theorem dX3_choose_29 : decode cX3_choose 29 = .ok (.aload_n 0, 1) := by decide +kernel
theorem dX3_choose_30 : decode cX3_choose 30 = .ok (.getfield 43, 3) := by decide +kernel
theorem dX3_choose_33 : decode cX3_choose 33 = .ok (.aload_n 0, 1) := by decide +kernel
theorem dX3_choose_34 : decode cX3_choose 34 = .ok (.getfield 85, 3) := by decide +kernel
theorem dX3_choose_37 : decode cX3_choose 37 = .ok (.iconst 1, 1) := by decide +kernel
theorem dX3_choose_38 : decode cX3_choose 38 = .ok (.bastore, 1) := by decide +kernel
theorem dX3_choose_39 : decode cX3_choose 39 = .ok (.aload_n 0, 1) := by decide +kernel
theorem dX3_choose_40 : decode cX3_choose 40 = .ok (.getfield 50, 3) := by decide +kernel
theorem dX3_choose_43 : decode cX3_choose 43 = .ok (.bipush 10, 2) := by decide +kernel
theorem dX3_choose_45 : decode cX3_choose 45 = .ok (.aload_n 0, 1) := by decide +kernel
theorem dX3_choose_46 : decode cX3_choose 46 = .ok (.getfield 85, 3) := by decide +kernel
theorem dX3_choose_49 : decode cX3_choose 49 = .ok (.imul, 1) := by decide +kernel
theorem dX3_choose_50 : decode cX3_choose 50 = .ok (.bipush 9, 2) := by decide +kernel
theorem dX3_choose_52 : decode cX3_choose 52 = .ok (.iadd, 1) := by decide +kernel
theorem dX3_choose_53 : decode cX3_choose 53 = .ok (.dup2, 1) := by decide +kernel
theorem dX3_choose_54 : decode cX3_choose 54 = .ok (.iaload, 1) := by decide +kernel
theorem dX3_choose_55 : decode cX3_choose 55 = .ok (.iconst 1, 1) := by decide +kernel
theorem dX3_choose_56 : decode cX3_choose 56 = .ok (.iadd, 1) := by decide +kernel
theorem dX3_choose_57 : decode cX3_choose 57 = .ok (.iastore, 1) := by decide +kernel
theorem dX3_choose_58 : decode cX3_choose 58 = .ok (.aload_n 0, 1) := by decide +kernel
theorem dX3_choose_59 : decode cX3_choose 59 = .ok (.aload_n 0, 1) := by decide +kernel
theorem dX3_choose_60 : decode cX3_choose 60 = .ok (.getfield 28, 3) := by decide +kernel
theorem dX3_choose_63 : decode cX3_choose 63 = .ok (.aload_n 0, 1) := by decide +kernel
theorem dX3_choose_64 : decode cX3_choose 64 = .ok (.getfield 85, 3) := by decide +kernel
theorem dX3_choose_67 : decode cX3_choose 67 = .ok (.iaload, 1) := by decide +kernel
theorem dX3_choose_68 : decode cX3_choose 68 = .ok (.aload_n 0, 1) := by decide +kernel
theorem dX3_choose_69 : decode cX3_choose 69 = .ok (.getfield 85, 3) := by decide +kernel
theorem dX3_choose_72 : decode cX3_choose 72 = .ok (.invokevirtual 110, 3) := by decide +kernel
theorem dX3_choose_75 : decode cX3_choose 75 = .ok (.aload_n 0, 1) := by decide +kernel
theorem dX3_choose_76 : decode cX3_choose 76 = .ok (.iconst (-1), 1) := by decide +kernel
theorem dX3_choose_77 : decode cX3_choose 77 = .ok (.putfield 85, 3) := by decide +kernel
theorem dX3_choose_80 : decode cX3_choose 80 = .ok (.aload_n 0, 1) := by decide +kernel
theorem dX3_choose_81 : decode cX3_choose 81 = .ok (.getfield 85, 3) := by decide +kernel
theorem dX3_choose_84 : decode cX3_choose 84 = .ok (.ifCond .ge 7, 3) := by decide +kernel
theorem dX3_choose_87 : decode cX3_choose 87 = .ok (.iload_n 2, 1) := by decide +kernel
theorem dX3_choose_88 : decode cX3_choose 88 = .ok (.ifCond .ge 4, 3) := by decide +kernel
theorem dX3_choose_91 : decode cX3_choose 91 = .ok (.return_, 1) := by decide +kernel
theorem dX3_choose_92 : decode cX3_choose 92 = .ok (.aload_n 0, 1) := by decide +kernel
theorem dX3_choose_93 : decode cX3_choose 93 = .ok (.iload_n 2, 1) := by decide +kernel
theorem dX3_choose_94 : decode cX3_choose 94 = .ok (.invokevirtual 95, 3) := by decide +kernel
theorem dX3_choose_97 : decode cX3_choose 97 = .ok (.istore_n 3, 1) := by decide +kernel
theorem dX3_choose_98 : decode cX3_choose 98 = .ok (.aload_n 0, 1) := by decide +kernel
theorem dX3_choose_99 : decode cX3_choose 99 = .ok (.iload_n 3, 1) := by decide +kernel
theorem dX3_choose_100 : decode cX3_choose 100 = .ok (.putfield 85, 3) := by decide +kernel
theorem dX3_choose_103 : decode cX3_choose 103 = .ok (.aload_n 0, 1) := by decide +kernel
theorem dX3_choose_104 : decode cX3_choose 104 = .ok (.getfield 25, 3) := by decide +kernel
theorem dX3_choose_107 : decode cX3_choose 107 = .ok (.iload_n 3, 1) := by decide +kernel
theorem dX3_choose_108 : decode cX3_choose 108 = .ok (.iconst 2, 1) := by decide +kernel
theorem dX3_choose_109 : decode cX3_choose 109 = .ok (.iastore, 1) := by decide +kernel
theorem dX3_choose_110 : decode cX3_choose 110 = .ok (.aload_n 0, 1) := by decide +kernel
theorem dX3_choose_111 : decode cX3_choose 111 = .ok (.getfield 37, 3) := by decide +kernel
theorem dX3_choose_114 : decode cX3_choose 114 = .ok (.iload_n 3, 1) := by decide +kernel
theorem dX3_choose_115 : decode cX3_choose 115 = .ok (.aload_n 0, 1) := by decide +kernel
theorem dX3_choose_116 : decode cX3_choose 116 = .ok (.getfield 43, 3) := by decide +kernel
theorem dX3_choose_119 : decode cX3_choose 119 = .ok (.iload_n 3, 1) := by decide +kernel
theorem dX3_choose_120 : decode cX3_choose 120 = .ok (.baload, 1) := by decide +kernel
theorem dX3_choose_121 : decode cX3_choose 121 = .ok (.ifCond .eq 12, 3) := by decide +kernel
theorem dX3_choose_124 : decode cX3_choose 124 = .ok (.aload_n 0, 1) := by decide +kernel
theorem dX3_choose_125 : decode cX3_choose 125 = .ok (.getfield 37, 3) := by decide +kernel
theorem dX3_choose_128 : decode cX3_choose 128 = .ok (.iload_n 3, 1) := by decide +kernel
theorem dX3_choose_129 : decode cX3_choose 129 = .ok (.iaload, 1) := by decide +kernel
theorem dX3_choose_130 : decode cX3_choose 130 = .ok (.goto 14, 3) := by decide +kernel
theorem dX3_choose_133 : decode cX3_choose 133 = .ok (.aload_n 0, 1) := by decide +kernel
theorem dX3_choose_134 : decode cX3_choose 134 = .ok (.getfield 7, 3) := by decide +kernel
theorem dX3_choose_137 : decode cX3_choose 137 = .ok (.aload_n 0, 1) := by decide +kernel
theorem dX3_choose_138 : decode cX3_choose 138 = .ok (.getfield 28, 3) := by decide +kernel
theorem dX3_choose_141 : decode cX3_choose 141 = .ok (.iload_n 3, 1) := by decide +kernel
theorem dX3_choose_142 : decode cX3_choose 142 = .ok (.iaload, 1) := by decide +kernel
theorem dX3_choose_143 : decode cX3_choose 143 = .ok (.iaload, 1) := by decide +kernel
theorem dX3_choose_144 : decode cX3_choose 144 = .ok (.iastore, 1) := by decide +kernel
theorem dX3_choose_145 : decode cX3_choose 145 = .ok (.aload_n 0, 1) := by decide +kernel
theorem dX3_choose_146 : decode cX3_choose 146 = .ok (.getfield 43, 3) := by decide +kernel
theorem dX3_choose_149 : decode cX3_choose 149 = .ok (.iload_n 3, 1) := by decide +kernel
theorem dX3_choose_150 : decode cX3_choose 150 = .ok (.iconst 0, 1) := by decide +kernel
theorem dX3_choose_151 : decode cX3_choose 151 = .ok (.bastore, 1) := by decide +kernel
theorem dX3_choose_152 : decode cX3_choose 152 = .ok (.aload_n 0, 1) := by decide +kernel
theorem dX3_choose_153 : decode cX3_choose 153 = .ok (.getfield 50, 3) := by decide +kernel
theorem dX3_choose_156 : decode cX3_choose 156 = .ok (.bipush 10, 2) := by decide +kernel
theorem dX3_choose_158 : decode cX3_choose 158 = .ok (.iload_n 3, 1) := by decide +kernel
theorem dX3_choose_159 : decode cX3_choose 159 = .ok (.imul, 1) := by decide +kernel
theorem dX3_choose_160 : decode cX3_choose 160 = .ok (.bipush 7, 2) := by decide +kernel
theorem dX3_choose_162 : decode cX3_choose 162 = .ok (.iadd, 1) := by decide +kernel
theorem dX3_choose_163 : decode cX3_choose 163 = .ok (.dup2, 1) := by decide +kernel
theorem dX3_choose_164 : decode cX3_choose 164 = .ok (.iaload, 1) := by decide +kernel
theorem dX3_choose_165 : decode cX3_choose 165 = .ok (.iconst 1, 1) := by decide +kernel
theorem dX3_choose_166 : decode cX3_choose 166 = .ok (.iadd, 1) := by decide +kernel
theorem dX3_choose_167 : decode cX3_choose 167 = .ok (.iastore, 1) := by decide +kernel
theorem dX3_choose_168 : decode cX3_choose 168 = .ok (.aload_n 0, 1) := by decide +kernel
theorem dX3_choose_169 : decode cX3_choose 169 = .ok (.getfield 50, 3) := by decide +kernel
theorem dX3_choose_172 : decode cX3_choose 172 = .ok (.bipush 10, 2) := by decide +kernel
theorem dX3_choose_174 : decode cX3_choose 174 = .ok (.iload_n 3, 1) := by decide +kernel
theorem dX3_choose_175 : decode cX3_choose 175 = .ok (.imul, 1) := by decide +kernel
theorem dX3_choose_176 : decode cX3_choose 176 = .ok (.iconst 5, 1) := by decide +kernel
theorem dX3_choose_177 : decode cX3_choose 177 = .ok (.iadd, 1) := by decide +kernel
theorem dX3_choose_178 : decode cX3_choose 178 = .ok (.aload_n 0, 1) := by decide +kernel
theorem dX3_choose_179 : decode cX3_choose 179 = .ok (.getfield 50, 3) := by decide +kernel
theorem dX3_choose_182 : decode cX3_choose 182 = .ok (.bipush 10, 2) := by decide +kernel
theorem dX3_choose_184 : decode cX3_choose 184 = .ok (.iload_n 3, 1) := by decide +kernel
theorem dX3_choose_185 : decode cX3_choose 185 = .ok (.imul, 1) := by decide +kernel
theorem dX3_choose_186 : decode cX3_choose 186 = .ok (.iconst 5, 1) := by decide +kernel
theorem dX3_choose_187 : decode cX3_choose 187 = .ok (.iadd, 1) := by decide +kernel
theorem dX3_choose_188 : decode cX3_choose 188 = .ok (.iaload, 1) := by decide +kernel
theorem dX3_choose_189 : decode cX3_choose 189 = .ok (.ifCond .ge 7, 3) := by decide +kernel
theorem dX3_choose_192 : decode cX3_choose 192 = .ok (.iload_n 1, 1) := by decide +kernel
theorem dX3_choose_193 : decode cX3_choose 193 = .ok (.goto 14, 3) := by decide +kernel
theorem dX3_choose_196 : decode cX3_choose 196 = .ok (.aload_n 0, 1) := by decide +kernel
theorem dX3_choose_197 : decode cX3_choose 197 = .ok (.getfield 50, 3) := by decide +kernel
theorem dX3_choose_200 : decode cX3_choose 200 = .ok (.bipush 10, 2) := by decide +kernel
theorem dX3_choose_202 : decode cX3_choose 202 = .ok (.iload_n 3, 1) := by decide +kernel
theorem dX3_choose_203 : decode cX3_choose 203 = .ok (.imul, 1) := by decide +kernel
theorem dX3_choose_204 : decode cX3_choose 204 = .ok (.iconst 5, 1) := by decide +kernel
theorem dX3_choose_205 : decode cX3_choose 205 = .ok (.iadd, 1) := by decide +kernel
theorem dX3_choose_206 : decode cX3_choose 206 = .ok (.iaload, 1) := by decide +kernel
theorem dX3_choose_207 : decode cX3_choose 207 = .ok (.iastore, 1) := by decide +kernel
theorem dX3_choose_208 : decode cX3_choose 208 = .ok (.aload_n 0, 1) := by decide +kernel
theorem dX3_choose_209 : decode cX3_choose 209 = .ok (.getfield 59, 3) := by decide +kernel
theorem dX3_choose_212 : decode cX3_choose 212 = .ok (.iconst 0, 1) := by decide +kernel
theorem dX3_choose_213 : decode cX3_choose 213 = .ok (.iaload, 1) := by decide +kernel
theorem dX3_choose_214 : decode cX3_choose 214 = .ok (.sipush 400, 3) := by decide +kernel
theorem dX3_choose_217 : decode cX3_choose 217 = .ok (.if_icmp .ge 20, 3) := by decide +kernel
theorem dX3_choose_220 : decode cX3_choose 220 = .ok (.aload_n 0, 1) := by decide +kernel
theorem dX3_choose_221 : decode cX3_choose 221 = .ok (.getfield 62, 3) := by decide +kernel
theorem dX3_choose_224 : decode cX3_choose 224 = .ok (.aload_n 0, 1) := by decide +kernel
theorem dX3_choose_225 : decode cX3_choose 225 = .ok (.getfield 59, 3) := by decide +kernel
theorem dX3_choose_228 : decode cX3_choose 228 = .ok (.iconst 0, 1) := by decide +kernel
theorem dX3_choose_229 : decode cX3_choose 229 = .ok (.iaload, 1) := by decide +kernel
theorem dX3_choose_230 : decode cX3_choose 230 = .ok (.bipush 16, 2) := by decide +kernel
theorem dX3_choose_232 : decode cX3_choose 232 = .ok (.iload_n 1, 1) := by decide +kernel
theorem dX3_choose_233 : decode cX3_choose 233 = .ok (.imul, 1) := by decide +kernel
theorem dX3_choose_234 : decode cX3_choose 234 = .ok (.iload_n 3, 1) := by decide +kernel
theorem dX3_choose_235 : decode cX3_choose 235 = .ok (.iadd, 1) := by decide +kernel
theorem dX3_choose_236 : decode cX3_choose 236 = .ok (.iastore, 1) := by decide +kernel
theorem dX3_choose_237 : decode cX3_choose 237 = .ok (.aload_n 0, 1) := by decide +kernel
theorem dX3_choose_238 : decode cX3_choose 238 = .ok (.getfield 59, 3) := by decide +kernel
theorem dX3_choose_241 : decode cX3_choose 241 = .ok (.iconst 0, 1) := by decide +kernel
theorem dX3_choose_242 : decode cX3_choose 242 = .ok (.dup2, 1) := by decide +kernel
theorem dX3_choose_243 : decode cX3_choose 243 = .ok (.iaload, 1) := by decide +kernel
theorem dX3_choose_244 : decode cX3_choose 244 = .ok (.iconst 1, 1) := by decide +kernel
theorem dX3_choose_245 : decode cX3_choose 245 = .ok (.iadd, 1) := by decide +kernel
theorem dX3_choose_246 : decode cX3_choose 246 = .ok (.iastore, 1) := by decide +kernel
theorem dX3_choose_247 : decode cX3_choose 247 = .ok (.return_, 1) := by decide +kernel
set_option maxRecDepth 20000 in
theorem ggX3_work_X3_end : GoodIn wsX3_work wsX3_end := goodIn_r _ [18, 8, 2, 19, 26, 27, 28, 29, 30, 31, 32, 33, 34, 35, 36, 37, 38, 39, 40, 41, 42, 43, 44, 45, 46, 47, 48, 49] (by decide +kernel) (by decide +kernel)
set_option maxRecDepth 20000 in
theorem gX3_work_X3_end : GoodIn wsX3_work (wsV RX3 103 RX3 yX3_end wsX3_end) := goodIn_app (goodIn_of _ (by decide +kernel)) ggX3_work_X3_end
set_option maxRecDepth 20000 in
theorem ggX3_work_X3_toEnd : GoodIn wsX3_work wsX3_toEnd := goodIn_r _ [23, 24, 25, 8, 26, 27, 28, 29, 30, 31, 32, 33, 34, 35, 36, 37, 38, 39, 40, 41, 42, 43, 44, 45, 46, 47, 48, 49] (by decide +kernel) (by decide +kernel)
set_option maxRecDepth 20000 in
theorem gX3_work_X3_toEnd : GoodIn wsX3_work (wsV RX3 99 RX3 yX3_toEnd wsX3_toEnd) := goodIn_app (goodIn_of _ (by decide +kernel)) ggX3_work_X3_toEnd
theorem dX3_work_0 : decode cX3_work 0 = .ok (.aload_n 0, 1) := by decide +kernel
theorem dX3_work_1 : decode cX3_work 1 = .ok (.getfield 85, 3) := by decide +kernel
theorem dX3_work_4 : decode cX3_work 4 = .ok (.istore_n 2, 1) := by decide +kernel
theorem dX3_work_5 : decode cX3_work 5 = .ok (.aload_n 0, 1) := by decide +kernel
theorem dX3_work_6 : decode cX3_work 6 = .ok (.getfield 50, 3) := by decide +kernel
theorem dX3_work_9 : decode cX3_work 9 = .ok (.bipush 10, 2) := by decide +kernel
theorem dX3_work_11 : decode cX3_work 11 = .ok (.iload_n 2, 1) := by decide +kernel
theorem dX3_work_12 : decode cX3_work 12 = .ok (.imul, 1) := by decide +kernel
theorem dX3_work_13 : decode cX3_work 13 = .ok (.iconst 2, 1) := by decide +kernel
theorem dX3_work_14 : decode cX3_work 14 = .ok (.iadd, 1) := by decide +kernel
theorem dX3_work_15 : decode cX3_work 15 = .ok (.dup2, 1) := by decide +kernel
theorem dX3_work_16 : decode cX3_work 16 = .ok (.iaload, 1) := by decide +kernel
theorem dX3_work_17 : decode cX3_work 17 = .ok (.iconst 1, 1) := by decide +kernel
theorem dX3_work_18 : decode cX3_work 18 = .ok (.iadd, 1) := by decide +kernel
theorem dX3_work_19 : decode cX3_work 19 = .ok (.iastore, 1) := by decide +kernel
theorem dX3_work_20 : decode cX3_work 20 = .ok (.aload_n 0, 1) := by decide +kernel
theorem dX3_work_21 : decode cX3_work 21 = .ok (.getfield 34, 3) := by decide +kernel
theorem dX3_work_24 : decode cX3_work 24 = .ok (.iload_n 2, 1) := by decide +kernel
theorem dX3_work_25 : decode cX3_work 25 = .ok (.dup2, 1) := by decide +kernel
theorem dX3_work_26 : decode cX3_work 26 = .ok (.iaload, 1) := by decide +kernel
theorem dX3_work_27 : decode cX3_work 27 = .ok (.iconst 1, 1) := by decide +kernel
theorem dX3_work_28 : decode cX3_work 28 = .ok (.isub, 1) := by decide +kernel
theorem dX3_work_29 : decode cX3_work 29 = .ok (.iastore, 1) := by decide +kernel
theorem dX3_work_30 : decode cX3_work 30 = .ok (.aload_n 0, 1) := by decide +kernel
theorem dX3_work_31 : decode cX3_work 31 = .ok (.getfield 37, 3) := by decide +kernel
theorem dX3_work_34 : decode cX3_work 34 = .ok (.iload_n 2, 1) := by decide +kernel
theorem dX3_work_35 : decode cX3_work 35 = .ok (.dup2, 1) := by decide +kernel
theorem dX3_work_36 : decode cX3_work 36 = .ok (.iaload, 1) := by decide +kernel
theorem dX3_work_37 : decode cX3_work 37 = .ok (.iconst 1, 1) := by decide +kernel
theorem dX3_work_38 : decode cX3_work 38 = .ok (.isub, 1) := by decide +kernel
theorem dX3_work_39 : decode cX3_work 39 = .ok (.iastore, 1) := by decide +kernel
theorem dX3_work_40 : decode cX3_work 40 = .ok (.aload_n 0, 1) := by decide +kernel
theorem dX3_work_41 : decode cX3_work 41 = .ok (.getfield 40, 3) := by decide +kernel
theorem dX3_work_44 : decode cX3_work 44 = .ok (.iload_n 2, 1) := by decide +kernel
theorem dX3_work_45 : decode cX3_work 45 = .ok (.dup2, 1) := by decide +kernel
theorem dX3_work_46 : decode cX3_work 46 = .ok (.iaload, 1) := by decide +kernel
theorem dX3_work_47 : decode cX3_work 47 = .ok (.iconst 1, 1) := by decide +kernel
theorem dX3_work_48 : decode cX3_work 48 = .ok (.isub, 1) := by decide +kernel
theorem dX3_work_49 : decode cX3_work 49 = .ok (.iastore, 1) := by decide +kernel
theorem dX3_work_50 : decode cX3_work 50 = .ok (.aload_n 0, 1) := by decide +kernel
theorem dX3_work_51 : decode cX3_work 51 = .ok (.getfield 34, 3) := by decide +kernel
theorem dX3_work_54 : decode cX3_work 54 = .ok (.iload_n 2, 1) := by decide +kernel
theorem dX3_work_55 : decode cX3_work 55 = .ok (.iaload, 1) := by decide +kernel
theorem dX3_work_56 : decode cX3_work 56 = .ok (.ifCond .ne 80, 3) := by decide +kernel
theorem dX3_work_59 : decode cX3_work 59 = .ok (.aload_n 0, 1) := by decide +kernel
theorem dX3_work_60 : decode cX3_work 60 = .ok (.iconst (-1), 1) := by decide +kernel
theorem dX3_work_61 : decode cX3_work 61 = .ok (.putfield 85, 3) := by decide +kernel
theorem dX3_work_64 : decode cX3_work 64 = .ok (.aload_n 0, 1) := by decide +kernel
theorem dX3_work_65 : decode cX3_work 65 = .ok (.getfield 31, 3) := by decide +kernel
theorem dX3_work_68 : decode cX3_work 68 = .ok (.iload_n 2, 1) := by decide +kernel
theorem dX3_work_69 : decode cX3_work 69 = .ok (.dup2, 1) := by decide +kernel
theorem dX3_work_70 : decode cX3_work 70 = .ok (.iaload, 1) := by decide +kernel
theorem dX3_work_71 : decode cX3_work 71 = .ok (.iconst 1, 1) := by decide +kernel
theorem dX3_work_72 : decode cX3_work 72 = .ok (.iadd, 1) := by decide +kernel
theorem dX3_work_73 : decode cX3_work 73 = .ok (.iastore, 1) := by decide +kernel
theorem dX3_work_74 : decode cX3_work 74 = .ok (.aload_n 0, 1) := by decide +kernel
theorem dX3_work_75 : decode cX3_work 75 = .ok (.getfield 31, 3) := by decide +kernel
theorem dX3_work_78 : decode cX3_work 78 = .ok (.iload_n 2, 1) := by decide +kernel
theorem dX3_work_79 : decode cX3_work 79 = .ok (.iaload, 1) := by decide +kernel
theorem dX3_work_80 : decode cX3_work 80 = .ok (.aload_n 0, 1) := by decide +kernel
theorem dX3_work_81 : decode cX3_work 81 = .ok (.getfield 19, 3) := by decide +kernel
theorem dX3_work_84 : decode cX3_work 84 = .ok (.iload_n 2, 1) := by decide +kernel
theorem dX3_work_85 : decode cX3_work 85 = .ok (.iaload, 1) := by decide +kernel
theorem dX3_work_86 : decode cX3_work 86 = .ok (.if_icmp .ne 14, 3) := by decide +kernel
theorem dX3_work_89 : decode cX3_work 89 = .ok (.aload_n 0, 1) := by decide +kernel
theorem dX3_work_90 : decode cX3_work 90 = .ok (.iload_n 2, 1) := by decide +kernel
theorem dX3_work_91 : decode cX3_work 91 = .ok (.iload_n 1, 1) := by decide +kernel
theorem dX3_work_92 : decode cX3_work 92 = .ok (.iconst 1, 1) := by decide +kernel
theorem dX3_work_93 : decode cX3_work 93 = .ok (.iadd, 1) := by decide +kernel
theorem dX3_work_94 : decode cX3_work 94 = .ok (.invokevirtual 103, 3) := by decide +kernel
theorem dX3_work_97 : decode cX3_work 97 = .ok (.goto 150, 3) := by decide +kernel
theorem dX3_work_100 : decode cX3_work 100 = .ok (.aload_n 0, 1) := by decide +kernel
theorem dX3_work_101 : decode cX3_work 101 = .ok (.getfield 25, 3) := by decide +kernel
theorem dX3_work_104 : decode cX3_work 104 = .ok (.iload_n 2, 1) := by decide +kernel
theorem dX3_work_105 : decode cX3_work 105 = .ok (.iconst 3, 1) := by decide +kernel
theorem dX3_work_106 : decode cX3_work 106 = .ok (.iastore, 1) := by decide +kernel
theorem dX3_work_107 : decode cX3_work 107 = .ok (.aload_n 0, 1) := by decide +kernel
theorem dX3_work_108 : decode cX3_work 108 = .ok (.getfield 47, 3) := by decide +kernel
theorem dX3_work_111 : decode cX3_work 111 = .ok (.iload_n 2, 1) := by decide +kernel
theorem dX3_work_112 : decode cX3_work 112 = .ok (.iload_n 1, 1) := by decide +kernel
theorem dX3_work_113 : decode cX3_work 113 = .ok (.iconst 1, 1) := by decide +kernel
theorem dX3_work_114 : decode cX3_work 114 = .ok (.iadd, 1) := by decide +kernel
theorem dX3_work_115 : decode cX3_work 115 = .ok (.aload_n 0, 1) := by decide +kernel
theorem dX3_work_116 : decode cX3_work 116 = .ok (.getfield 22, 3) := by decide +kernel
theorem dX3_work_119 : decode cX3_work 119 = .ok (.bipush 12, 2) := by decide +kernel
theorem dX3_work_121 : decode cX3_work 121 = .ok (.iload_n 2, 1) := by decide +kernel
theorem dX3_work_122 : decode cX3_work 122 = .ok (.imul, 1) := by decide +kernel
theorem dX3_work_123 : decode cX3_work 123 = .ok (.aload_n 0, 1) := by decide +kernel
theorem dX3_work_124 : decode cX3_work 124 = .ok (.getfield 31, 3) := by decide +kernel
theorem dX3_work_127 : decode cX3_work 127 = .ok (.iload_n 2, 1) := by decide +kernel
theorem dX3_work_128 : decode cX3_work 128 = .ok (.iaload, 1) := by decide +kernel
theorem dX3_work_129 : decode cX3_work 129 = .ok (.iadd, 1) := by decide +kernel
theorem dX3_work_130 : decode cX3_work 130 = .ok (.iaload, 1) := by decide +kernel
theorem dX3_work_131 : decode cX3_work 131 = .ok (.iadd, 1) := by decide +kernel
theorem dX3_work_132 : decode cX3_work 132 = .ok (.iastore, 1) := by decide +kernel
theorem dX3_work_133 : decode cX3_work 133 = .ok (.goto 114, 3) := by decide +kernel
theorem dX3_work_136 : decode cX3_work 136 = .ok (.aload_n 0, 1) := by decide +kernel
theorem dX3_work_137 : decode cX3_work 137 = .ok (.getfield 40, 3) := by decide +kernel
theorem dX3_work_140 : decode cX3_work 140 = .ok (.iload_n 2, 1) := by decide +kernel
theorem dX3_work_141 : decode cX3_work 141 = .ok (.iaload, 1) := by decide +kernel
theorem dX3_work_142 : decode cX3_work 142 = .ok (.ifCond .gt 80, 3) := by decide +kernel
theorem dX3_work_145 : decode cX3_work 145 = .ok (.aload_n 0, 1) := by decide +kernel
theorem dX3_work_146 : decode cX3_work 146 = .ok (.iconst (-1), 1) := by decide +kernel
theorem dX3_work_147 : decode cX3_work 147 = .ok (.putfield 85, 3) := by decide +kernel
theorem dX3_work_150 : decode cX3_work 150 = .ok (.aload_n 0, 1) := by decide +kernel
theorem dX3_work_151 : decode cX3_work 151 = .ok (.getfield 28, 3) := by decide +kernel
theorem dX3_work_154 : decode cX3_work 154 = .ok (.iload_n 2, 1) := by decide +kernel
theorem dX3_work_155 : decode cX3_work 155 = .ok (.iaload, 1) := by decide +kernel
theorem dX3_work_156 : decode cX3_work 156 = .ok (.aload_n 0, 1) := by decide +kernel
theorem dX3_work_157 : decode cX3_work 157 = .ok (.getfield 73, 3) := by decide +kernel
theorem dX3_work_160 : decode cX3_work 160 = .ok (.iconst 1, 1) := by decide +kernel
theorem dX3_work_161 : decode cX3_work 161 = .ok (.isub, 1) := by decide +kernel
theorem dX3_work_162 : decode cX3_work 162 = .ok (.if_icmp .ge 29, 3) := by decide +kernel
theorem dX3_work_165 : decode cX3_work 165 = .ok (.aload_n 0, 1) := by decide +kernel
theorem dX3_work_166 : decode cX3_work 166 = .ok (.getfield 28, 3) := by decide +kernel
theorem dX3_work_169 : decode cX3_work 169 = .ok (.iload_n 2, 1) := by decide +kernel
theorem dX3_work_170 : decode cX3_work 170 = .ok (.dup2, 1) := by decide +kernel
theorem dX3_work_171 : decode cX3_work 171 = .ok (.iaload, 1) := by decide +kernel
theorem dX3_work_172 : decode cX3_work 172 = .ok (.iconst 1, 1) := by decide +kernel
theorem dX3_work_173 : decode cX3_work 173 = .ok (.iadd, 1) := by decide +kernel
theorem dX3_work_174 : decode cX3_work 174 = .ok (.iastore, 1) := by decide +kernel
theorem dX3_work_175 : decode cX3_work 175 = .ok (.aload_n 0, 1) := by decide +kernel
theorem dX3_work_176 : decode cX3_work 176 = .ok (.getfield 50, 3) := by decide +kernel
theorem dX3_work_179 : decode cX3_work 179 = .ok (.bipush 10, 2) := by decide +kernel
theorem dX3_work_181 : decode cX3_work 181 = .ok (.iload_n 2, 1) := by decide +kernel
theorem dX3_work_182 : decode cX3_work 182 = .ok (.imul, 1) := by decide +kernel
theorem dX3_work_183 : decode cX3_work 183 = .ok (.bipush 8, 2) := by decide +kernel
theorem dX3_work_185 : decode cX3_work 185 = .ok (.iadd, 1) := by decide +kernel
theorem dX3_work_186 : decode cX3_work 186 = .ok (.dup2, 1) := by decide +kernel
theorem dX3_work_187 : decode cX3_work 187 = .ok (.iaload, 1) := by decide +kernel
theorem dX3_work_188 : decode cX3_work 188 = .ok (.iconst 1, 1) := by decide +kernel
theorem dX3_work_189 : decode cX3_work 189 = .ok (.iadd, 1) := by decide +kernel
theorem dX3_work_190 : decode cX3_work 190 = .ok (.iastore, 1) := by decide +kernel
theorem dX3_work_191 : decode cX3_work 191 = .ok (.aload_n 0, 1) := by decide +kernel
theorem dX3_work_192 : decode cX3_work 192 = .ok (.getfield 40, 3) := by decide +kernel
theorem dX3_work_195 : decode cX3_work 195 = .ok (.iload_n 2, 1) := by decide +kernel
theorem dX3_work_196 : decode cX3_work 196 = .ok (.aload_n 0, 1) := by decide +kernel
theorem dX3_work_197 : decode cX3_work 197 = .ok (.getfield 13, 3) := by decide +kernel
theorem dX3_work_200 : decode cX3_work 200 = .ok (.aload_n 0, 1) := by decide +kernel
theorem dX3_work_201 : decode cX3_work 201 = .ok (.getfield 28, 3) := by decide +kernel
theorem dX3_work_204 : decode cX3_work 204 = .ok (.iload_n 2, 1) := by decide +kernel
theorem dX3_work_205 : decode cX3_work 205 = .ok (.iaload, 1) := by decide +kernel
theorem dX3_work_206 : decode cX3_work 206 = .ok (.iaload, 1) := by decide +kernel
theorem dX3_work_207 : decode cX3_work 207 = .ok (.iastore, 1) := by decide +kernel
theorem dX3_work_208 : decode cX3_work 208 = .ok (.aload_n 0, 1) := by decide +kernel
theorem dX3_work_209 : decode cX3_work 209 = .ok (.aload_n 0, 1) := by decide +kernel
theorem dX3_work_210 : decode cX3_work 210 = .ok (.getfield 28, 3) := by decide +kernel
theorem dX3_work_213 : decode cX3_work 213 = .ok (.iload_n 2, 1) := by decide +kernel
theorem dX3_work_214 : decode cX3_work 214 = .ok (.iaload, 1) := by decide +kernel
theorem dX3_work_215 : decode cX3_work 215 = .ok (.iload_n 2, 1) := by decide +kernel
theorem dX3_work_216 : decode cX3_work 216 = .ok (.invokevirtual 99, 3) := by decide +kernel
theorem dX3_work_219 : decode cX3_work 219 = .ok (.goto 28, 3) := by decide +kernel
theorem dX3_work_222 : decode cX3_work 222 = .ok (.aload_n 0, 1) := by decide +kernel
theorem dX3_work_223 : decode cX3_work 223 = .ok (.getfield 37, 3) := by decide +kernel
theorem dX3_work_226 : decode cX3_work 226 = .ok (.iload_n 2, 1) := by decide +kernel
theorem dX3_work_227 : decode cX3_work 227 = .ok (.iaload, 1) := by decide +kernel
theorem dX3_work_228 : decode cX3_work 228 = .ok (.ifCond .ne 19, 3) := by decide +kernel
theorem dX3_work_231 : decode cX3_work 231 = .ok (.aload_n 0, 1) := by decide +kernel
theorem dX3_work_232 : decode cX3_work 232 = .ok (.iconst (-1), 1) := by decide +kernel
theorem dX3_work_233 : decode cX3_work 233 = .ok (.putfield 85, 3) := by decide +kernel
theorem dX3_work_236 : decode cX3_work 236 = .ok (.aload_n 0, 1) := by decide +kernel
theorem dX3_work_237 : decode cX3_work 237 = .ok (.aload_n 0, 1) := by decide +kernel
theorem dX3_work_238 : decode cX3_work 238 = .ok (.getfield 28, 3) := by decide +kernel
theorem dX3_work_241 : decode cX3_work 241 = .ok (.iload_n 2, 1) := by decide +kernel
theorem dX3_work_242 : decode cX3_work 242 = .ok (.iaload, 1) := by decide +kernel
theorem dX3_work_243 : decode cX3_work 243 = .ok (.iload_n 2, 1) := by decide +kernel
theorem dX3_work_244 : decode cX3_work 244 = .ok (.invokevirtual 99, 3) := by decide +kernel
theorem dX3_work_247 : decode cX3_work 247 = .ok (.return_, 1) := by decide +kernel
theorem dX3_count_0 : decode cX3_count 0 = .ok (.iconst 0, 1) := by decide +kernel
theorem dX3_count_1 : decode cX3_count 1 = .ok (.istore_n 1, 1) := by decide +kernel
theorem dX3_count_2 : decode cX3_count 2 = .ok (.iload_n 1, 1) := by decide +kernel
theorem dX3_count_3 : decode cX3_count 3 = .ok (.aload_n 0, 1) := by decide +kernel
theorem dX3_count_4 : decode cX3_count 4 = .ok (.getfield 76, 3) := by decide +kernel
theorem dX3_count_7 : decode cX3_count 7 = .ok (.if_icmp .ge 62, 3) := by decide +kernel
theorem dX3_count_10 : decode cX3_count 10 = .ok (.aload_n 0, 1) := by decide +kernel
theorem dX3_count_11 : decode cX3_count 11 = .ok (.getfield 25, 3) := by decide +kernel
theorem dX3_count_14 : decode cX3_count 14 = .ok (.iload_n 1, 1) := by decide +kernel
theorem dX3_count_15 : decode cX3_count 15 = .ok (.iaload, 1) := by decide +kernel
theorem dX3_count_16 : decode cX3_count 16 = .ok (.iconst 1, 1) := by decide +kernel
theorem dX3_count_17 : decode cX3_count 17 = .ok (.if_icmp .ne 21, 3) := by decide +kernel
theorem dX3_count_20 : decode cX3_count 20 = .ok (.aload_n 0, 1) := by decide +kernel
theorem dX3_count_21 : decode cX3_count 21 = .ok (.getfield 50, 3) := by decide +kernel
theorem dX3_count_24 : decode cX3_count 24 = .ok (.bipush 10, 2) := by decide +kernel
theorem dX3_count_26 : decode cX3_count 26 = .ok (.iload_n 1, 1) := by decide +kernel
theorem dX3_count_27 : decode cX3_count 27 = .ok (.imul, 1) := by decide +kernel
theorem dX3_count_28 : decode cX3_count 28 = .ok (.iconst 3, 1) := by decide +kernel
theorem dX3_count_29 : decode cX3_count 29 = .ok (.iadd, 1) := by decide +kernel
theorem dX3_count_30 : decode cX3_count 30 = .ok (.dup2, 1) := by decide +kernel
theorem dX3_count_31 : decode cX3_count 31 = .ok (.iaload, 1) := by decide +kernel
theorem dX3_count_32 : decode cX3_count 32 = .ok (.iconst 1, 1) := by decide +kernel
theorem dX3_count_33 : decode cX3_count 33 = .ok (.iadd, 1) := by decide +kernel
theorem dX3_count_34 : decode cX3_count 34 = .ok (.iastore, 1) := by decide +kernel
theorem dX3_count_35 : decode cX3_count 35 = .ok (.goto 28, 3) := by decide +kernel
theorem dX3_count_38 : decode cX3_count 38 = .ok (.aload_n 0, 1) := by decide +kernel
theorem dX3_count_39 : decode cX3_count 39 = .ok (.getfield 25, 3) := by decide +kernel
theorem dX3_count_42 : decode cX3_count 42 = .ok (.iload_n 1, 1) := by decide +kernel
theorem dX3_count_43 : decode cX3_count 43 = .ok (.iaload, 1) := by decide +kernel
theorem dX3_count_44 : decode cX3_count 44 = .ok (.iconst 3, 1) := by decide +kernel
theorem dX3_count_45 : decode cX3_count 45 = .ok (.if_icmp .ne 18, 3) := by decide +kernel
theorem dX3_count_48 : decode cX3_count 48 = .ok (.aload_n 0, 1) := by decide +kernel
theorem dX3_count_49 : decode cX3_count 49 = .ok (.getfield 50, 3) := by decide +kernel
theorem dX3_count_52 : decode cX3_count 52 = .ok (.bipush 10, 2) := by decide +kernel
theorem dX3_count_54 : decode cX3_count 54 = .ok (.iload_n 1, 1) := by decide +kernel
theorem dX3_count_55 : decode cX3_count 55 = .ok (.imul, 1) := by decide +kernel
theorem dX3_count_56 : decode cX3_count 56 = .ok (.iconst 4, 1) := by decide +kernel
theorem dX3_count_57 : decode cX3_count 57 = .ok (.iadd, 1) := by decide +kernel
theorem dX3_count_58 : decode cX3_count 58 = .ok (.dup2, 1) := by decide +kernel
theorem dX3_count_59 : decode cX3_count 59 = .ok (.iaload, 1) := by decide +kernel
theorem dX3_count_60 : decode cX3_count 60 = .ok (.iconst 1, 1) := by decide +kernel
theorem dX3_count_61 : decode cX3_count 61 = .ok (.iadd, 1) := by decide +kernel
theorem dX3_count_62 : decode cX3_count 62 = .ok (.iastore, 1) := by decide +kernel
theorem dX3_count_63 : decode cX3_count 63 = .ok (.iinc 1 1, 3) := by decide +kernel
theorem dX3_count_66 : decode cX3_count 66 = .ok (.goto (-64), 3) := by decide +kernel
theorem dX3_count_69 : decode cX3_count 69 = .ok (.return_, 1) := by decide +kernel
