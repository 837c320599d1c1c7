set_option maxRecDepth 20000 in
theorem ggX3_run_X3_allUp : GoodIn wsX3_run wsX3_allUp := goodIn_r _ [11, 6, 12, 13, 14, 15, 16, 17, 18, 19, 20, 21, 5, 22, 23, 24, 10, 25, 26, 27, 28, 29, 30, 71, 72, 73, 74, 75, 76, 77, 78, 79, 80, 81, 82, 83, 84, 85, 86, 87, 88, 89, 90, 91, 92, 93, 94] (by decide +kernel) (by decide +kernel)
set_option maxRecDepth 20000 in
theorem gX3_run_X3_allUp : GoodIn wsX3_run (wsV RX3 114 RX3 yX3_allUp wsX3_allUp) := goodIn_app (goodIn_of _ (by decide +kernel)) ggX3_run_X3_allUp
set_option maxRecDepth 20000 in
theorem ggX3_run_X3_come : GoodIn wsX3_run wsX3_come := goodIn_r _ [34, 14, 35, 36, 16, 17, 18, 37, 38, 39, 40, 41, 10, 42, 15, 43, 6, 27, 28, 29, 30, 26, 13, 71, 72, 73, 74, 75, 76, 77, 78, 79, 80, 81, 82, 83, 84, 85, 86, 87, 88, 89, 90, 91, 92, 93, 94] (by decide +kernel) (by decide +kernel)
set_option maxRecDepth 20000 in
theorem gX3_run_X3_come : GoodIn wsX3_run (wsV RX3 117 RX3 yX3_come wsX3_come) := goodIn_app (goodIn_of _ (by decide +kernel)) ggX3_run_X3_come
set_option maxRecDepth 20000 in
theorem ggX3_run_X3_comeBack : GoodIn wsX3_run wsX3_comeBack := goodIn_r _ [47, 14, 15, 48, 49, 36, 37, 38, 16, 39, 40, 41, 10, 42, 43, 6, 27, 28, 29, 30, 26, 13, 71, 72, 73, 74, 75, 76, 77, 78, 79, 80, 81, 82, 83, 84, 85, 86, 87, 88, 89, 90, 91, 92, 93, 94] (by decide +kernel) (by decide +kernel)
set_option maxRecDepth 20000 in
theorem gX3_run_X3_comeBack : GoodIn wsX3_run (wsV RX3 120 RX3 yX3_comeBack wsX3_comeBack) := goodIn_app (goodIn_of _ (by decide +kernel)) ggX3_run_X3_comeBack
set_option maxRecDepth 20000 in
theorem ggX3_run_X3_choose : GoodIn wsX3_run wsX3_choose := goodIn_r _ [53, 5, 16, 19, 43, 15, 20, 21, 6, 54, 55, 56, 57, 10, 58, 12, 13, 59, 60, 61, 62, 26, 22, 23, 24, 25, 71, 72, 73, 74, 75, 76, 77, 78, 79, 80, 81, 82, 83, 84, 85, 86, 87, 88, 89, 90, 91, 92, 93, 94] (by decide +kernel) (by decide +kernel)
set_option maxRecDepth 20000 in
theorem gX3_run_X3_choose : GoodIn wsX3_run (wsV RX3 123 RX3 yX3_choose wsX3_choose) := goodIn_app (goodIn_of _ (by decide +kernel)) ggX3_run_X3_choose
set_option maxRecDepth 20000 in
theorem ggX3_run_X3_count : GoodIn wsX3_run wsX3_count := goodIn_r _ [66, 14, 15, 43, 71, 72, 73, 74, 75, 76, 77, 78, 79, 80, 81, 82, 83, 84, 85, 86, 87, 88, 89, 90, 91, 92, 93, 94] (by decide +kernel) (by decide +kernel)
set_option maxRecDepth 20000 in
theorem gX3_run_X3_count : GoodIn wsX3_run (wsV RX3 126 RX3 yX3_count wsX3_count) := goodIn_app (goodIn_of _ (by decide +kernel)) ggX3_run_X3_count
set_option maxRecDepth 20000 in
theorem ggX3_run_X3_work : GoodIn wsX3_run wsX3_work := goodIn_r _ [70, 5, 43, 37, 20, 17, 49, 36, 15, 48, 38, 16, 12, 18, 39, 40, 41, 10, 42, 6, 27, 28, 29, 30, 26, 13, 71, 72, 73, 74, 75, 76, 77, 78, 79, 80, 81, 82, 83, 84, 85, 86, 87, 88, 89, 90, 91, 92, 93, 94] (by decide +kernel) (by decide +kernel)
set_option maxRecDepth 20000 in
theorem gX3_run_X3_work : GoodIn wsX3_run (wsV RX3 129 RX3 yX3_work wsX3_work) := goodIn_app (goodIn_of _ (by decide +kernel)) ggX3_run_X3_work
theorem dX3_run_0 : decode cX3_run 0 = .ok (.aload_n 0, 1) := by decide +kernel
theorem dX3_run_1 : decode cX3_run 1 = .ok (.iload_n 1, 1) := by decide +kernel
theorem dX3_run_2 : decode cX3_run 2 = .ok (.ifCond .lt 21, 3) := by decide +kernel
theorem dX3_run_5 : decode cX3_run 5 = .ok (.iload_n 1, 1) := by decide +kernel
theorem dX3_run_6 : decode cX3_run 6 = .ok (.sipush 30000, 3) := by decide +kernel
theorem dX3_run_9 : decode cX3_run 9 = .ok (.if_icmp .gt 14, 3) := by decide +kernel
theorem dX3_run_12 : decode cX3_run 12 = .ok (.aload_n 0, 1) := by decide +kernel
theorem dX3_run_13 : decode cX3_run 13 = .ok (.getfield 82, 3) := by decide +kernel
theorem dX3_run_16 : decode cX3_run 16 = .ok (.iload_n 1, 1) := by decide +kernel
theorem dX3_run_17 : decode cX3_run 17 = .ok (.iadd, 1) := by decide +kernel
theorem dX3_run_18 : decode cX3_run 18 = .ok (.ldc 113, 2) := by decide +kernel
theorem dX3_run_20 : decode cX3_run 20 = .ok (.if_icmp .le 7, 3) := by decide +kernel
theorem dX3_run_23 : decode cX3_run 23 = .ok (.iconst 1, 1) := by decide +kernel
theorem dX3_run_24 : decode cX3_run 24 = .ok (.goto 4, 3) := by decide +kernel
theorem dX3_run_27 : decode cX3_run 27 = .ok (.iconst 0, 1) := by decide +kernel
theorem dX3_run_28 : decode cX3_run 28 = .ok (.putfield 69, 3) := by decide +kernel
theorem dX3_run_31 : decode cX3_run 31 = .ok (.iconst 0, 1) := by decide +kernel
theorem dX3_run_32 : decode cX3_run 32 = .ok (.istore_n 2, 1) := by decide +kernel
theorem dX3_run_33 : decode cX3_run 33 = .ok (.iconst 0, 1) := by decide +kernel
theorem dX3_run_34 : decode cX3_run 34 = .ok (.istore_n 3, 1) := by decide +kernel
theorem dX3_run_35 : decode cX3_run 35 = .ok (.iload_n 3, 1) := by decide +kernel
theorem dX3_run_36 : decode cX3_run 36 = .ok (.iload_n 1, 1) := by decide +kernel
theorem dX3_run_37 : decode cX3_run 37 = .ok (.if_icmp .ge 109, 3) := by decide +kernel
theorem dX3_run_40 : decode cX3_run 40 = .ok (.aload_n 0, 1) := by decide +kernel
theorem dX3_run_41 : decode cX3_run 41 = .ok (.getfield 69, 3) := by decide +kernel
theorem dX3_run_44 : decode cX3_run 44 = .ok (.ifCond .ne 102, 3) := by decide +kernel
theorem dX3_run_47 : decode cX3_run 47 = .ok (.aload_n 0, 1) := by decide +kernel
theorem dX3_run_48 : decode cX3_run 48 = .ok (.getfield 82, 3) := by decide +kernel
theorem dX3_run_51 : decode cX3_run 51 = .ok (.istore 4, 2) := by decide +kernel
theorem dX3_run_53 : decode cX3_run 53 = .ok (.aload_n 0, 1) := by decide +kernel
theorem dX3_run_54 : decode cX3_run 54 = .ok (.getfield 88, 3) := by decide +kernel
theorem dX3_run_57 : decode cX3_run 57 = .ok (.ifCond .le 22, 3) := by decide +kernel
theorem dX3_run_60 : decode cX3_run 60 = .ok (.iload 4, 2) := by decide +kernel
theorem dX3_run_62 : decode cX3_run 62 = .ok (.ifCond .le 17, 3) := by decide +kernel
theorem dX3_run_65 : decode cX3_run 65 = .ok (.iload 4, 2) := by decide +kernel
theorem dX3_run_67 : decode cX3_run 67 = .ok (.aload_n 0, 1) := by decide +kernel
theorem dX3_run_68 : decode cX3_run 68 = .ok (.getfield 88, 3) := by decide +kernel
theorem dX3_run_71 : decode cX3_run 71 = .ok (.irem, 1) := by decide +kernel
theorem dX3_run_72 : decode cX3_run 72 = .ok (.ifCond .ne 7, 3) := by decide +kernel
theorem dX3_run_75 : decode cX3_run 75 = .ok (.aload_n 0, 1) := by decide +kernel
theorem dX3_run_76 : decode cX3_run 76 = .ok (.invokevirtual 114, 3) := by decide +kernel
theorem dX3_run_79 : decode cX3_run 79 = .ok (.aload_n 0, 1) := by decide +kernel
theorem dX3_run_80 : decode cX3_run 80 = .ok (.iload 4, 2) := by decide +kernel
theorem dX3_run_82 : decode cX3_run 82 = .ok (.invokevirtual 117, 3) := by decide +kernel
theorem dX3_run_85 : decode cX3_run 85 = .ok (.aload_n 0, 1) := by decide +kernel
theorem dX3_run_86 : decode cX3_run 86 = .ok (.iload 4, 2) := by decide +kernel
theorem dX3_run_88 : decode cX3_run 88 = .ok (.invokevirtual 120, 3) := by decide +kernel
theorem dX3_run_91 : decode cX3_run 91 = .ok (.aload_n 0, 1) := by decide +kernel
theorem dX3_run_92 : decode cX3_run 92 = .ok (.iload 4, 2) := by decide +kernel
theorem dX3_run_94 : decode cX3_run 94 = .ok (.invokevirtual 123, 3) := by decide +kernel
theorem dX3_run_97 : decode cX3_run 97 = .ok (.aload_n 0, 1) := by decide +kernel
theorem dX3_run_98 : decode cX3_run 98 = .ok (.invokevirtual 126, 3) := by decide +kernel
theorem dX3_run_101 : decode cX3_run 101 = .ok (.aload_n 0, 1) := by decide +kernel
theorem dX3_run_102 : decode cX3_run 102 = .ok (.getfield 85, 3) := by decide +kernel
theorem dX3_run_105 : decode cX3_run 105 = .ok (.ifCond .lt 12, 3) := by decide +kernel
theorem dX3_run_108 : decode cX3_run 108 = .ok (.aload_n 0, 1) := by decide +kernel
theorem dX3_run_109 : decode cX3_run 109 = .ok (.iload 4, 2) := by decide +kernel
theorem dX3_run_111 : decode cX3_run 111 = .ok (.invokevirtual 129, 3) := by decide +kernel
theorem dX3_run_114 : decode cX3_run 114 = .ok (.goto 16, 3) := by decide +kernel
theorem dX3_run_117 : decode cX3_run 117 = .ok (.iinc 2 1, 3) := by decide +kernel
theorem dX3_run_120 : decode cX3_run 120 = .ok (.aload_n 0, 1) := by decide +kernel
theorem dX3_run_121 : decode cX3_run 121 = .ok (.getfield 59, 3) := by decide +kernel
theorem dX3_run_124 : decode cX3_run 124 = .ok (.iconst 1, 1) := by decide +kernel
theorem dX3_run_125 : decode cX3_run 125 = .ok (.dup2, 1) := by decide +kernel
theorem dX3_run_126 : decode cX3_run 126 = .ok (.iaload, 1) := by decide +kernel
theorem dX3_run_127 : decode cX3_run 127 = .ok (.iconst 1, 1) := by decide +kernel
theorem dX3_run_128 : decode cX3_run 128 = .ok (.iadd, 1) := by decide +kernel
theorem dX3_run_129 : decode cX3_run 129 = .ok (.iastore, 1) := by decide +kernel
theorem dX3_run_130 : decode cX3_run 130 = .ok (.aload_n 0, 1) := by decide +kernel
theorem dX3_run_131 : decode cX3_run 131 = .ok (.dup, 1) := by decide +kernel
theorem dX3_run_132 : decode cX3_run 132 = .ok (.getfield 82, 3) := by decide +kernel
theorem dX3_run_135 : decode cX3_run 135 = .ok (.iconst 1, 1) := by decide +kernel
theorem dX3_run_136 : decode cX3_run 136 = .ok (.iadd, 1) := by decide +kernel
theorem dX3_run_137 : decode cX3_run 137 = .ok (.putfield 82, 3) := by decide +kernel
theorem dX3_run_140 : decode cX3_run 140 = .ok (.iinc 3 1, 3) := by decide +kernel
theorem dX3_run_143 : decode cX3_run 143 = .ok (.goto (-108), 3) := by decide +kernel
theorem dX3_run_146 : decode cX3_run 146 = .ok (.iload_n 2, 1) := by decide +kernel
theorem dX3_run_147 : decode cX3_run 147 = .ok (.ireturn, 1) := by decide +kernel
set_option maxRecDepth 20000 in
theorem ggX3_restart_X3_begin : GoodIn wsX3_restart wsX3_begin := goodIn_r _ [6, 7, 8, 9, 10, 11, 12, 13, 14, 15, 16, 17, 18, 19, 20, 21, 22, 23, 24, 25, 26, 27, 28, 29, 30, 31, 32, 33, 34, 35, 36, 37, 38, 39] (by decide +kernel) (by decide +kernel)
set_option maxRecDepth 20000 in
theorem gX3_restart_X3_begin : GoodIn wsX3_restart (wsV RX3 79 RX3 yX3_begin wsX3_begin) := goodIn_app (goodIn_of _ (by decide +kernel)) ggX3_restart_X3_begin
theorem dX3_restart_0 : decode cX3_restart 0 = .ok (.aload_n 0, 1) := by decide +kernel
theorem dX3_restart_1 : decode cX3_restart 1 = .ok (.iconst 0, 1) := by decide +kernel
theorem dX3_restart_2 : decode cX3_restart 2 = .ok (.putfield 69, 3) := by decide +kernel
theorem dX3_restart_5 : decode cX3_restart 5 = .ok (.aload_n 0, 1) := by decide +kernel
theorem dX3_restart_6 : decode cX3_restart 6 = .ok (.invokevirtual 79, 3) := by decide +kernel
theorem dX3_restart_9 : decode cX3_restart 9 = .ok (.return_, 1) := by decide +kernel
theorem dX3_time_0 : decode cX3_time 0 = .ok (.aload_n 0, 1) := by decide +kernel
theorem dX3_time_1 : decode cX3_time 1 = .ok (.iconst 0, 1) := by decide +kernel
theorem dX3_time_2 : decode cX3_time 2 = .ok (.putfield 69, 3) := by decide +kernel
theorem dX3_time_5 : decode cX3_time 5 = .ok (.aload_n 0, 1) := by decide +kernel
theorem dX3_time_6 : decode cX3_time 6 = .ok (.getfield 82, 3) := by decide +kernel
theorem dX3_time_9 : decode cX3_time 9 = .ok (.ireturn, 1) := by decide +kernel
set_option maxRecDepth 20000 in
theorem ggX3_told_X3_noProcess : GoodIn wsX3_told wsX3_noProcess := goodIn_r _ [9, 10, 11, 12, 13, 14, 15, 16, 17, 18, 19, 20, 21, 22, 23, 24, 25, 26, 27, 28, 29, 30, 31, 32, 33, 34] (by decide +kernel) (by decide +kernel)
set_option maxRecDepth 20000 in
theorem gX3_told_X3_noProcess : GoodIn wsX3_told (wsV RX3 91 RX3 yX3_noProcess wsX3_noProcess) := goodIn_app (goodIn_of _ (by decide +kernel)) ggX3_told_X3_noProcess
theorem dX3_told_0 : decode cX3_told 0 = .ok (.aload_n 0, 1) := by decide +kernel
theorem dX3_told_1 : decode cX3_told 1 = .ok (.aload_n 0, 1) := by decide +kernel
theorem dX3_told_2 : decode cX3_told 2 = .ok (.iload_n 1, 1) := by decide +kernel
theorem dX3_told_3 : decode cX3_told 3 = .ok (.invokevirtual 91, 3) := by decide +kernel
theorem dX3_told_6 : decode cX3_told 6 = .ok (.ifCond .eq 7, 3) := by decide +kernel
theorem dX3_told_9 : decode cX3_told 9 = .ok (.iconst 1, 1) := by decide +kernel
theorem dX3_told_10 : decode cX3_told 10 = .ok (.goto 18, 3) := by decide +kernel
theorem dX3_told_13 : decode cX3_told 13 = .ok (.iload_n 2, 1) := by decide +kernel
theorem dX3_told_14 : decode cX3_told 14 = .ok (.ifCond .lt 9, 3) := by decide +kernel
theorem dX3_told_17 : decode cX3_told 17 = .ok (.iload_n 2, 1) := by decide +kernel
theorem dX3_told_18 : decode cX3_told 18 = .ok (.bipush 9, 2) := by decide +kernel
theorem dX3_told_20 : decode cX3_told 20 = .ok (.if_icmp .le 7, 3) := by decide +kernel
theorem dX3_told_23 : decode cX3_told 23 = .ok (.iconst 2, 1) := by decide +kernel
theorem dX3_told_24 : decode cX3_told 24 = .ok (.goto 4, 3) := by decide +kernel
theorem dX3_told_27 : decode cX3_told 27 = .ok (.iconst 0, 1) := by decide +kernel
theorem dX3_told_28 : decode cX3_told 28 = .ok (.putfield 69, 3) := by decide +kernel
theorem dX3_told_31 : decode cX3_told 31 = .ok (.aload_n 0, 1) := by decide +kernel
theorem dX3_told_32 : decode cX3_told 32 = .ok (.getfield 69, 3) := by decide +kernel
theorem dX3_told_35 : decode cX3_told 35 = .ok (.ifCond .le 5, 3) := by decide +kernel
theorem dX3_told_38 : decode cX3_told 38 = .ok (.iconst 0, 1) := by decide +kernel
theorem dX3_told_39 : decode cX3_told 39 = .ok (.ireturn, 1) := by decide +kernel
theorem dX3_told_40 : decode cX3_told 40 = .ok (.iload_n 2, 1) := by decide +kernel
theorem dX3_told_41 : decode cX3_told 41 = .ok (.ifCond .ne 12, 3) := by decide +kernel
theorem dX3_told_44 : decode cX3_told 44 = .ok (.aload_n 0, 1) := by decide +kernel
theorem dX3_told_45 : decode cX3_told 45 = .ok (.getfield 25, 3) := by decide +kernel
theorem dX3_told_48 : decode cX3_told 48 = .ok (.iload_n 1, 1) := by decide +kernel
theorem dX3_told_49 : decode cX3_told 49 = .ok (.iaload, 1) := by decide +kernel
theorem dX3_told_50 : decode cX3_told 50 = .ok (.goto 28, 3) := by decide +kernel
theorem dX3_told_53 : decode cX3_told 53 = .ok (.iload_n 2, 1) := by decide +kernel
theorem dX3_told_54 : decode cX3_told 54 = .ok (.iconst 1, 1) := by decide +kernel
theorem dX3_told_55 : decode cX3_told 55 = .ok (.if_icmp .ne 12, 3) := by decide +kernel
theorem dX3_told_58 : decode cX3_told 58 = .ok (.aload_n 0, 1) := by decide +kernel
theorem dX3_told_59 : decode cX3_told 59 = .ok (.getfield 28, 3) := by decide +kernel
theorem dX3_told_62 : decode cX3_told 62 = .ok (.iload_n 1, 1) := by decide +kernel
theorem dX3_told_63 : decode cX3_told 63 = .ok (.iaload, 1) := by decide +kernel
theorem dX3_told_64 : decode cX3_told 64 = .ok (.goto 14, 3) := by decide +kernel
theorem dX3_told_67 : decode cX3_told 67 = .ok (.aload_n 0, 1) := by decide +kernel
theorem dX3_told_68 : decode cX3_told 68 = .ok (.getfield 50, 3) := by decide +kernel
theorem dX3_told_71 : decode cX3_told 71 = .ok (.bipush 10, 2) := by decide +kernel
theorem dX3_told_73 : decode cX3_told 73 = .ok (.iload_n 1, 1) := by decide +kernel
theorem dX3_told_74 : decode cX3_told 74 = .ok (.imul, 1) := by decide +kernel
theorem dX3_told_75 : decode cX3_told 75 = .ok (.iload_n 2, 1) := by decide +kernel
theorem dX3_told_76 : decode cX3_told 76 = .ok (.iadd, 1) := by decide +kernel
theorem dX3_told_77 : decode cX3_told 77 = .ok (.iaload, 1) := by decide +kernel
theorem dX3_told_78 : decode cX3_told 78 = .ok (.ireturn, 1) := by decide +kernel
theorem dX3_running_0 : decode cX3_running 0 = .ok (.aload_n 0, 1) := by decide +kernel
theorem dX3_running_1 : decode cX3_running 1 = .ok (.iconst 0, 1) := by decide +kernel
theorem dX3_running_2 : decode cX3_running 2 = .ok (.putfield 69, 3) := by decide +kernel
theorem dX3_running_5 : decode cX3_running 5 = .ok (.aload_n 0, 1) := by decide +kernel
theorem dX3_running_6 : decode cX3_running 6 = .ok (.getfield 85, 3) := by decide +kernel
theorem dX3_running_9 : decode cX3_running 9 = .ok (.ireturn, 1) := by decide +kernel
theorem dX3_queued_0 : decode cX3_queued 0 = .ok (.aload_n 0, 1) := by decide +kernel
theorem dX3_queued_1 : decode cX3_queued 1 = .ok (.iload_n 1, 1) := by decide +kernel
theorem dX3_queued_2 : decode cX3_queued 2 = .ok (.ifCond .lt 11, 3) := by decide +kernel
theorem dX3_queued_5 : decode cX3_queued 5 = .ok (.iload_n 1, 1) := by decide +kernel
theorem dX3_queued_6 : decode cX3_queued 6 = .ok (.aload_n 0, 1) := by decide +kernel
theorem dX3_queued_7 : decode cX3_queued 7 = .ok (.getfield 73, 3) := by decide +kernel
theorem dX3_queued_10 : decode cX3_queued 10 = .ok (.if_icmp .lt 7, 3) := by decide +kernel
theorem dX3_queued_13 : decode cX3_queued 13 = .ok (.iconst 1, 1) := by decide +kernel
theorem dX3_queued_14 : decode cX3_queued 14 = .ok (.goto 4, 3) := by decide +kernel
theorem dX3_queued_17 : decode cX3_queued 17 = .ok (.iconst 0, 1) := by decide +kernel
theorem dX3_queued_18 : decode cX3_queued 18 = .ok (.putfield 69, 3) := by decide +kernel
theorem dX3_queued_21 : decode cX3_queued 21 = .ok (.aload_n 0, 1) := by decide +kernel
theorem dX3_queued_22 : decode cX3_queued 22 = .ok (.getfield 69, 3) := by decide +kernel
theorem dX3_queued_25 : decode cX3_queued 25 = .ok (.ifCond .le 5, 3) := by decide +kernel
theorem dX3_queued_28 : decode cX3_queued 28 = .ok (.iconst 0, 1) := by decide +kernel
theorem dX3_queued_29 : decode cX3_queued 29 = .ok (.ireturn, 1) := by decide +kernel
theorem dX3_queued_30 : decode cX3_queued 30 = .ok (.iload_n 2, 1) := by decide +kernel
theorem dX3_queued_31 : decode cX3_queued 31 = .ok (.ifCond .lt 13, 3) := by decide +kernel
theorem dX3_queued_34 : decode cX3_queued 34 = .ok (.iload_n 2, 1) := by decide +kernel
theorem dX3_queued_35 : decode cX3_queued 35 = .ok (.aload_n 0, 1) := by decide +kernel
theorem dX3_queued_36 : decode cX3_queued 36 = .ok (.getfield 56, 3) := by decide +kernel
theorem dX3_queued_39 : decode cX3_queued 39 = .ok (.iload_n 1, 1) := by decide +kernel
theorem dX3_queued_40 : decode cX3_queued 40 = .ok (.iaload, 1) := by decide +kernel
theorem dX3_queued_41 : decode cX3_queued 41 = .ok (.if_icmp .lt 7, 3) := by decide +kernel
theorem dX3_queued_44 : decode cX3_queued 44 = .ok (.iconst (-1), 1) := by decide +kernel
theorem dX3_queued_45 : decode cX3_queued 45 = .ok (.goto 14, 3) := by decide +kernel
theorem dX3_queued_48 : decode cX3_queued 48 = .ok (.aload_n 0, 1) := by decide +kernel
theorem dX3_queued_49 : decode cX3_queued 49 = .ok (.getfield 53, 3) := by decide +kernel
theorem dX3_queued_52 : decode cX3_queued 52 = .ok (.bipush 16, 2) := by decide +kernel
theorem dX3_queued_54 : decode cX3_queued 54 = .ok (.iload_n 1, 1) := by decide +kernel
theorem dX3_queued_55 : decode cX3_queued 55 = .ok (.imul, 1) := by decide +kernel
theorem dX3_queued_56 : decode cX3_queued 56 = .ok (.iload_n 2, 1) := by decide +kernel
theorem dX3_queued_57 : decode cX3_queued 57 = .ok (.iadd, 1) := by decide +kernel
theorem dX3_queued_58 : decode cX3_queued 58 = .ok (.iaload, 1) := by decide +kernel
theorem dX3_queued_59 : decode cX3_queued 59 = .ok (.ireturn, 1) := by decide +kernel
theorem dX3_all_0 : decode cX3_all 0 = .ok (.aload_n 0, 1) := by decide +kernel
theorem dX3_all_1 : decode cX3_all 1 = .ok (.iload_n 1, 1) := by decide +kernel
theorem dX3_all_2 : decode cX3_all 2 = .ok (.ifCond .lt 8, 3) := by decide +kernel
theorem dX3_all_5 : decode cX3_all 5 = .ok (.iload_n 1, 1) := by decide +kernel
theorem dX3_all_6 : decode cX3_all 6 = .ok (.iconst 3, 1) := by decide +kernel
theorem dX3_all_7 : decode cX3_all 7 = .ok (.if_icmp .le 7, 3) := by decide +kernel
theorem dX3_all_10 : decode cX3_all 10 = .ok (.iconst 1, 1) := by decide +kernel
theorem dX3_all_11 : decode cX3_all 11 = .ok (.goto 4, 3) := by decide +kernel
theorem dX3_all_14 : decode cX3_all 14 = .ok (.iconst 0, 1) := by decide +kernel
theorem dX3_all_15 : decode cX3_all 15 = .ok (.putfield 69, 3) := by decide +kernel
theorem dX3_all_18 : decode cX3_all 18 = .ok (.aload_n 0, 1) := by decide +kernel
theorem dX3_all_19 : decode cX3_all 19 = .ok (.getfield 69, 3) := by decide +kernel
theorem dX3_all_22 : decode cX3_all 22 = .ok (.ifCond .le 7, 3) := by decide +kernel
theorem dX3_all_25 : decode cX3_all 25 = .ok (.iconst 0, 1) := by decide +kernel
theorem dX3_all_26 : decode cX3_all 26 = .ok (.goto 9, 3) := by decide +kernel
theorem dX3_all_29 : decode cX3_all 29 = .ok (.aload_n 0, 1) := by decide +kernel
theorem dX3_all_30 : decode cX3_all 30 = .ok (.getfield 59, 3) := by decide +kernel
theorem dX3_all_33 : decode cX3_all 33 = .ok (.iload_n 1, 1) := by decide +kernel
theorem dX3_all_34 : decode cX3_all 34 = .ok (.iaload, 1) := by decide +kernel
theorem dX3_all_35 : decode cX3_all 35 = .ok (.ireturn, 1) := by decide +kernel
theorem dX3_switched_0 : decode cX3_switched 0 = .ok (.aload_n 0, 1) := by decide +kernel
theorem dX3_switched_1 : decode cX3_switched 1 = .ok (.iload_n 1, 1) := by decide +kernel
theorem dX3_switched_2 : decode cX3_switched 2 = .ok (.ifCond .lt 20, 3) := by decide +kernel
theorem dX3_switched_5 : decode cX3_switched 5 = .ok (.iload_n 1, 1) := by decide +kernel
theorem dX3_switched_6 : decode cX3_switched 6 = .ok (.aload_n 0, 1) := by decide +kernel
theorem dX3_switched_7 : decode cX3_switched 7 = .ok (.getfield 59, 3) := by decide +kernel
theorem dX3_switched_10 : decode cX3_switched 10 = .ok (.iconst 0, 1) := by decide +kernel
theorem dX3_switched_11 : decode cX3_switched 11 = .ok (.iaload, 1) := by decide +kernel
theorem dX3_switched_12 : decode cX3_switched 12 = .ok (.if_icmp .ge 10, 3) := by decide +kernel
theorem dX3_switched_15 : decode cX3_switched 15 = .ok (.iload_n 1, 1) := by decide +kernel
theorem dX3_switched_16 : decode cX3_switched 16 = .ok (.sipush 400, 3) := by decide +kernel
theorem dX3_switched_19 : decode cX3_switched 19 = .ok (.if_icmp .lt 7, 3) := by decide +kernel
theorem dX3_switched_22 : decode cX3_switched 22 = .ok (.iconst 1, 1) := by decide +kernel
theorem dX3_switched_23 : decode cX3_switched 23 = .ok (.goto 4, 3) := by decide +kernel
theorem dX3_switched_26 : decode cX3_switched 26 = .ok (.iconst 0, 1) := by decide +kernel
theorem dX3_switched_27 : decode cX3_switched 27 = .ok (.putfield 69, 3) := by decide +kernel
theorem dX3_switched_30 : decode cX3_switched 30 = .ok (.aload_n 0, 1) := by decide +kernel
theorem dX3_switched_31 : decode cX3_switched 31 = .ok (.getfield 69, 3) := by decide +kernel
theorem dX3_switched_34 : decode cX3_switched 34 = .ok (.ifCond .le 7, 3) := by decide +kernel
theorem dX3_switched_37 : decode cX3_switched 37 = .ok (.iconst 0, 1) := by decide +kernel
theorem dX3_switched_38 : decode cX3_switched 38 = .ok (.goto 9, 3) := by decide +kernel
theorem dX3_switched_41 : decode cX3_switched 41 = .ok (.aload_n 0, 1) := by decide +kernel
theorem dX3_switched_42 : decode cX3_switched 42 = .ok (.getfield 62, 3) := by decide +kernel
theorem dX3_switched_45 : decode cX3_switched 45 = .ok (.iload_n 1, 1) := by decide +kernel
theorem dX3_switched_46 : decode cX3_switched 46 = .ok (.iaload, 1) := by decide +kernel
theorem dX3_switched_47 : decode cX3_switched 47 = .ok (.ireturn, 1) := by decide +kernel
