set_option maxRecDepth 20000 in
theorem ggL_levels_X2_levels : GoodIn wsL_levels wsX2_levels := goodIn_ca (goodIn_r _ [6, 7, 8, 9, 10, 11, 12, 13, 14, 5, 15, 16, 17, 18, 19, 20, 21, 22, 23, 24, 25, 26, 27, 28, 29, 30, 31, 32, 33, 34, 35, 36, 37, 38, 39, 40, 41, 42, 43, 44, 45, 46, 47, 48, 49, 50, 51, 52, 53, 54, 55, 56, 57, 58, 59, 60, 61, 62, 63, 64, 65, 66, 67, 68, 69, 70, 71, 72, 73, 74, 75, 76, 77, 78, 79, 80, 81] (by decide +kernel) (by decide +kernel)) (goodIn_sub (fun _ h => List.mem_cons_of_mem _ (List.mem_append_right _ h)) (by decide +kernel))
set_option maxRecDepth 20000 in
theorem gL_levels_X2_levels : GoodIn wsL_levels (wsV RL 7 RX2 yX2_levels wsX2_levels) := goodIn_app (goodIn_of _ (by decide +kernel)) ggL_levels_X2_levels
theorem dL_levels_0 : decode cL_levels 0 = .ok (.aload_n 0, 1) := by decide +kernel
theorem dL_levels_1 : decode cL_levels 1 = .ok (.iload_n 1, 1) := by decide +kernel
theorem dL_levels_2 : decode cL_levels 2 = .ok (.invokevirtual 7, 3) := by decide +kernel
theorem dL_levels_5 : decode cL_levels 5 = .ok (.goto 6, 3) := by decide +kernel
theorem dL_levels_8 : decode cL_levels 8 = .ok (.astore_n 2, 1) := by decide +kernel
theorem dL_levels_9 : decode cL_levels 9 = .ok (.iconst 1, 1) := by decide +kernel
theorem dL_levels_10 : decode cL_levels 10 = .ok (.ireturn, 1) := by decide +kernel
theorem dL_levels_11 : decode cL_levels 11 = .ok (.iconst 0, 1) := by decide +kernel
theorem dL_levels_12 : decode cL_levels 12 = .ok (.ireturn, 1) := by decide +kernel
set_option maxRecDepth 20000 in
theorem ggL_level_X2_level : GoodIn wsL_level wsX2_level := goodIn_ca (goodIn_ca (goodIn_ca (goodIn_r _ [8, 9, 10, 11, 12, 13, 14, 15, 16, 17, 18, 19, 7, 20, 21, 22, 23, 24, 25, 26, 27, 28, 29, 30, 31, 32, 33, 34, 35, 36, 37] (by decide +kernel) (by decide +kernel)) (goodIn_sub (fun _ h => List.mem_cons_of_mem _ (List.mem_append_left _ (List.mem_append_left _ (List.mem_append_right _ h)))) (by decide +kernel))) (goodIn_sub (fun _ h => List.mem_cons_of_mem _ (List.mem_append_left _ (List.mem_append_right _ h))) (by decide +kernel))) (goodIn_sub (fun _ h => List.mem_cons_of_mem _ (List.mem_append_right _ h)) (by decide +kernel))
set_option maxRecDepth 20000 in
theorem gL_level_X2_level : GoodIn wsL_level (wsV RL 15 RX2 yX2_level wsX2_level) := goodIn_app (goodIn_of _ (by decide +kernel)) ggL_level_X2_level
theorem dL_level_0 : decode cL_level 0 = .ok (.aload_n 0, 1) := by decide +kernel
theorem dL_level_1 : decode cL_level 1 = .ok (.iload_n 1, 1) := by decide +kernel
theorem dL_level_2 : decode cL_level 2 = .ok (.iload_n 2, 1) := by decide +kernel
theorem dL_level_3 : decode cL_level 3 = .ok (.iload_n 3, 1) := by decide +kernel
theorem dL_level_4 : decode cL_level 4 = .ok (.invokevirtual 15, 3) := by decide +kernel
theorem dL_level_7 : decode cL_level 7 = .ok (.goto 15, 3) := by decide +kernel
theorem dL_level_10 : decode cL_level 10 = .ok (.astore 4, 2) := by decide +kernel
theorem dL_level_12 : decode cL_level 12 = .ok (.iconst 1, 1) := by decide +kernel
theorem dL_level_13 : decode cL_level 13 = .ok (.ireturn, 1) := by decide +kernel
theorem dL_level_14 : decode cL_level 14 = .ok (.astore 4, 2) := by decide +kernel
theorem dL_level_16 : decode cL_level 16 = .ok (.iconst 2, 1) := by decide +kernel
theorem dL_level_17 : decode cL_level 17 = .ok (.ireturn, 1) := by decide +kernel
theorem dL_level_18 : decode cL_level 18 = .ok (.astore 4, 2) := by decide +kernel
theorem dL_level_20 : decode cL_level 20 = .ok (.iconst 3, 1) := by decide +kernel
theorem dL_level_21 : decode cL_level 21 = .ok (.ireturn, 1) := by decide +kernel
theorem dL_level_22 : decode cL_level 22 = .ok (.iconst 0, 1) := by decide +kernel
theorem dL_level_23 : decode cL_level 23 = .ok (.ireturn, 1) := by decide +kernel
set_option maxRecDepth 20000 in
theorem ggL_period_X2_period : GoodIn wsL_period wsX2_period := goodIn_ca (goodIn_ca (goodIn_r _ [7, 8, 9, 10, 11, 12, 13, 14, 15, 16, 17, 18, 19, 20, 21, 22, 23, 24, 25] (by decide +kernel) (by decide +kernel)) (goodIn_sub (fun _ h => List.mem_cons_of_mem _ (List.mem_append_left _ (List.mem_append_right _ h))) (by decide +kernel))) (goodIn_sub (fun _ h => List.mem_cons_of_mem _ (List.mem_append_right _ h)) (by decide +kernel))
set_option maxRecDepth 20000 in
theorem gL_period_X2_period : GoodIn wsL_period (wsV RL 23 RX2 yX2_period wsX2_period) := goodIn_app (goodIn_of _ (by decide +kernel)) ggL_period_X2_period
theorem dL_period_0 : decode cL_period 0 = .ok (.aload_n 0, 1) := by decide +kernel
theorem dL_period_1 : decode cL_period 1 = .ok (.iload_n 1, 1) := by decide +kernel
theorem dL_period_2 : decode cL_period 2 = .ok (.invokevirtual 23, 3) := by decide +kernel
theorem dL_period_5 : decode cL_period 5 = .ok (.goto 9, 3) := by decide +kernel
theorem dL_period_8 : decode cL_period 8 = .ok (.astore_n 2, 1) := by decide +kernel
theorem dL_period_9 : decode cL_period 9 = .ok (.iconst 1, 1) := by decide +kernel
theorem dL_period_10 : decode cL_period 10 = .ok (.ireturn, 1) := by decide +kernel
theorem dL_period_11 : decode cL_period 11 = .ok (.astore_n 2, 1) := by decide +kernel
theorem dL_period_12 : decode cL_period 12 = .ok (.iconst 2, 1) := by decide +kernel
theorem dL_period_13 : decode cL_period 13 = .ok (.ireturn, 1) := by decide +kernel
theorem dL_period_14 : decode cL_period 14 = .ok (.iconst 0, 1) := by decide +kernel
theorem dL_period_15 : decode cL_period 15 = .ok (.ireturn, 1) := by decide +kernel
set_option maxRecDepth 20000 in
theorem ggL_process_X2_process : GoodIn wsL_process wsX2_process := goodIn_ca (goodIn_ca (goodIn_r _ [7, 8, 9, 10, 11, 12, 13, 14, 15, 16, 17, 18, 19, 20, 21, 22, 23, 24, 25, 26, 27, 28, 29, 30, 31, 32, 33, 34, 35, 36, 37, 38, 39, 40, 41, 42, 43, 44, 45, 46, 47, 48, 49, 50, 51] (by decide +kernel) (by decide +kernel)) (goodIn_sub (fun _ h => List.mem_cons_of_mem _ (List.mem_append_left _ (List.mem_append_right _ h))) (by decide +kernel))) (goodIn_sub (fun _ h => List.mem_cons_of_mem _ (List.mem_append_right _ h)) (by decide +kernel))
set_option maxRecDepth 20000 in
theorem gL_process_X2_process : GoodIn wsL_process (wsV RL 26 RX2 yX2_process wsX2_process) := goodIn_app (goodIn_of _ (by decide +kernel)) ggL_process_X2_process
theorem dL_process_0 : decode cL_process 0 = .ok (.aload_n 2, 1) := by decide +kernel
theorem dL_process_1 : decode cL_process 1 = .ok (.iconst 0, 1) := by decide +kernel
theorem dL_process_2 : decode cL_process 2 = .ok (.aload_n 0, 1) := by decide +kernel
theorem dL_process_3 : decode cL_process 3 = .ok (.iload_n 1, 1) := by decide +kernel
theorem dL_process_4 : decode cL_process 4 = .ok (.invokevirtual 26, 3) := by decide +kernel
theorem dL_process_7 : decode cL_process 7 = .ok (.i2l, 1) := by decide +kernel
theorem dL_process_8 : decode cL_process 8 = .ok (.lastore, 1) := by decide +kernel
theorem dL_process_9 : decode cL_process 9 = .ok (.goto 9, 3) := by decide +kernel
theorem dL_process_12 : decode cL_process 12 = .ok (.astore_n 3, 1) := by decide +kernel
theorem dL_process_13 : decode cL_process 13 = .ok (.iconst 1, 1) := by decide +kernel
theorem dL_process_14 : decode cL_process 14 = .ok (.ireturn, 1) := by decide +kernel
theorem dL_process_15 : decode cL_process 15 = .ok (.astore_n 3, 1) := by decide +kernel
theorem dL_process_16 : decode cL_process 16 = .ok (.iconst 2, 1) := by decide +kernel
theorem dL_process_17 : decode cL_process 17 = .ok (.ireturn, 1) := by decide +kernel
theorem dL_process_18 : decode cL_process 18 = .ok (.iconst 0, 1) := by decide +kernel
theorem dL_process_19 : decode cL_process 19 = .ok (.ireturn, 1) := by decide +kernel
set_option maxRecDepth 20000 in
theorem ggL_burst_X2_burst : GoodIn wsL_burst wsX2_burst := goodIn_ca (goodIn_ca (goodIn_ca (goodIn_r _ [8, 9, 10, 11, 12, 13, 14, 15, 16, 17, 18, 19, 7, 20, 21, 22, 23, 24, 25, 26, 27, 28, 29, 30, 31, 32, 33, 34, 35, 36, 37, 38, 39, 40, 41, 42, 43, 44, 45, 46, 47, 48, 49, 50, 51, 52, 53, 54, 55, 56, 57, 58] (by decide +kernel) (by decide +kernel)) (goodIn_sub (fun _ h => List.mem_cons_of_mem _ (List.mem_append_left _ (List.mem_append_left _ (List.mem_append_right _ h)))) (by decide +kernel))) (goodIn_sub (fun _ h => List.mem_cons_of_mem _ (List.mem_append_left _ (List.mem_append_right _ h))) (by decide +kernel))) (goodIn_sub (fun _ h => List.mem_cons_of_mem _ (List.mem_append_right _ h)) (by decide +kernel))
set_option maxRecDepth 20000 in
theorem gL_burst_X2_burst : GoodIn wsL_burst (wsV RL 30 RX2 yX2_burst wsX2_burst) := goodIn_app (goodIn_of _ (by decide +kernel)) ggL_burst_X2_burst
theorem dL_burst_0 : decode cL_burst 0 = .ok (.aload_n 3, 1) := by decide +kernel
theorem dL_burst_1 : decode cL_burst 1 = .ok (.iconst 0, 1) := by decide +kernel
theorem dL_burst_2 : decode cL_burst 2 = .ok (.aload_n 0, 1) := by decide +kernel
theorem dL_burst_3 : decode cL_burst 3 = .ok (.iload_n 1, 1) := by decide +kernel
theorem dL_burst_4 : decode cL_burst 4 = .ok (.iload_n 2, 1) := by decide +kernel
theorem dL_burst_5 : decode cL_burst 5 = .ok (.invokevirtual 30, 3) := by decide +kernel
theorem dL_burst_8 : decode cL_burst 8 = .ok (.i2l, 1) := by decide +kernel
theorem dL_burst_9 : decode cL_burst 9 = .ok (.lastore, 1) := by decide +kernel
theorem dL_burst_10 : decode cL_burst 10 = .ok (.goto 15, 3) := by decide +kernel
theorem dL_burst_13 : decode cL_burst 13 = .ok (.astore 4, 2) := by decide +kernel
theorem dL_burst_15 : decode cL_burst 15 = .ok (.iconst 1, 1) := by decide +kernel
theorem dL_burst_16 : decode cL_burst 16 = .ok (.ireturn, 1) := by decide +kernel
theorem dL_burst_17 : decode cL_burst 17 = .ok (.astore 4, 2) := by decide +kernel
theorem dL_burst_19 : decode cL_burst 19 = .ok (.iconst 2, 1) := by decide +kernel
theorem dL_burst_20 : decode cL_burst 20 = .ok (.ireturn, 1) := by decide +kernel
theorem dL_burst_21 : decode cL_burst 21 = .ok (.astore 4, 2) := by decide +kernel
theorem dL_burst_23 : decode cL_burst 23 = .ok (.iconst 3, 1) := by decide +kernel
theorem dL_burst_24 : decode cL_burst 24 = .ok (.ireturn, 1) := by decide +kernel
theorem dL_burst_25 : decode cL_burst 25 = .ok (.iconst 0, 1) := by decide +kernel
theorem dL_burst_26 : decode cL_burst 26 = .ok (.ireturn, 1) := by decide +kernel
set_option maxRecDepth 20000 in
theorem ggL_run_X2_run : GoodIn wsL_run wsX2_run := goodIn_ca (goodIn_r _ [6, 7, 8, 9, 10, 11, 12, 13, 14, 5, 15, 16, 17, 18, 19, 20, 21, 22, 23, 24, 25, 26, 27, 28, 29, 30, 31, 32, 33, 34, 35, 36, 37, 38, 39, 40, 41, 42, 43, 44, 45, 46, 47, 48, 49, 50, 51, 52, 53, 54, 55, 56, 57, 58, 59, 60, 61, 62, 63, 64, 65, 66, 67, 68, 69, 70, 71, 72, 73, 74, 75, 76, 77, 78, 79, 80, 81, 82, 83, 84, 85, 86, 87, 88, 89, 90, 91, 92, 93, 94, 95, 96, 97, 98, 99, 100, 101, 102, 103, 104, 105, 106, 107, 108, 109, 110, 111, 112, 113, 114, 115, 116, 117, 118, 119, 120, 121, 122, 123, 124, 125, 126, 127, 128, 129, 130, 131, 132, 133, 134, 135, 136, 137, 138, 139, 140, 141, 142, 143, 144, 145, 146, 147, 148, 149, 150, 151, 152, 153, 154, 155, 156, 157, 158, 159, 160, 161, 162, 163, 164] (by decide +kernel) (by decide +kernel)) (goodIn_sub (fun _ h => List.mem_cons_of_mem _ (List.mem_append_right _ h)) (by decide +kernel))
set_option maxRecDepth 20000 in
theorem gL_run_X2_run : GoodIn wsL_run (wsV RL 34 RX2 yX2_run wsX2_run) := goodIn_app (goodIn_of _ (by decide +kernel)) ggL_run_X2_run
theorem dL_run_0 : decode cL_run 0 = .ok (.aload_n 2, 1) := by decide +kernel
theorem dL_run_1 : decode cL_run 1 = .ok (.iconst 0, 1) := by decide +kernel
theorem dL_run_2 : decode cL_run 2 = .ok (.aload_n 0, 1) := by decide +kernel
theorem dL_run_3 : decode cL_run 3 = .ok (.iload_n 1, 1) := by decide +kernel
theorem dL_run_4 : decode cL_run 4 = .ok (.invokevirtual 34, 3) := by decide +kernel
theorem dL_run_7 : decode cL_run 7 = .ok (.i2l, 1) := by decide +kernel
theorem dL_run_8 : decode cL_run 8 = .ok (.lastore, 1) := by decide +kernel
theorem dL_run_9 : decode cL_run 9 = .ok (.goto 6, 3) := by decide +kernel
theorem dL_run_12 : decode cL_run 12 = .ok (.astore_n 3, 1) := by decide +kernel
theorem dL_run_13 : decode cL_run 13 = .ok (.iconst 1, 1) := by decide +kernel
theorem dL_run_14 : decode cL_run 14 = .ok (.ireturn, 1) := by decide +kernel
theorem dL_run_15 : decode cL_run 15 = .ok (.iconst 0, 1) := by decide +kernel
theorem dL_run_16 : decode cL_run 16 = .ok (.ireturn, 1) := by decide +kernel
set_option maxRecDepth 20000 in
theorem ggL_told_X2_told : GoodIn wsL_told wsX2_told := goodIn_ca (goodIn_ca (goodIn_r _ [7, 8, 9, 10, 11, 12, 13, 14, 15, 6, 16, 17, 18, 19, 20, 21, 22, 23, 24, 25, 26, 27, 28, 29, 30, 31, 32, 33, 34, 35, 36, 37, 38, 39, 40, 41, 42, 43, 44, 45, 46, 47, 48] (by decide +kernel) (by decide +kernel)) (goodIn_sub (fun _ h => List.mem_cons_of_mem _ (List.mem_append_left _ (List.mem_append_right _ h))) (by decide +kernel))) (goodIn_sub (fun _ h => List.mem_cons_of_mem _ (List.mem_append_right _ h)) (by decide +kernel))
set_option maxRecDepth 20000 in
theorem gL_told_X2_told : GoodIn wsL_told (wsV RL 37 RX2 yX2_told wsX2_told) := goodIn_app (goodIn_of _ (by decide +kernel)) ggL_told_X2_told
theorem dL_told_0 : decode cL_told 0 = .ok (.aload_n 3, 1) := by decide +kernel
theorem dL_told_1 : decode cL_told 1 = .ok (.iconst 0, 1) := by decide +kernel
theorem dL_told_2 : decode cL_told 2 = .ok (.aload_n 0, 1) := by decide +kernel
theorem dL_told_3 : decode cL_told 3 = .ok (.iload_n 1, 1) := by decide +kernel
theorem dL_told_4 : decode cL_told 4 = .ok (.iload_n 2, 1) := by decide +kernel
theorem dL_told_5 : decode cL_told 5 = .ok (.invokevirtual 37, 3) := by decide +kernel
theorem dL_told_8 : decode cL_told 8 = .ok (.i2l, 1) := by decide +kernel
theorem dL_told_9 : decode cL_told 9 = .ok (.lastore, 1) := by decide +kernel
theorem dL_told_10 : decode cL_told 10 = .ok (.goto 11, 3) := by decide +kernel
theorem dL_told_13 : decode cL_told 13 = .ok (.astore 4, 2) := by decide +kernel
theorem dL_told_15 : decode cL_told 15 = .ok (.iconst 1, 1) := by decide +kernel
theorem dL_told_16 : decode cL_told 16 = .ok (.ireturn, 1) := by decide +kernel
theorem dL_told_17 : decode cL_told 17 = .ok (.astore 4, 2) := by decide +kernel
theorem dL_told_19 : decode cL_told 19 = .ok (.iconst 2, 1) := by decide +kernel
theorem dL_told_20 : decode cL_told 20 = .ok (.ireturn, 1) := by decide +kernel
theorem dL_told_21 : decode cL_told 21 = .ok (.iconst 0, 1) := by decide +kernel
theorem dL_told_22 : decode cL_told 22 = .ok (.ireturn, 1) := by decide +kernel
set_option maxRecDepth 20000 in
theorem ggL_queued_X2_queued : GoodIn wsL_queued wsX2_queued := goodIn_ca (goodIn_r _ [6, 7, 8, 9, 10, 11, 12, 5, 13, 14, 15, 16, 17, 18, 19, 20, 21, 22, 23, 24, 25, 26, 27, 28, 29, 30, 31, 32, 33, 34, 35, 36] (by decide +kernel) (by decide +kernel)) (goodIn_sub (fun _ h => List.mem_cons_of_mem _ (List.mem_append_right _ h)) (by decide +kernel))
set_option maxRecDepth 20000 in
theorem gL_queued_X2_queued : GoodIn wsL_queued (wsV RL 40 RX2 yX2_queued wsX2_queued) := goodIn_app (goodIn_of _ (by decide +kernel)) ggL_queued_X2_queued
theorem dL_queued_0 : decode cL_queued 0 = .ok (.aload_n 3, 1) := by decide +kernel
theorem dL_queued_1 : decode cL_queued 1 = .ok (.iconst 0, 1) := by decide +kernel
theorem dL_queued_2 : decode cL_queued 2 = .ok (.aload_n 0, 1) := by decide +kernel
theorem dL_queued_3 : decode cL_queued 3 = .ok (.iload_n 1, 1) := by decide +kernel
theorem dL_queued_4 : decode cL_queued 4 = .ok (.iload_n 2, 1) := by decide +kernel
theorem dL_queued_5 : decode cL_queued 5 = .ok (.invokevirtual 40, 3) := by decide +kernel
theorem dL_queued_8 : decode cL_queued 8 = .ok (.i2l, 1) := by decide +kernel
theorem dL_queued_9 : decode cL_queued 9 = .ok (.lastore, 1) := by decide +kernel
theorem dL_queued_10 : decode cL_queued 10 = .ok (.goto 7, 3) := by decide +kernel
theorem dL_queued_13 : decode cL_queued 13 = .ok (.astore 4, 2) := by decide +kernel
theorem dL_queued_15 : decode cL_queued 15 = .ok (.iconst 1, 1) := by decide +kernel
theorem dL_queued_16 : decode cL_queued 16 = .ok (.ireturn, 1) := by decide +kernel
theorem dL_queued_17 : decode cL_queued 17 = .ok (.iconst 0, 1) := by decide +kernel
theorem dL_queued_18 : decode cL_queued 18 = .ok (.ireturn, 1) := by decide +kernel
set_option maxRecDepth 20000 in
theorem ggL_all_X2_all : GoodIn wsL_all wsX2_all := goodIn_ca (goodIn_r _ [6, 7, 8, 9, 10, 11, 12, 13, 14, 15, 16, 17, 18, 19, 20, 21, 22, 23, 24] (by decide +kernel) (by decide +kernel)) (goodIn_sub (fun _ h => List.mem_cons_of_mem _ (List.mem_append_right _ h)) (by decide +kernel))
set_option maxRecDepth 20000 in
theorem gL_all_X2_all : GoodIn wsL_all (wsV RL 43 RX2 yX2_all wsX2_all) := goodIn_app (goodIn_of _ (by decide +kernel)) ggL_all_X2_all
theorem dL_all_0 : decode cL_all 0 = .ok (.aload_n 2, 1) := by decide +kernel
theorem dL_all_1 : decode cL_all 1 = .ok (.iconst 0, 1) := by decide +kernel
theorem dL_all_2 : decode cL_all 2 = .ok (.aload_n 0, 1) := by decide +kernel
theorem dL_all_3 : decode cL_all 3 = .ok (.iload_n 1, 1) := by decide +kernel
theorem dL_all_4 : decode cL_all 4 = .ok (.invokevirtual 43, 3) := by decide +kernel
theorem dL_all_7 : decode cL_all 7 = .ok (.i2l, 1) := by decide +kernel
theorem dL_all_8 : decode cL_all 8 = .ok (.lastore, 1) := by decide +kernel
theorem dL_all_9 : decode cL_all 9 = .ok (.goto 6, 3) := by decide +kernel
theorem dL_all_12 : decode cL_all 12 = .ok (.astore_n 3, 1) := by decide +kernel
theorem dL_all_13 : decode cL_all 13 = .ok (.iconst 1, 1) := by decide +kernel
theorem dL_all_14 : decode cL_all 14 = .ok (.ireturn, 1) := by decide +kernel
theorem dL_all_15 : decode cL_all 15 = .ok (.iconst 0, 1) := by decide +kernel
theorem dL_all_16 : decode cL_all 16 = .ok (.ireturn, 1) := by decide +kernel
set_option maxRecDepth 20000 in
theorem ggL_switched_X2_switched : GoodIn wsL_switched wsX2_switched := goodIn_ca (goodIn_r _ [6, 7, 8, 9, 10, 11, 12, 13, 14, 15, 16, 17, 18, 19, 20, 21, 22] (by decide +kernel) (by decide +kernel)) (goodIn_sub (fun _ h => List.mem_cons_of_mem _ (List.mem_append_right _ h)) (by decide +kernel))
set_option maxRecDepth 20000 in
theorem gL_switched_X2_switched : GoodIn wsL_switched (wsV RL 46 RX2 yX2_switched wsX2_switched) := goodIn_app (goodIn_of _ (by decide +kernel)) ggL_switched_X2_switched
theorem dL_switched_0 : decode cL_switched 0 = .ok (.aload_n 2, 1) := by decide +kernel
theorem dL_switched_1 : decode cL_switched 1 = .ok (.iconst 0, 1) := by decide +kernel
theorem dL_switched_2 : decode cL_switched 2 = .ok (.aload_n 0, 1) := by decide +kernel
theorem dL_switched_3 : decode cL_switched 3 = .ok (.iload_n 1, 1) := by decide +kernel
theorem dL_switched_4 : decode cL_switched 4 = .ok (.invokevirtual 46, 3) := by decide +kernel
theorem dL_switched_7 : decode cL_switched 7 = .ok (.i2l, 1) := by decide +kernel
theorem dL_switched_8 : decode cL_switched 8 = .ok (.lastore, 1) := by decide +kernel
theorem dL_switched_9 : decode cL_switched 9 = .ok (.goto 6, 3) := by decide +kernel
theorem dL_switched_12 : decode cL_switched 12 = .ok (.astore_n 3, 1) := by decide +kernel
theorem dL_switched_13 : decode cL_switched 13 = .ok (.iconst 1, 1) := by decide +kernel
theorem dL_switched_14 : decode cL_switched 14 = .ok (.ireturn, 1) := by decide +kernel
theorem dL_switched_15 : decode cL_switched 15 = .ok (.iconst 0, 1) := by decide +kernel
theorem dL_switched_16 : decode cL_switched 16 = .ok (.ireturn, 1) := by decide +kernel
