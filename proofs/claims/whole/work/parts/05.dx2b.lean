set_option maxRecDepth 20000 in
theorem ggX2_startOver_X0_clear : GoodIn wsX2_startOver wsX0_clear := goodIn_r _ [12, 13, 45, 46, 47, 48] (by decide +kernel) (by decide +kernel)
set_option maxRecDepth 20000 in
theorem gX2_startOver_X0_clear_n160 : GoodIn wsX2_startOver (wsX0_clear) := ggX2_startOver_X0_clear
set_option maxRecDepth 20000 in
theorem ggX2_startOver_X1_startOver : GoodIn wsX2_startOver wsX1_startOver := goodIn_r _ [17, 18, 19, 20, 21, 22, 23, 24, 25, 26, 27, 28, 29, 30, 31, 32, 49, 50, 51, 52, 53, 54, 55, 56, 57, 58, 59, 60, 61, 62, 63, 64, 65, 66, 67] (by decide +kernel) (by decide +kernel)
set_option maxRecDepth 20000 in
theorem gX2_startOver_X1_startOver_n163 : GoodIn wsX2_startOver (wsX1_startOver) := ggX2_startOver_X1_startOver
theorem dX2_startOver_0 : decode cX2_startOver 0 = .ok (.aload_n 0, 1) := by decide +kernel
theorem dX2_startOver_1 : decode cX2_startOver 1 = .ok (.iconst 0, 1) := by decide +kernel
theorem dX2_startOver_2 : decode cX2_startOver 2 = .ok (.putfield 35, 3) := by decide +kernel
theorem dX2_startOver_5 : decode cX2_startOver 5 = .ok (.aload_n 0, 1) := by decide +kernel
theorem dX2_startOver_6 : decode cX2_startOver 6 = .ok (.aconst_null, 1) := by decide +kernel
theorem dX2_startOver_7 : decode cX2_startOver 7 = .ok (.putfield 38, 3) := by decide +kernel
theorem dX2_startOver_10 : decode cX2_startOver 10 = .ok (.aload_n 0, 1) := by decide +kernel
theorem dX2_startOver_11 : decode cX2_startOver 11 = .ok (.iconst 0, 1) := by decide +kernel
theorem dX2_startOver_12 : decode cX2_startOver 12 = .ok (.putfield 42, 3) := by decide +kernel
theorem dX2_startOver_15 : decode cX2_startOver 15 = .ok (.aload_n 0, 1) := by decide +kernel
theorem dX2_startOver_16 : decode cX2_startOver 16 = .ok (.iconst 0, 1) := by decide +kernel
theorem dX2_startOver_17 : decode cX2_startOver 17 = .ok (.putfield 45, 3) := by decide +kernel
theorem dX2_startOver_20 : decode cX2_startOver 20 = .ok (.aload_n 0, 1) := by decide +kernel
theorem dX2_startOver_21 : decode cX2_startOver 21 = .ok (.iconst 0, 1) := by decide +kernel
theorem dX2_startOver_22 : decode cX2_startOver 22 = .ok (.putfield 48, 3) := by decide +kernel
theorem dX2_startOver_25 : decode cX2_startOver 25 = .ok (.aload_n 0, 1) := by decide +kernel
theorem dX2_startOver_26 : decode cX2_startOver 26 = .ok (.iconst 0, 1) := by decide +kernel
theorem dX2_startOver_27 : decode cX2_startOver 27 = .ok (.putfield 51, 3) := by decide +kernel
theorem dX2_startOver_30 : decode cX2_startOver 30 = .ok (.iconst 0, 1) := by decide +kernel
theorem dX2_startOver_31 : decode cX2_startOver 31 = .ok (.istore_n 1, 1) := by decide +kernel
theorem dX2_startOver_32 : decode cX2_startOver 32 = .ok (.iload_n 1, 1) := by decide +kernel
theorem dX2_startOver_33 : decode cX2_startOver 33 = .ok (.bipush 6, 2) := by decide +kernel
theorem dX2_startOver_35 : decode cX2_startOver 35 = .ok (.if_icmp .ge 18, 3) := by decide +kernel
theorem dX2_startOver_38 : decode cX2_startOver 38 = .ok (.aload_n 0, 1) := by decide +kernel
theorem dX2_startOver_39 : decode cX2_startOver 39 = .ok (.getfield 11, 3) := by decide +kernel
theorem dX2_startOver_42 : decode cX2_startOver 42 = .ok (.iload_n 1, 1) := by decide +kernel
theorem dX2_startOver_43 : decode cX2_startOver 43 = .ok (.aaload, 1) := by decide +kernel
theorem dX2_startOver_44 : decode cX2_startOver 44 = .ok (.invokevirtual 160, 3) := by decide +kernel
theorem dX2_startOver_47 : decode cX2_startOver 47 = .ok (.iinc 1 1, 3) := by decide +kernel
theorem dX2_startOver_50 : decode cX2_startOver 50 = .ok (.goto (-18), 3) := by decide +kernel
theorem dX2_startOver_53 : decode cX2_startOver 53 = .ok (.iconst 0, 1) := by decide +kernel
theorem dX2_startOver_54 : decode cX2_startOver 54 = .ok (.istore_n 1, 1) := by decide +kernel
theorem dX2_startOver_55 : decode cX2_startOver 55 = .ok (.iload_n 1, 1) := by decide +kernel
theorem dX2_startOver_56 : decode cX2_startOver 56 = .ok (.bipush 16, 2) := by decide +kernel
theorem dX2_startOver_58 : decode cX2_startOver 58 = .ok (.if_icmp .ge 18, 3) := by decide +kernel
theorem dX2_startOver_61 : decode cX2_startOver 61 = .ok (.aload_n 0, 1) := by decide +kernel
theorem dX2_startOver_62 : decode cX2_startOver 62 = .ok (.getfield 17, 3) := by decide +kernel
theorem dX2_startOver_65 : decode cX2_startOver 65 = .ok (.iload_n 1, 1) := by decide +kernel
theorem dX2_startOver_66 : decode cX2_startOver 66 = .ok (.aaload, 1) := by decide +kernel
theorem dX2_startOver_67 : decode cX2_startOver 67 = .ok (.invokevirtual 163, 3) := by decide +kernel
theorem dX2_startOver_70 : decode cX2_startOver 70 = .ok (.iinc 1 1, 3) := by decide +kernel
theorem dX2_startOver_73 : decode cX2_startOver 73 = .ok (.goto (-18), 3) := by decide +kernel
theorem dX2_startOver_76 : decode cX2_startOver 76 = .ok (.return_, 1) := by decide +kernel
set_option maxRecDepth 20000 in
theorem ggX2_doTick_X2_bringAllUp : GoodIn wsX2_doTick wsX2_bringAllUp := goodIn_r _ [9, 10, 11, 12, 13, 14, 15, 16, 17, 18, 19, 20, 21, 22, 23, 24, 25, 26, 27, 28, 29, 30, 31, 32, 33, 34, 35, 36, 37, 38, 39, 118, 119, 120, 121, 122, 123, 124, 125, 126, 127, 128, 129, 130, 131, 132, 133, 134, 135, 136, 137, 138, 139, 140, 141, 142, 143, 144, 145, 146, 147, 148, 149, 150, 151, 152] (by decide +kernel) (by decide +kernel)
set_option maxRecDepth 20000 in
theorem gX2_doTick_X2_bringAllUp : GoodIn wsX2_doTick (wsV RX2 164 RX2 yX2_bringAllUp wsX2_bringAllUp) := goodIn_app (goodIn_of _ (by decide +kernel)) ggX2_doTick_X2_bringAllUp
set_option maxRecDepth 20000 in
theorem ggX2_doTick_X2_letArrive : GoodIn wsX2_doTick wsX2_letArrive := goodIn_r _ [43, 12, 13, 2, 11, 44, 45, 46, 8, 47, 48, 16, 49, 50, 51, 52, 53, 54, 55, 56, 57, 58, 34, 28, 35, 36, 31, 32, 59, 60, 61, 62, 63, 118, 119, 120, 121, 122, 123, 124, 125, 126, 127, 128, 129, 130, 131, 132, 133, 134, 135, 136, 137, 138, 139, 140, 141, 142, 143, 144, 145, 146, 147, 148, 149, 150, 151, 152] (by decide +kernel) (by decide +kernel)
set_option maxRecDepth 20000 in
theorem gX2_doTick_X2_letArrive : GoodIn wsX2_doTick (wsV RX2 167 RX2 yX2_letArrive wsX2_letArrive) := goodIn_app (goodIn_of _ (by decide +kernel)) ggX2_doTick_X2_letArrive
set_option maxRecDepth 20000 in
theorem ggX2_doTick_X2_letComeBack : GoodIn wsX2_doTick wsX2_letComeBack := goodIn_r _ [67, 12, 13, 44, 45, 46, 8, 47, 2, 48, 16, 49, 50, 51, 52, 53, 54, 55, 56, 57, 58, 11, 34, 28, 35, 36, 31, 32, 59, 60, 61, 62, 63, 118, 119, 120, 121, 122, 123, 124, 125, 126, 127, 128, 129, 130, 131, 132, 133, 134, 135, 136, 137, 138, 139, 140, 141, 142, 143, 144, 145, 146, 147, 148, 149, 150, 151, 152] (by decide +kernel) (by decide +kernel)
set_option maxRecDepth 20000 in
theorem gX2_doTick_X2_letComeBack : GoodIn wsX2_doTick (wsV RX2 170 RX2 yX2_letComeBack wsX2_letComeBack) := goodIn_app (goodIn_of _ (by decide +kernel)) ggX2_doTick_X2_letComeBack
set_option maxRecDepth 20000 in
theorem ggX2_doTick_X2_makeWay : GoodIn wsX2_doTick wsX2_makeWay := goodIn_r _ [71, 3, 11, 72, 73, 74, 8, 75, 76, 28, 77, 78, 31, 32, 118, 119, 120, 121, 122, 123, 124, 125, 126, 127, 128, 129, 130, 131, 132, 133, 134, 135, 136, 137, 138, 139, 140, 141, 142, 143, 144, 145, 146, 147, 148, 149, 150, 151, 152] (by decide +kernel) (by decide +kernel)
set_option maxRecDepth 20000 in
theorem gX2_doTick_X2_makeWay : GoodIn wsX2_doTick (wsV RX2 173 RX2 yX2_makeWay wsX2_makeWay) := goodIn_app (goodIn_of _ (by decide +kernel)) ggX2_doTick_X2_makeWay
set_option maxRecDepth 20000 in
theorem ggX2_doTick_X2_switchToFirst : GoodIn wsX2_doTick wsX2_switchToFirst := goodIn_r _ [82, 14, 11, 13, 83, 28, 84, 85, 31, 32, 86, 87, 88, 8, 89, 12, 90, 91, 92, 93, 2, 94, 95, 3, 96, 16, 97, 98, 21, 99, 22, 100, 101, 118, 119, 120, 121, 122, 123, 124, 125, 126, 127, 128, 129, 149, 150, 151, 152, 130, 131, 132, 133, 134, 135, 136, 137, 138, 139, 140, 141, 142, 143, 144, 145, 146, 147, 148] (by decide +kernel) (by decide +kernel)
set_option maxRecDepth 20000 in
theorem gX2_doTick_X2_switchToFirst : GoodIn wsX2_doTick (wsV RX2 176 RX2 yX2_switchToFirst wsX2_switchToFirst) := goodIn_app (goodIn_of _ (by decide +kernel)) ggX2_doTick_X2_switchToFirst
set_option maxRecDepth 20000 in
theorem ggX2_doTick_X2_countWaiting : GoodIn wsX2_doTick wsX2_countWaiting := goodIn_r _ [105, 12, 13, 118, 119, 120, 121, 122, 123, 124, 125, 126, 127, 128, 129, 130, 131, 132, 133, 134, 135, 136, 137, 138, 139, 140, 141, 142, 143, 144, 145, 146, 147, 148] (by decide +kernel) (by decide +kernel)
set_option maxRecDepth 20000 in
theorem gX2_doTick_X2_countWaiting : GoodIn wsX2_doTick (wsV RX2 179 RX2 yX2_countWaiting wsX2_countWaiting) := goodIn_app (goodIn_of _ (by decide +kernel)) ggX2_doTick_X2_countWaiting
set_option maxRecDepth 20000 in
theorem ggX2_doTick_X2_useTick : GoodIn wsX2_doTick wsX2_useTick := goodIn_r _ [109, 3, 110, 111, 112, 8, 113, 2, 48, 16, 49, 50, 51, 52, 53, 54, 59, 60, 61, 62, 63, 114, 115, 116, 117, 14, 11, 55, 56, 57, 58, 34, 28, 35, 36, 31, 32, 130, 131, 132, 133, 134, 135, 136, 137, 138, 139, 140, 141, 142, 143, 144, 145, 146, 147, 148, 118, 119, 120, 121, 122, 123, 124, 125, 126, 127, 128, 129, 149, 150, 151, 152] (by decide +kernel) (by decide +kernel)
set_option maxRecDepth 20000 in
theorem gX2_doTick_X2_useTick : GoodIn wsX2_doTick (wsV RX2 182 RX2 yX2_useTick wsX2_useTick) := goodIn_app (goodIn_of _ (by decide +kernel)) ggX2_doTick_X2_useTick
theorem dX2_doTick_0 : decode cX2_doTick 0 = .ok (.aload_n 0, 1) := by decide +kernel
theorem dX2_doTick_1 : decode cX2_doTick 1 = .ok (.getfield 32, 3) := by decide +kernel
theorem dX2_doTick_4 : decode cX2_doTick 4 = .ok (.ifCond .eq 26, 3) := by decide +kernel
theorem dX2_doTick_7 : decode cX2_doTick 7 = .ok (.aload_n 0, 1) := by decide +kernel
theorem dX2_doTick_8 : decode cX2_doTick 8 = .ok (.getfield 35, 3) := by decide +kernel
theorem dX2_doTick_11 : decode cX2_doTick 11 = .ok (.ifCond .le 19, 3) := by decide +kernel
theorem dX2_doTick_14 : decode cX2_doTick 14 = .ok (.aload_n 0, 1) := by decide +kernel
theorem dX2_doTick_15 : decode cX2_doTick 15 = .ok (.getfield 35, 3) := by decide +kernel
theorem dX2_doTick_18 : decode cX2_doTick 18 = .ok (.aload_n 0, 1) := by decide +kernel
theorem dX2_doTick_19 : decode cX2_doTick 19 = .ok (.getfield 32, 3) := by decide +kernel
theorem dX2_doTick_22 : decode cX2_doTick 22 = .ok (.irem, 1) := by decide +kernel
theorem dX2_doTick_23 : decode cX2_doTick 23 = .ok (.ifCond .ne 7, 3) := by decide +kernel
theorem dX2_doTick_26 : decode cX2_doTick 26 = .ok (.aload_n 0, 1) := by decide +kernel
theorem dX2_doTick_27 : decode cX2_doTick 27 = .ok (.invokevirtual 164, 3) := by decide +kernel
theorem dX2_doTick_30 : decode cX2_doTick 30 = .ok (.aload_n 0, 1) := by decide +kernel
theorem dX2_doTick_31 : decode cX2_doTick 31 = .ok (.invokevirtual 167, 3) := by decide +kernel
theorem dX2_doTick_34 : decode cX2_doTick 34 = .ok (.aload_n 0, 1) := by decide +kernel
theorem dX2_doTick_35 : decode cX2_doTick 35 = .ok (.invokevirtual 170, 3) := by decide +kernel
theorem dX2_doTick_38 : decode cX2_doTick 38 = .ok (.aload_n 0, 1) := by decide +kernel
theorem dX2_doTick_39 : decode cX2_doTick 39 = .ok (.invokevirtual 173, 3) := by decide +kernel
theorem dX2_doTick_42 : decode cX2_doTick 42 = .ok (.aload_n 0, 1) := by decide +kernel
theorem dX2_doTick_43 : decode cX2_doTick 43 = .ok (.getfield 38, 3) := by decide +kernel
theorem dX2_doTick_46 : decode cX2_doTick 46 = .ok (.ifnonnull 7, 3) := by decide +kernel
theorem dX2_doTick_49 : decode cX2_doTick 49 = .ok (.aload_n 0, 1) := by decide +kernel
theorem dX2_doTick_50 : decode cX2_doTick 50 = .ok (.invokevirtual 176, 3) := by decide +kernel
theorem dX2_doTick_53 : decode cX2_doTick 53 = .ok (.aload_n 0, 1) := by decide +kernel
theorem dX2_doTick_54 : decode cX2_doTick 54 = .ok (.invokevirtual 179, 3) := by decide +kernel
theorem dX2_doTick_57 : decode cX2_doTick 57 = .ok (.aload_n 0, 1) := by decide +kernel
theorem dX2_doTick_58 : decode cX2_doTick 58 = .ok (.getfield 38, 3) := by decide +kernel
theorem dX2_doTick_61 : decode cX2_doTick 61 = .ok (.ifnonnull 16, 3) := by decide +kernel
theorem dX2_doTick_64 : decode cX2_doTick 64 = .ok (.aload_n 0, 1) := by decide +kernel
theorem dX2_doTick_65 : decode cX2_doTick 65 = .ok (.dup, 1) := by decide +kernel
theorem dX2_doTick_66 : decode cX2_doTick 66 = .ok (.getfield 45, 3) := by decide +kernel
theorem dX2_doTick_69 : decode cX2_doTick 69 = .ok (.iconst 1, 1) := by decide +kernel
theorem dX2_doTick_70 : decode cX2_doTick 70 = .ok (.iadd, 1) := by decide +kernel
theorem dX2_doTick_71 : decode cX2_doTick 71 = .ok (.putfield 45, 3) := by decide +kernel
theorem dX2_doTick_74 : decode cX2_doTick 74 = .ok (.goto 11, 3) := by decide +kernel
theorem dX2_doTick_77 : decode cX2_doTick 77 = .ok (.aload_n 0, 1) := by decide +kernel
theorem dX2_doTick_78 : decode cX2_doTick 78 = .ok (.aload_n 0, 1) := by decide +kernel
theorem dX2_doTick_79 : decode cX2_doTick 79 = .ok (.getfield 38, 3) := by decide +kernel
theorem dX2_doTick_82 : decode cX2_doTick 82 = .ok (.invokevirtual 182, 3) := by decide +kernel
theorem dX2_doTick_85 : decode cX2_doTick 85 = .ok (.aload_n 0, 1) := by decide +kernel
theorem dX2_doTick_86 : decode cX2_doTick 86 = .ok (.dup, 1) := by decide +kernel
theorem dX2_doTick_87 : decode cX2_doTick 87 = .ok (.getfield 35, 3) := by decide +kernel
theorem dX2_doTick_90 : decode cX2_doTick 90 = .ok (.iconst 1, 1) := by decide +kernel
theorem dX2_doTick_91 : decode cX2_doTick 91 = .ok (.iadd, 1) := by decide +kernel
theorem dX2_doTick_92 : decode cX2_doTick 92 = .ok (.putfield 35, 3) := by decide +kernel
theorem dX2_doTick_95 : decode cX2_doTick 95 = .ok (.return_, 1) := by decide +kernel
set_option maxRecDepth 20000 in
theorem ggX2_bringAllUp_X1_comeUp : GoodIn wsX2_bringAllUp wsX1_comeUp := goodIn_r _ [9, 10, 11, 12, 13, 14, 15, 16, 17, 43, 44, 45, 46, 47, 48, 49, 50, 51, 52, 53, 54, 55, 56, 57, 58, 59, 60, 61] (by decide +kernel) (by decide +kernel)
set_option maxRecDepth 20000 in
theorem gX2_bringAllUp_X1_comeUp_n186 : GoodIn wsX2_bringAllUp (wsX1_comeUp) := ggX2_bringAllUp_X1_comeUp
set_option maxRecDepth 20000 in
theorem ggX2_bringAllUp_X0_addAllOf : GoodIn wsX2_bringAllUp wsX0_addAllOf := goodIn_r _ [21, 22, 23, 24, 25, 26, 19, 27, 62, 63, 64, 65] (by decide +kernel) (by decide +kernel)
set_option maxRecDepth 20000 in
theorem gX2_bringAllUp_X0_addAllOf_n190 : GoodIn wsX2_bringAllUp (wsX0_addAllOf) := ggX2_bringAllUp_X0_addAllOf
set_option maxRecDepth 20000 in
theorem ggX2_bringAllUp_X0_clear : GoodIn wsX2_bringAllUp wsX0_clear := goodIn_r _ [30, 22, 62, 63, 64, 65] (by decide +kernel) (by decide +kernel)
set_option maxRecDepth 20000 in
theorem gX2_bringAllUp_X0_clear_n160 : GoodIn wsX2_bringAllUp (wsX0_clear) := ggX2_bringAllUp_X0_clear
theorem dX2_bringAllUp_0 : decode cX2_bringAllUp 0 = .ok (.aload_n 0, 1) := by decide +kernel
theorem dX2_bringAllUp_1 : decode cX2_bringAllUp 1 = .ok (.dup, 1) := by decide +kernel
theorem dX2_bringAllUp_2 : decode cX2_bringAllUp 2 = .ok (.getfield 48, 3) := by decide +kernel
theorem dX2_bringAllUp_5 : decode cX2_bringAllUp 5 = .ok (.iconst 1, 1) := by decide +kernel
theorem dX2_bringAllUp_6 : decode cX2_bringAllUp 6 = .ok (.iadd, 1) := by decide +kernel
theorem dX2_bringAllUp_7 : decode cX2_bringAllUp 7 = .ok (.putfield 48, 3) := by decide +kernel
theorem dX2_bringAllUp_10 : decode cX2_bringAllUp 10 = .ok (.aload_n 0, 1) := by decide +kernel
theorem dX2_bringAllUp_11 : decode cX2_bringAllUp 11 = .ok (.getfield 11, 3) := by decide +kernel
theorem dX2_bringAllUp_14 : decode cX2_bringAllUp 14 = .ok (.iconst 0, 1) := by decide +kernel
theorem dX2_bringAllUp_15 : decode cX2_bringAllUp 15 = .ok (.aaload, 1) := by decide +kernel
theorem dX2_bringAllUp_16 : decode cX2_bringAllUp 16 = .ok (.astore_n 1, 1) := by decide +kernel
theorem dX2_bringAllUp_17 : decode cX2_bringAllUp 17 = .ok (.iconst 0, 1) := by decide +kernel
theorem dX2_bringAllUp_18 : decode cX2_bringAllUp 18 = .ok (.istore_n 2, 1) := by decide +kernel
theorem dX2_bringAllUp_19 : decode cX2_bringAllUp 19 = .ok (.iload_n 2, 1) := by decide +kernel
theorem dX2_bringAllUp_20 : decode cX2_bringAllUp 20 = .ok (.aload_n 0, 1) := by decide +kernel
theorem dX2_bringAllUp_21 : decode cX2_bringAllUp 21 = .ok (.getfield 29, 3) := by decide +kernel
theorem dX2_bringAllUp_24 : decode cX2_bringAllUp 24 = .ok (.if_icmp .ge 51, 3) := by decide +kernel
theorem dX2_bringAllUp_27 : decode cX2_bringAllUp 27 = .ok (.aload_n 0, 1) := by decide +kernel
theorem dX2_bringAllUp_28 : decode cX2_bringAllUp 28 = .ok (.getfield 17, 3) := by decide +kernel
theorem dX2_bringAllUp_31 : decode cX2_bringAllUp 31 = .ok (.iload_n 2, 1) := by decide +kernel
theorem dX2_bringAllUp_32 : decode cX2_bringAllUp 32 = .ok (.aaload, 1) := by decide +kernel
theorem dX2_bringAllUp_33 : decode cX2_bringAllUp 33 = .ok (.getfield 118, 3) := by decide +kernel
theorem dX2_bringAllUp_36 : decode cX2_bringAllUp 36 = .ok (.ifCond .eq 33, 3) := by decide +kernel
theorem dX2_bringAllUp_39 : decode cX2_bringAllUp 39 = .ok (.aload_n 0, 1) := by decide +kernel
theorem dX2_bringAllUp_40 : decode cX2_bringAllUp 40 = .ok (.getfield 17, 3) := by decide +kernel
theorem dX2_bringAllUp_43 : decode cX2_bringAllUp 43 = .ok (.iload_n 2, 1) := by decide +kernel
theorem dX2_bringAllUp_44 : decode cX2_bringAllUp 44 = .ok (.aaload, 1) := by decide +kernel
theorem dX2_bringAllUp_45 : decode cX2_bringAllUp 45 = .ok (.getfield 118, 3) := by decide +kernel
theorem dX2_bringAllUp_48 : decode cX2_bringAllUp 48 = .ok (.iconst 4, 1) := by decide +kernel
theorem dX2_bringAllUp_49 : decode cX2_bringAllUp 49 = .ok (.if_icmp .eq 20, 3) := by decide +kernel
theorem dX2_bringAllUp_52 : decode cX2_bringAllUp 52 = .ok (.aload_n 0, 1) := by decide +kernel
theorem dX2_bringAllUp_53 : decode cX2_bringAllUp 53 = .ok (.getfield 17, 3) := by decide +kernel
theorem dX2_bringAllUp_56 : decode cX2_bringAllUp 56 = .ok (.iload_n 2, 1) := by decide +kernel
theorem dX2_bringAllUp_57 : decode cX2_bringAllUp 57 = .ok (.aaload, 1) := by decide +kernel
theorem dX2_bringAllUp_58 : decode cX2_bringAllUp 58 = .ok (.aload_n 1, 1) := by decide +kernel
theorem dX2_bringAllUp_59 : decode cX2_bringAllUp 59 = .ok (.getfield 65, 3) := by decide +kernel
theorem dX2_bringAllUp_62 : decode cX2_bringAllUp 62 = .ok (.aload_n 1, 1) := by decide +kernel
theorem dX2_bringAllUp_63 : decode cX2_bringAllUp 63 = .ok (.getfield 68, 3) := by decide +kernel
theorem dX2_bringAllUp_66 : decode cX2_bringAllUp 66 = .ok (.invokevirtual 186, 3) := by decide +kernel
theorem dX2_bringAllUp_69 : decode cX2_bringAllUp 69 = .ok (.iinc 2 1, 3) := by decide +kernel
theorem dX2_bringAllUp_72 : decode cX2_bringAllUp 72 = .ok (.goto (-53), 3) := by decide +kernel
theorem dX2_bringAllUp_75 : decode cX2_bringAllUp 75 = .ok (.iconst 1, 1) := by decide +kernel
theorem dX2_bringAllUp_76 : decode cX2_bringAllUp 76 = .ok (.istore_n 2, 1) := by decide +kernel
theorem dX2_bringAllUp_77 : decode cX2_bringAllUp 77 = .ok (.iload_n 2, 1) := by decide +kernel
theorem dX2_bringAllUp_78 : decode cX2_bringAllUp 78 = .ok (.aload_n 0, 1) := by decide +kernel
theorem dX2_bringAllUp_79 : decode cX2_bringAllUp 79 = .ok (.getfield 25, 3) := by decide +kernel
theorem dX2_bringAllUp_82 : decode cX2_bringAllUp 82 = .ok (.if_icmp .ge 28, 3) := by decide +kernel
theorem dX2_bringAllUp_85 : decode cX2_bringAllUp 85 = .ok (.aload_n 1, 1) := by decide +kernel
theorem dX2_bringAllUp_86 : decode cX2_bringAllUp 86 = .ok (.aload_n 0, 1) := by decide +kernel
theorem dX2_bringAllUp_87 : decode cX2_bringAllUp 87 = .ok (.getfield 11, 3) := by decide +kernel
theorem dX2_bringAllUp_90 : decode cX2_bringAllUp 90 = .ok (.iload_n 2, 1) := by decide +kernel
theorem dX2_bringAllUp_91 : decode cX2_bringAllUp 91 = .ok (.aaload, 1) := by decide +kernel
theorem dX2_bringAllUp_92 : decode cX2_bringAllUp 92 = .ok (.invokevirtual 190, 3) := by decide +kernel
theorem dX2_bringAllUp_95 : decode cX2_bringAllUp 95 = .ok (.aload_n 0, 1) := by decide +kernel
theorem dX2_bringAllUp_96 : decode cX2_bringAllUp 96 = .ok (.getfield 11, 3) := by decide +kernel
theorem dX2_bringAllUp_99 : decode cX2_bringAllUp 99 = .ok (.iload_n 2, 1) := by decide +kernel
theorem dX2_bringAllUp_100 : decode cX2_bringAllUp 100 = .ok (.aaload, 1) := by decide +kernel
theorem dX2_bringAllUp_101 : decode cX2_bringAllUp 101 = .ok (.invokevirtual 160, 3) := by decide +kernel
theorem dX2_bringAllUp_104 : decode cX2_bringAllUp 104 = .ok (.iinc 2 1, 3) := by decide +kernel
theorem dX2_bringAllUp_107 : decode cX2_bringAllUp 107 = .ok (.goto (-30), 3) := by decide +kernel
theorem dX2_bringAllUp_110 : decode cX2_bringAllUp 110 = .ok (.return_, 1) := by decide +kernel
set_option maxRecDepth 20000 in
theorem ggX2_letArrive_X2_goOnOrEnd : GoodIn wsX2_letArrive wsX2_goOnOrEnd := goodIn_r _ [9, 3, 10, 11, 12, 13, 14, 15, 16, 17, 18, 19, 20, 8, 21, 4, 22, 23, 24, 25, 26, 27, 28, 29, 30, 31, 32, 33, 34, 35, 36, 37, 38, 39, 40, 41, 42, 43, 44, 45, 46, 47, 48, 49, 50, 51, 52, 53, 54, 55, 56, 57, 58, 59, 60, 61, 62, 63, 64, 65, 66, 67] (by decide +kernel) (by decide +kernel)
set_option maxRecDepth 20000 in
theorem gX2_letArrive_X2_goOnOrEnd : GoodIn wsX2_letArrive (wsV RX2 200 RX2 yX2_goOnOrEnd wsX2_goOnOrEnd) := goodIn_app (goodIn_of _ (by decide +kernel)) ggX2_letArrive_X2_goOnOrEnd
theorem dX2_letArrive_0 : decode cX2_letArrive 0 = .ok (.iconst 0, 1) := by decide +kernel
theorem dX2_letArrive_1 : decode cX2_letArrive 1 = .ok (.istore_n 1, 1) := by decide +kernel
theorem dX2_letArrive_2 : decode cX2_letArrive 2 = .ok (.iload_n 1, 1) := by decide +kernel
theorem dX2_letArrive_3 : decode cX2_letArrive 3 = .ok (.aload_n 0, 1) := by decide +kernel
theorem dX2_letArrive_4 : decode cX2_letArrive 4 = .ok (.getfield 29, 3) := by decide +kernel
theorem dX2_letArrive_7 : decode cX2_letArrive 7 = .ok (.if_icmp .ge 52, 3) := by decide +kernel
theorem dX2_letArrive_10 : decode cX2_letArrive 10 = .ok (.aload_n 0, 1) := by decide +kernel
theorem dX2_letArrive_11 : decode cX2_letArrive 11 = .ok (.getfield 17, 3) := by decide +kernel
theorem dX2_letArrive_14 : decode cX2_letArrive 14 = .ok (.iload_n 1, 1) := by decide +kernel
theorem dX2_letArrive_15 : decode cX2_letArrive 15 = .ok (.aaload, 1) := by decide +kernel
theorem dX2_letArrive_16 : decode cX2_letArrive 16 = .ok (.astore_n 2, 1) := by decide +kernel
theorem dX2_letArrive_17 : decode cX2_letArrive 17 = .ok (.aload_n 2, 1) := by decide +kernel
theorem dX2_letArrive_18 : decode cX2_letArrive 18 = .ok (.getfield 118, 3) := by decide +kernel
theorem dX2_letArrive_21 : decode cX2_letArrive 21 = .ok (.ifCond .ne 32, 3) := by decide +kernel
theorem dX2_letArrive_24 : decode cX2_letArrive 24 = .ok (.aload_n 2, 1) := by decide +kernel
theorem dX2_letArrive_25 : decode cX2_letArrive 25 = .ok (.getfield 194, 3) := by decide +kernel
theorem dX2_letArrive_28 : decode cX2_letArrive 28 = .ok (.aload_n 0, 1) := by decide +kernel
theorem dX2_letArrive_29 : decode cX2_letArrive 29 = .ok (.getfield 35, 3) := by decide +kernel
theorem dX2_letArrive_32 : decode cX2_letArrive 32 = .ok (.if_icmp .ne 21, 3) := by decide +kernel
theorem dX2_letArrive_35 : decode cX2_letArrive 35 = .ok (.aload_n 2, 1) := by decide +kernel
theorem dX2_letArrive_36 : decode cX2_letArrive 36 = .ok (.aload_n 0, 1) := by decide +kernel
theorem dX2_letArrive_37 : decode cX2_letArrive 37 = .ok (.getfield 11, 3) := by decide +kernel
theorem dX2_letArrive_40 : decode cX2_letArrive 40 = .ok (.iconst 0, 1) := by decide +kernel
theorem dX2_letArrive_41 : decode cX2_letArrive 41 = .ok (.aaload, 1) := by decide +kernel
theorem dX2_letArrive_42 : decode cX2_letArrive 42 = .ok (.getfield 68, 3) := by decide +kernel
theorem dX2_letArrive_45 : decode cX2_letArrive 45 = .ok (.putfield 197, 3) := by decide +kernel
theorem dX2_letArrive_48 : decode cX2_letArrive 48 = .ok (.aload_n 0, 1) := by decide +kernel
theorem dX2_letArrive_49 : decode cX2_letArrive 49 = .ok (.aload_n 2, 1) := by decide +kernel
theorem dX2_letArrive_50 : decode cX2_letArrive 50 = .ok (.invokevirtual 200, 3) := by decide +kernel
theorem dX2_letArrive_53 : decode cX2_letArrive 53 = .ok (.iinc 1 1, 3) := by decide +kernel
theorem dX2_letArrive_56 : decode cX2_letArrive 56 = .ok (.goto (-54), 3) := by decide +kernel
theorem dX2_letArrive_59 : decode cX2_letArrive 59 = .ok (.return_, 1) := by decide +kernel
set_option maxRecDepth 20000 in
theorem ggX2_letComeBack_X2_goOnOrEnd : GoodIn wsX2_letComeBack wsX2_goOnOrEnd := goodIn_r _ [7, 8, 9, 10, 11, 12, 13, 14, 15, 16, 17, 18, 19, 6, 20, 21, 22, 23, 24, 25, 26, 27, 28, 29, 30, 31, 32, 33, 34, 35, 36, 37, 38, 39, 40, 41, 42, 43, 44, 45, 46, 47, 48, 49, 50, 51, 52, 53, 54, 55, 56, 57, 58, 59, 60, 61, 62, 63, 64, 65, 66, 67] (by decide +kernel) (by decide +kernel)
set_option maxRecDepth 20000 in
theorem gX2_letComeBack_X2_goOnOrEnd : GoodIn wsX2_letComeBack (wsV RX2 200 RX2 yX2_goOnOrEnd wsX2_goOnOrEnd) := goodIn_app (goodIn_of _ (by decide +kernel)) ggX2_letComeBack_X2_goOnOrEnd
theorem dX2_letComeBack_0 : decode cX2_letComeBack 0 = .ok (.iconst 0, 1) := by decide +kernel
theorem dX2_letComeBack_1 : decode cX2_letComeBack 1 = .ok (.istore_n 1, 1) := by decide +kernel
theorem dX2_letComeBack_2 : decode cX2_letComeBack 2 = .ok (.iload_n 1, 1) := by decide +kernel
theorem dX2_letComeBack_3 : decode cX2_letComeBack 3 = .ok (.aload_n 0, 1) := by decide +kernel
theorem dX2_letComeBack_4 : decode cX2_letComeBack 4 = .ok (.getfield 29, 3) := by decide +kernel
theorem dX2_letComeBack_7 : decode cX2_letComeBack 7 = .ok (.if_icmp .ge 36, 3) := by decide +kernel
theorem dX2_letComeBack_10 : decode cX2_letComeBack 10 = .ok (.aload_n 0, 1) := by decide +kernel
theorem dX2_letComeBack_11 : decode cX2_letComeBack 11 = .ok (.getfield 17, 3) := by decide +kernel
theorem dX2_letComeBack_14 : decode cX2_letComeBack 14 = .ok (.iload_n 1, 1) := by decide +kernel
theorem dX2_letComeBack_15 : decode cX2_letComeBack 15 = .ok (.aaload, 1) := by decide +kernel
theorem dX2_letComeBack_16 : decode cX2_letComeBack 16 = .ok (.astore_n 2, 1) := by decide +kernel
theorem dX2_letComeBack_17 : decode cX2_letComeBack 17 = .ok (.aload_n 2, 1) := by decide +kernel
theorem dX2_letComeBack_18 : decode cX2_letComeBack 18 = .ok (.getfield 118, 3) := by decide +kernel
theorem dX2_letComeBack_21 : decode cX2_letComeBack 21 = .ok (.iconst 3, 1) := by decide +kernel
theorem dX2_letComeBack_22 : decode cX2_letComeBack 22 = .ok (.if_icmp .ne 15, 3) := by decide +kernel
theorem dX2_letComeBack_25 : decode cX2_letComeBack 25 = .ok (.aload_n 2, 1) := by decide +kernel
theorem dX2_letComeBack_26 : decode cX2_letComeBack 26 = .ok (.getfield 203, 3) := by decide +kernel
theorem dX2_letComeBack_29 : decode cX2_letComeBack 29 = .ok (.ifCond .ne 8, 3) := by decide +kernel
theorem dX2_letComeBack_32 : decode cX2_letComeBack 32 = .ok (.aload_n 0, 1) := by decide +kernel
theorem dX2_letComeBack_33 : decode cX2_letComeBack 33 = .ok (.aload_n 2, 1) := by decide +kernel
theorem dX2_letComeBack_34 : decode cX2_letComeBack 34 = .ok (.invokevirtual 200, 3) := by decide +kernel
theorem dX2_letComeBack_37 : decode cX2_letComeBack 37 = .ok (.iinc 1 1, 3) := by decide +kernel
theorem dX2_letComeBack_40 : decode cX2_letComeBack 40 = .ok (.goto (-38), 3) := by decide +kernel
theorem dX2_letComeBack_43 : decode cX2_letComeBack 43 = .ok (.return_, 1) := by decide +kernel
set_option maxRecDepth 20000 in
theorem ggX2_goOnOrEnd_X1_beginBurst : GoodIn wsX2_goOnOrEnd wsX1_beginBurst := goodIn_r _ [5, 6, 7, 8, 9, 39, 40, 41, 42, 43, 44, 45, 46, 47, 48, 49, 50, 51, 52, 53, 54, 55, 56, 57] (by decide +kernel) (by decide +kernel)
set_option maxRecDepth 20000 in
theorem gX2_goOnOrEnd_X1_beginBurst_n206 : GoodIn wsX2_goOnOrEnd (wsX1_beginBurst) := ggX2_goOnOrEnd_X1_beginBurst
set_option maxRecDepth 20000 in
theorem ggX2_goOnOrEnd_X2_standAtEnd : GoodIn wsX2_goOnOrEnd wsX2_standAtEnd := goodIn_r _ [14, 15, 16, 17, 18, 19, 20, 21, 39, 40, 41, 42, 43, 44, 45, 46, 47, 48, 49, 50, 51, 52, 53, 54, 55, 56, 57, 27, 28, 29, 30, 31, 32, 33, 34, 35, 36, 37, 38, 58, 59, 60, 61] (by decide +kernel) (by decide +kernel)
set_option maxRecDepth 20000 in
theorem gX2_goOnOrEnd_X2_standAtEnd : GoodIn wsX2_goOnOrEnd (wsV RX2 210 RX2 yX2_standAtEnd wsX2_standAtEnd) := goodIn_app (goodIn_of _ (by decide +kernel)) ggX2_goOnOrEnd_X2_standAtEnd
set_option maxRecDepth 20000 in
theorem ggX2_goOnOrEnd_X2_endTask : GoodIn wsX2_goOnOrEnd wsX2_endTask := goodIn_r _ [25, 26, 39, 40, 41, 42, 43, 44, 45, 46, 47, 48, 49, 50, 51, 52, 53, 54, 55, 56, 57, 27, 28, 29, 30, 31, 32, 33, 34, 35, 36, 37, 38] (by decide +kernel) (by decide +kernel)
set_option maxRecDepth 20000 in
theorem gX2_goOnOrEnd_X2_endTask : GoodIn wsX2_goOnOrEnd (wsV RX2 213 RX2 yX2_endTask wsX2_endTask) := goodIn_app (goodIn_of _ (by decide +kernel)) ggX2_goOnOrEnd_X2_endTask
theorem dX2_goOnOrEnd_0 : decode cX2_goOnOrEnd 0 = .ok (.aload_n 1, 1) := by decide +kernel
theorem dX2_goOnOrEnd_1 : decode cX2_goOnOrEnd 1 = .ok (.invokevirtual 206, 3) := by decide +kernel
theorem dX2_goOnOrEnd_4 : decode cX2_goOnOrEnd 4 = .ok (.ifCond .eq 11, 3) := by decide +kernel
theorem dX2_goOnOrEnd_7 : decode cX2_goOnOrEnd 7 = .ok (.aload_n 0, 1) := by decide +kernel
theorem dX2_goOnOrEnd_8 : decode cX2_goOnOrEnd 8 = .ok (.aload_n 1, 1) := by decide +kernel
theorem dX2_goOnOrEnd_9 : decode cX2_goOnOrEnd 9 = .ok (.invokevirtual 210, 3) := by decide +kernel
theorem dX2_goOnOrEnd_12 : decode cX2_goOnOrEnd 12 = .ok (.goto 12, 3) := by decide +kernel
theorem dX2_goOnOrEnd_15 : decode cX2_goOnOrEnd 15 = .ok (.aload_n 0, 1) := by decide +kernel
theorem dX2_goOnOrEnd_16 : decode cX2_goOnOrEnd 16 = .ok (.aload_n 1, 1) := by decide +kernel
theorem dX2_goOnOrEnd_17 : decode cX2_goOnOrEnd 17 = .ok (.aload_n 0, 1) := by decide +kernel
theorem dX2_goOnOrEnd_18 : decode cX2_goOnOrEnd 18 = .ok (.getfield 35, 3) := by decide +kernel
theorem dX2_goOnOrEnd_21 : decode cX2_goOnOrEnd 21 = .ok (.invokevirtual 213, 3) := by decide +kernel
theorem dX2_goOnOrEnd_24 : decode cX2_goOnOrEnd 24 = .ok (.return_, 1) := by decide +kernel
set_option maxRecDepth 20000 in
theorem ggX2_makeWay_X2_isOneReadyAbove : GoodIn wsX2_makeWay wsX2_isOneReadyAbove := goodIn_r _ [7, 2, 14, 15, 16, 17, 18, 19, 20, 21, 22, 23, 24, 25, 45, 46, 47, 48] (by decide +kernel) (by decide +kernel)
set_option maxRecDepth 20000 in
theorem gX2_makeWay_X2_isOneReadyAbove : GoodIn wsX2_makeWay (wsV RX2 217 RX2 yX2_isOneReadyAbove wsX2_isOneReadyAbove) := goodIn_app (goodIn_of _ (by decide +kernel)) ggX2_makeWay_X2_isOneReadyAbove
set_option maxRecDepth 20000 in
theorem ggX2_makeWay_X0_addFirst : GoodIn wsX2_makeWay wsX0_addFirst := goodIn_r _ [11, 12, 13, 45, 46, 47, 48] (by decide +kernel) (by decide +kernel)
set_option maxRecDepth 20000 in
theorem gX2_makeWay_X0_addFirst_n224 : GoodIn wsX2_makeWay (wsX0_addFirst) := ggX2_makeWay_X0_addFirst
theorem dX2_makeWay_0 : decode cX2_makeWay 0 = .ok (.aload_n 0, 1) := by decide +kernel
theorem dX2_makeWay_1 : decode cX2_makeWay 1 = .ok (.getfield 38, 3) := by decide +kernel
theorem dX2_makeWay_4 : decode cX2_makeWay 4 = .ok (.ifnull 17, 3) := by decide +kernel
theorem dX2_makeWay_7 : decode cX2_makeWay 7 = .ok (.aload_n 0, 1) := by decide +kernel
theorem dX2_makeWay_8 : decode cX2_makeWay 8 = .ok (.aload_n 0, 1) := by decide +kernel
theorem dX2_makeWay_9 : decode cX2_makeWay 9 = .ok (.getfield 38, 3) := by decide +kernel
theorem dX2_makeWay_12 : decode cX2_makeWay 12 = .ok (.getfield 121, 3) := by decide +kernel
theorem dX2_makeWay_15 : decode cX2_makeWay 15 = .ok (.invokevirtual 217, 3) := by decide +kernel
theorem dX2_makeWay_18 : decode cX2_makeWay 18 = .ok (.ifCond .ne 4, 3) := by decide +kernel
theorem dX2_makeWay_21 : decode cX2_makeWay 21 = .ok (.return_, 1) := by decide +kernel
theorem dX2_makeWay_22 : decode cX2_makeWay 22 = .ok (.aload_n 0, 1) := by decide +kernel
theorem dX2_makeWay_23 : decode cX2_makeWay 23 = .ok (.getfield 38, 3) := by decide +kernel
theorem dX2_makeWay_26 : decode cX2_makeWay 26 = .ok (.iconst 1, 1) := by decide +kernel
theorem dX2_makeWay_27 : decode cX2_makeWay 27 = .ok (.putfield 118, 3) := by decide +kernel
theorem dX2_makeWay_30 : decode cX2_makeWay 30 = .ok (.aload_n 0, 1) := by decide +kernel
theorem dX2_makeWay_31 : decode cX2_makeWay 31 = .ok (.getfield 38, 3) := by decide +kernel
theorem dX2_makeWay_34 : decode cX2_makeWay 34 = .ok (.iconst 1, 1) := by decide +kernel
theorem dX2_makeWay_35 : decode cX2_makeWay 35 = .ok (.putfield 220, 3) := by decide +kernel
theorem dX2_makeWay_38 : decode cX2_makeWay 38 = .ok (.aload_n 0, 1) := by decide +kernel
theorem dX2_makeWay_39 : decode cX2_makeWay 39 = .ok (.getfield 38, 3) := by decide +kernel
theorem dX2_makeWay_42 : decode cX2_makeWay 42 = .ok (.dup, 1) := by decide +kernel
theorem dX2_makeWay_43 : decode cX2_makeWay 43 = .ok (.getfield 145, 3) := by decide +kernel
theorem dX2_makeWay_46 : decode cX2_makeWay 46 = .ok (.iconst 1, 1) := by decide +kernel
theorem dX2_makeWay_47 : decode cX2_makeWay 47 = .ok (.iadd, 1) := by decide +kernel
theorem dX2_makeWay_48 : decode cX2_makeWay 48 = .ok (.putfield 145, 3) := by decide +kernel
theorem dX2_makeWay_51 : decode cX2_makeWay 51 = .ok (.aload_n 0, 1) := by decide +kernel
theorem dX2_makeWay_52 : decode cX2_makeWay 52 = .ok (.getfield 11, 3) := by decide +kernel
theorem dX2_makeWay_55 : decode cX2_makeWay 55 = .ok (.aload_n 0, 1) := by decide +kernel
theorem dX2_makeWay_56 : decode cX2_makeWay 56 = .ok (.getfield 38, 3) := by decide +kernel
theorem dX2_makeWay_59 : decode cX2_makeWay 59 = .ok (.getfield 121, 3) := by decide +kernel
theorem dX2_makeWay_62 : decode cX2_makeWay 62 = .ok (.aaload, 1) := by decide +kernel
theorem dX2_makeWay_63 : decode cX2_makeWay 63 = .ok (.aload_n 0, 1) := by decide +kernel
theorem dX2_makeWay_64 : decode cX2_makeWay 64 = .ok (.getfield 38, 3) := by decide +kernel
theorem dX2_makeWay_67 : decode cX2_makeWay 67 = .ok (.getfield 150, 3) := by decide +kernel
theorem dX2_makeWay_70 : decode cX2_makeWay 70 = .ok (.invokevirtual 224, 3) := by decide +kernel
theorem dX2_makeWay_73 : decode cX2_makeWay 73 = .ok (.aload_n 0, 1) := by decide +kernel
theorem dX2_makeWay_74 : decode cX2_makeWay 74 = .ok (.aconst_null, 1) := by decide +kernel
theorem dX2_makeWay_75 : decode cX2_makeWay 75 = .ok (.putfield 38, 3) := by decide +kernel
theorem dX2_makeWay_78 : decode cX2_makeWay 78 = .ok (.return_, 1) := by decide +kernel
theorem dX2_isOneReadyAbove_0 : decode cX2_isOneReadyAbove 0 = .ok (.iconst 0, 1) := by decide +kernel
theorem dX2_isOneReadyAbove_1 : decode cX2_isOneReadyAbove 1 = .ok (.istore_n 2, 1) := by decide +kernel
theorem dX2_isOneReadyAbove_2 : decode cX2_isOneReadyAbove 2 = .ok (.iload_n 2, 1) := by decide +kernel
theorem dX2_isOneReadyAbove_3 : decode cX2_isOneReadyAbove 3 = .ok (.iload_n 1, 1) := by decide +kernel
theorem dX2_isOneReadyAbove_4 : decode cX2_isOneReadyAbove 4 = .ok (.if_icmp .ge 23, 3) := by decide +kernel
theorem dX2_isOneReadyAbove_7 : decode cX2_isOneReadyAbove 7 = .ok (.aload_n 0, 1) := by decide +kernel
theorem dX2_isOneReadyAbove_8 : decode cX2_isOneReadyAbove 8 = .ok (.getfield 11, 3) := by decide +kernel
theorem dX2_isOneReadyAbove_11 : decode cX2_isOneReadyAbove 11 = .ok (.iload_n 2, 1) := by decide +kernel
theorem dX2_isOneReadyAbove_12 : decode cX2_isOneReadyAbove 12 = .ok (.aaload, 1) := by decide +kernel
theorem dX2_isOneReadyAbove_13 : decode cX2_isOneReadyAbove 13 = .ok (.getfield 227, 3) := by decide +kernel
theorem dX2_isOneReadyAbove_16 : decode cX2_isOneReadyAbove 16 = .ok (.ifCond .le 5, 3) := by decide +kernel
theorem dX2_isOneReadyAbove_19 : decode cX2_isOneReadyAbove 19 = .ok (.iconst 1, 1) := by decide +kernel
theorem dX2_isOneReadyAbove_20 : decode cX2_isOneReadyAbove 20 = .ok (.ireturn, 1) := by decide +kernel
theorem dX2_isOneReadyAbove_21 : decode cX2_isOneReadyAbove 21 = .ok (.iinc 2 1, 3) := by decide +kernel
theorem dX2_isOneReadyAbove_24 : decode cX2_isOneReadyAbove 24 = .ok (.goto (-22), 3) := by decide +kernel
theorem dX2_isOneReadyAbove_27 : decode cX2_isOneReadyAbove 27 = .ok (.iconst 0, 1) := by decide +kernel
theorem dX2_isOneReadyAbove_28 : decode cX2_isOneReadyAbove 28 = .ok (.ireturn, 1) := by decide +kernel
set_option maxRecDepth 20000 in
theorem ggX2_switchToFirst_X0_takeFirst : GoodIn wsX2_switchToFirst wsX0_takeFirst := goodIn_r _ [7, 8, 9, 45, 46, 47, 48] (by decide +kernel) (by decide +kernel)
set_option maxRecDepth 20000 in
theorem gX2_switchToFirst_X0_takeFirst_n230 : GoodIn wsX2_switchToFirst (wsX0_takeFirst) := ggX2_switchToFirst_X0_takeFirst
set_option maxRecDepth 20000 in
theorem ggX2_switchToFirst_X2_isTask : GoodIn wsX2_switchToFirst wsX2_isTask := goodIn_r _ [14, 15, 33, 34, 35, 36, 37, 38, 39, 40, 41, 42, 43, 44] (by decide +kernel) (by decide +kernel)
set_option maxRecDepth 20000 in
theorem gX2_switchToFirst_X2_isTask : GoodIn wsX2_switchToFirst (wsV RX2 99 RX2 yX2_isTask wsX2_isTask) := goodIn_app (goodIn_of _ (by decide +kernel)) ggX2_switchToFirst_X2_isTask
set_option maxRecDepth 20000 in
theorem ggX2_switchToFirst_X2_switchTo : GoodIn wsX2_switchToFirst wsX2_switchTo := goodIn_r _ [19, 20, 2, 21, 22, 23, 24, 25, 26, 27, 28, 29, 30, 31, 32, 33, 34, 35, 36, 37, 38, 39, 40, 41, 42, 43, 44, 49, 50, 51, 52, 53, 54, 55, 56, 57, 58, 59, 60, 61, 62, 63, 64, 65, 66, 67, 45, 46, 47, 48] (by decide +kernel) (by decide +kernel)
set_option maxRecDepth 20000 in
theorem gX2_switchToFirst_X2_switchTo : GoodIn wsX2_switchToFirst (wsV RX2 234 RX2 yX2_switchTo wsX2_switchTo) := goodIn_app (goodIn_of _ (by decide +kernel)) ggX2_switchToFirst_X2_switchTo
theorem dX2_switchToFirst_0 : decode cX2_switchToFirst 0 = .ok (.iconst 0, 1) := by decide +kernel
theorem dX2_switchToFirst_1 : decode cX2_switchToFirst 1 = .ok (.istore_n 1, 1) := by decide +kernel
theorem dX2_switchToFirst_2 : decode cX2_switchToFirst 2 = .ok (.iload_n 1, 1) := by decide +kernel
theorem dX2_switchToFirst_3 : decode cX2_switchToFirst 3 = .ok (.aload_n 0, 1) := by decide +kernel
theorem dX2_switchToFirst_4 : decode cX2_switchToFirst 4 = .ok (.getfield 25, 3) := by decide +kernel
theorem dX2_switchToFirst_7 : decode cX2_switchToFirst 7 = .ok (.if_icmp .ge 38, 3) := by decide +kernel
theorem dX2_switchToFirst_10 : decode cX2_switchToFirst 10 = .ok (.aload_n 0, 1) := by decide +kernel
theorem dX2_switchToFirst_11 : decode cX2_switchToFirst 11 = .ok (.getfield 11, 3) := by decide +kernel
theorem dX2_switchToFirst_14 : decode cX2_switchToFirst 14 = .ok (.iload_n 1, 1) := by decide +kernel
theorem dX2_switchToFirst_15 : decode cX2_switchToFirst 15 = .ok (.aaload, 1) := by decide +kernel
theorem dX2_switchToFirst_16 : decode cX2_switchToFirst 16 = .ok (.invokevirtual 230, 3) := by decide +kernel
theorem dX2_switchToFirst_19 : decode cX2_switchToFirst 19 = .ok (.istore_n 2, 1) := by decide +kernel
theorem dX2_switchToFirst_20 : decode cX2_switchToFirst 20 = .ok (.aload_n 0, 1) := by decide +kernel
theorem dX2_switchToFirst_21 : decode cX2_switchToFirst 21 = .ok (.iload_n 2, 1) := by decide +kernel
theorem dX2_switchToFirst_22 : decode cX2_switchToFirst 22 = .ok (.invokevirtual 99, 3) := by decide +kernel
theorem dX2_switchToFirst_25 : decode cX2_switchToFirst 25 = .ok (.ifCond .eq 14, 3) := by decide +kernel
theorem dX2_switchToFirst_28 : decode cX2_switchToFirst 28 = .ok (.aload_n 0, 1) := by decide +kernel
theorem dX2_switchToFirst_29 : decode cX2_switchToFirst 29 = .ok (.aload_n 0, 1) := by decide +kernel
theorem dX2_switchToFirst_30 : decode cX2_switchToFirst 30 = .ok (.getfield 17, 3) := by decide +kernel
theorem dX2_switchToFirst_33 : decode cX2_switchToFirst 33 = .ok (.iload_n 2, 1) := by decide +kernel
theorem dX2_switchToFirst_34 : decode cX2_switchToFirst 34 = .ok (.aaload, 1) := by decide +kernel
theorem dX2_switchToFirst_35 : decode cX2_switchToFirst 35 = .ok (.invokevirtual 234, 3) := by decide +kernel
theorem dX2_switchToFirst_38 : decode cX2_switchToFirst 38 = .ok (.return_, 1) := by decide +kernel
theorem dX2_switchToFirst_39 : decode cX2_switchToFirst 39 = .ok (.iinc 1 1, 3) := by decide +kernel
theorem dX2_switchToFirst_42 : decode cX2_switchToFirst 42 = .ok (.goto (-40), 3) := by decide +kernel
theorem dX2_switchToFirst_45 : decode cX2_switchToFirst 45 = .ok (.return_, 1) := by decide +kernel
set_option maxRecDepth 20000 in
theorem ggX2_switchTo_X1_beginRunning : GoodIn wsX2_switchTo wsX1_beginRunning := goodIn_r _ [9, 10, 11, 12, 13, 14, 27, 28, 29, 30, 31, 32, 33, 34, 35, 36, 37, 38, 39, 40, 41, 42, 43, 44, 45] (by decide +kernel) (by decide +kernel)
set_option maxRecDepth 20000 in
theorem gX2_switchTo_X1_beginRunning_n237 : GoodIn wsX2_switchTo (wsX1_beginRunning) := ggX2_switchTo_X1_beginRunning
theorem dX2_switchTo_0 : decode cX2_switchTo 0 = .ok (.aload_n 1, 1) := by decide +kernel
theorem dX2_switchTo_1 : decode cX2_switchTo 1 = .ok (.aload_n 0, 1) := by decide +kernel
theorem dX2_switchTo_2 : decode cX2_switchTo 2 = .ok (.getfield 35, 3) := by decide +kernel
theorem dX2_switchTo_5 : decode cX2_switchTo 5 = .ok (.aload_n 0, 1) := by decide +kernel
theorem dX2_switchTo_6 : decode cX2_switchTo 6 = .ok (.getfield 11, 3) := by decide +kernel
theorem dX2_switchTo_9 : decode cX2_switchTo 9 = .ok (.aload_n 1, 1) := by decide +kernel
theorem dX2_switchTo_10 : decode cX2_switchTo 10 = .ok (.getfield 121, 3) := by decide +kernel
theorem dX2_switchTo_13 : decode cX2_switchTo 13 = .ok (.aaload, 1) := by decide +kernel
theorem dX2_switchTo_14 : decode cX2_switchTo 14 = .ok (.getfield 65, 3) := by decide +kernel
theorem dX2_switchTo_17 : decode cX2_switchTo 17 = .ok (.invokevirtual 237, 3) := by decide +kernel
theorem dX2_switchTo_20 : decode cX2_switchTo 20 = .ok (.aload_n 0, 1) := by decide +kernel
theorem dX2_switchTo_21 : decode cX2_switchTo 21 = .ok (.getfield 42, 3) := by decide +kernel
theorem dX2_switchTo_24 : decode cX2_switchTo 24 = .ok (.sipush 400, 3) := by decide +kernel
theorem dX2_switchTo_27 : decode cX2_switchTo 27 = .ok (.if_icmp .ge 24, 3) := by decide +kernel
theorem dX2_switchTo_30 : decode cX2_switchTo 30 = .ok (.aload_n 0, 1) := by decide +kernel
theorem dX2_switchTo_31 : decode cX2_switchTo 31 = .ok (.getfield 21, 3) := by decide +kernel
theorem dX2_switchTo_34 : decode cX2_switchTo 34 = .ok (.aload_n 0, 1) := by decide +kernel
theorem dX2_switchTo_35 : decode cX2_switchTo 35 = .ok (.getfield 42, 3) := by decide +kernel
theorem dX2_switchTo_38 : decode cX2_switchTo 38 = .ok (.bipush 16, 2) := by decide +kernel
theorem dX2_switchTo_40 : decode cX2_switchTo 40 = .ok (.aload_n 0, 1) := by decide +kernel
theorem dX2_switchTo_41 : decode cX2_switchTo 41 = .ok (.getfield 35, 3) := by decide +kernel
theorem dX2_switchTo_44 : decode cX2_switchTo 44 = .ok (.imul, 1) := by decide +kernel
theorem dX2_switchTo_45 : decode cX2_switchTo 45 = .ok (.aload_n 1, 1) := by decide +kernel
theorem dX2_switchTo_46 : decode cX2_switchTo 46 = .ok (.getfield 150, 3) := by decide +kernel
theorem dX2_switchTo_49 : decode cX2_switchTo 49 = .ok (.iadd, 1) := by decide +kernel
theorem dX2_switchTo_50 : decode cX2_switchTo 50 = .ok (.iastore, 1) := by decide +kernel
theorem dX2_switchTo_51 : decode cX2_switchTo 51 = .ok (.aload_n 0, 1) := by decide +kernel
theorem dX2_switchTo_52 : decode cX2_switchTo 52 = .ok (.dup, 1) := by decide +kernel
theorem dX2_switchTo_53 : decode cX2_switchTo 53 = .ok (.getfield 42, 3) := by decide +kernel
theorem dX2_switchTo_56 : decode cX2_switchTo 56 = .ok (.iconst 1, 1) := by decide +kernel
theorem dX2_switchTo_57 : decode cX2_switchTo 57 = .ok (.iadd, 1) := by decide +kernel
theorem dX2_switchTo_58 : decode cX2_switchTo 58 = .ok (.putfield 42, 3) := by decide +kernel
theorem dX2_switchTo_61 : decode cX2_switchTo 61 = .ok (.aload_n 0, 1) := by decide +kernel
theorem dX2_switchTo_62 : decode cX2_switchTo 62 = .ok (.aload_n 1, 1) := by decide +kernel
theorem dX2_switchTo_63 : decode cX2_switchTo 63 = .ok (.putfield 38, 3) := by decide +kernel
theorem dX2_switchTo_66 : decode cX2_switchTo 66 = .ok (.return_, 1) := by decide +kernel
theorem dX2_countWaiting_0 : decode cX2_countWaiting 0 = .ok (.iconst 0, 1) := by decide +kernel
theorem dX2_countWaiting_1 : decode cX2_countWaiting 1 = .ok (.istore_n 1, 1) := by decide +kernel
theorem dX2_countWaiting_2 : decode cX2_countWaiting 2 = .ok (.iload_n 1, 1) := by decide +kernel
theorem dX2_countWaiting_3 : decode cX2_countWaiting 3 = .ok (.aload_n 0, 1) := by decide +kernel
theorem dX2_countWaiting_4 : decode cX2_countWaiting 4 = .ok (.getfield 29, 3) := by decide +kernel
theorem dX2_countWaiting_7 : decode cX2_countWaiting 7 = .ok (.if_icmp .ge 65, 3) := by decide +kernel
theorem dX2_countWaiting_10 : decode cX2_countWaiting 10 = .ok (.aload_n 0, 1) := by decide +kernel
theorem dX2_countWaiting_11 : decode cX2_countWaiting 11 = .ok (.getfield 17, 3) := by decide +kernel
theorem dX2_countWaiting_14 : decode cX2_countWaiting 14 = .ok (.iload_n 1, 1) := by decide +kernel
theorem dX2_countWaiting_15 : decode cX2_countWaiting 15 = .ok (.aaload, 1) := by decide +kernel
theorem dX2_countWaiting_16 : decode cX2_countWaiting 16 = .ok (.astore_n 2, 1) := by decide +kernel
theorem dX2_countWaiting_17 : decode cX2_countWaiting 17 = .ok (.aload_n 2, 1) := by decide +kernel
theorem dX2_countWaiting_18 : decode cX2_countWaiting 18 = .ok (.getfield 118, 3) := by decide +kernel
theorem dX2_countWaiting_21 : decode cX2_countWaiting 21 = .ok (.iconst 1, 1) := by decide +kernel
theorem dX2_countWaiting_22 : decode cX2_countWaiting 22 = .ok (.if_icmp .ne 16, 3) := by decide +kernel
theorem dX2_countWaiting_25 : decode cX2_countWaiting 25 = .ok (.aload_n 2, 1) := by decide +kernel
theorem dX2_countWaiting_26 : decode cX2_countWaiting 26 = .ok (.dup, 1) := by decide +kernel
theorem dX2_countWaiting_27 : decode cX2_countWaiting 27 = .ok (.getfield 127, 3) := by decide +kernel
theorem dX2_countWaiting_30 : decode cX2_countWaiting 30 = .ok (.iconst 1, 1) := by decide +kernel
theorem dX2_countWaiting_31 : decode cX2_countWaiting 31 = .ok (.iadd, 1) := by decide +kernel
theorem dX2_countWaiting_32 : decode cX2_countWaiting 32 = .ok (.putfield 127, 3) := by decide +kernel
theorem dX2_countWaiting_35 : decode cX2_countWaiting 35 = .ok (.goto 31, 3) := by decide +kernel
theorem dX2_countWaiting_38 : decode cX2_countWaiting 38 = .ok (.aload_n 2, 1) := by decide +kernel
theorem dX2_countWaiting_39 : decode cX2_countWaiting 39 = .ok (.getfield 118, 3) := by decide +kernel
theorem dX2_countWaiting_42 : decode cX2_countWaiting 42 = .ok (.iconst 3, 1) := by decide +kernel
theorem dX2_countWaiting_43 : decode cX2_countWaiting 43 = .ok (.if_icmp .ne 23, 3) := by decide +kernel
theorem dX2_countWaiting_46 : decode cX2_countWaiting 46 = .ok (.aload_n 2, 1) := by decide +kernel
theorem dX2_countWaiting_47 : decode cX2_countWaiting 47 = .ok (.dup, 1) := by decide +kernel
theorem dX2_countWaiting_48 : decode cX2_countWaiting 48 = .ok (.getfield 130, 3) := by decide +kernel
theorem dX2_countWaiting_51 : decode cX2_countWaiting 51 = .ok (.iconst 1, 1) := by decide +kernel
theorem dX2_countWaiting_52 : decode cX2_countWaiting 52 = .ok (.iadd, 1) := by decide +kernel
theorem dX2_countWaiting_53 : decode cX2_countWaiting 53 = .ok (.putfield 130, 3) := by decide +kernel
theorem dX2_countWaiting_56 : decode cX2_countWaiting 56 = .ok (.aload_n 2, 1) := by decide +kernel
theorem dX2_countWaiting_57 : decode cX2_countWaiting 57 = .ok (.dup, 1) := by decide +kernel
theorem dX2_countWaiting_58 : decode cX2_countWaiting 58 = .ok (.getfield 203, 3) := by decide +kernel
theorem dX2_countWaiting_61 : decode cX2_countWaiting 61 = .ok (.iconst 1, 1) := by decide +kernel
theorem dX2_countWaiting_62 : decode cX2_countWaiting 62 = .ok (.isub, 1) := by decide +kernel
theorem dX2_countWaiting_63 : decode cX2_countWaiting 63 = .ok (.putfield 203, 3) := by decide +kernel
theorem dX2_countWaiting_66 : decode cX2_countWaiting 66 = .ok (.iinc 1 1, 3) := by decide +kernel
theorem dX2_countWaiting_69 : decode cX2_countWaiting 69 = .ok (.goto (-67), 3) := by decide +kernel
theorem dX2_countWaiting_72 : decode cX2_countWaiting 72 = .ok (.return_, 1) := by decide +kernel
set_option maxRecDepth 20000 in
theorem ggX2_useTick_X2_blockOrEnd : GoodIn wsX2_useTick wsX2_blockOrEnd := goodIn_r _ [6, 7, 8, 9, 10, 11, 12, 13, 14, 15, 16, 17, 18, 5, 19, 20, 37, 38, 39, 40, 41, 42, 43, 44, 45, 46, 47, 48, 49, 50, 51, 52, 53, 54, 55, 56, 57, 58, 59, 60, 61, 62, 63, 64, 65, 66, 67] (by decide +kernel) (by decide +kernel)
set_option maxRecDepth 20000 in
theorem gX2_useTick_X2_blockOrEnd : GoodIn wsX2_useTick (wsV RX2 243 RX2 yX2_blockOrEnd wsX2_blockOrEnd) := goodIn_app (goodIn_of _ (by decide +kernel)) ggX2_useTick_X2_blockOrEnd
set_option maxRecDepth 20000 in
theorem ggX2_useTick_X2_sendDown : GoodIn wsX2_useTick wsX2_sendDown := goodIn_r _ [24, 25, 26, 27, 28, 29, 5, 30, 31, 32, 33, 34, 35, 36, 37, 38, 39, 40, 41, 42, 43, 44, 45, 46, 47, 48, 49, 50, 51, 52, 53, 54, 55, 56, 57, 58, 59, 60, 61, 62, 63, 64, 65, 66, 67, 68, 69, 70, 71] (by decide +kernel) (by decide +kernel)
set_option maxRecDepth 20000 in
theorem gX2_useTick_X2_sendDown : GoodIn wsX2_useTick (wsV RX2 246 RX2 yX2_sendDown wsX2_sendDown) := goodIn_app (goodIn_of _ (by decide +kernel)) ggX2_useTick_X2_sendDown
set_option maxRecDepth 20000 in
theorem ggX2_useTick_X2_standAtEnd : GoodIn wsX2_useTick wsX2_standAtEnd := goodIn_r _ [30, 26, 31, 32, 33, 34, 35, 36, 37, 38, 39, 40, 41, 42, 43, 44, 45, 46, 47, 48, 49, 50, 51, 52, 53, 54, 55, 56, 57, 58, 59, 60, 61, 62, 63, 64, 65, 66, 67, 68, 69, 70, 71] (by decide +kernel) (by decide +kernel)
set_option maxRecDepth 20000 in
theorem gX2_useTick_X2_standAtEnd : GoodIn wsX2_useTick (wsV RX2 210 RX2 yX2_standAtEnd wsX2_standAtEnd) := goodIn_app (goodIn_of _ (by decide +kernel)) ggX2_useTick_X2_standAtEnd
theorem dX2_useTick_0 : decode cX2_useTick 0 = .ok (.aload_n 1, 1) := by decide +kernel
theorem dX2_useTick_1 : decode cX2_useTick 1 = .ok (.dup, 1) := by decide +kernel
theorem dX2_useTick_2 : decode cX2_useTick 2 = .ok (.getfield 124, 3) := by decide +kernel
theorem dX2_useTick_5 : decode cX2_useTick 5 = .ok (.iconst 1, 1) := by decide +kernel
theorem dX2_useTick_6 : decode cX2_useTick 6 = .ok (.iadd, 1) := by decide +kernel
theorem dX2_useTick_7 : decode cX2_useTick 7 = .ok (.putfield 124, 3) := by decide +kernel
theorem dX2_useTick_10 : decode cX2_useTick 10 = .ok (.aload_n 1, 1) := by decide +kernel
theorem dX2_useTick_11 : decode cX2_useTick 11 = .ok (.dup, 1) := by decide +kernel
theorem dX2_useTick_12 : decode cX2_useTick 12 = .ok (.getfield 203, 3) := by decide +kernel
theorem dX2_useTick_15 : decode cX2_useTick 15 = .ok (.iconst 1, 1) := by decide +kernel
theorem dX2_useTick_16 : decode cX2_useTick 16 = .ok (.isub, 1) := by decide +kernel
theorem dX2_useTick_17 : decode cX2_useTick 17 = .ok (.putfield 203, 3) := by decide +kernel
theorem dX2_useTick_20 : decode cX2_useTick 20 = .ok (.aload_n 1, 1) := by decide +kernel
theorem dX2_useTick_21 : decode cX2_useTick 21 = .ok (.dup, 1) := by decide +kernel
theorem dX2_useTick_22 : decode cX2_useTick 22 = .ok (.getfield 240, 3) := by decide +kernel
theorem dX2_useTick_25 : decode cX2_useTick 25 = .ok (.iconst 1, 1) := by decide +kernel
theorem dX2_useTick_26 : decode cX2_useTick 26 = .ok (.isub, 1) := by decide +kernel
theorem dX2_useTick_27 : decode cX2_useTick 27 = .ok (.putfield 240, 3) := by decide +kernel
theorem dX2_useTick_30 : decode cX2_useTick 30 = .ok (.aload_n 1, 1) := by decide +kernel
theorem dX2_useTick_31 : decode cX2_useTick 31 = .ok (.dup, 1) := by decide +kernel
theorem dX2_useTick_32 : decode cX2_useTick 32 = .ok (.getfield 197, 3) := by decide +kernel
theorem dX2_useTick_35 : decode cX2_useTick 35 = .ok (.iconst 1, 1) := by decide +kernel
theorem dX2_useTick_36 : decode cX2_useTick 36 = .ok (.isub, 1) := by decide +kernel
theorem dX2_useTick_37 : decode cX2_useTick 37 = .ok (.putfield 197, 3) := by decide +kernel
theorem dX2_useTick_40 : decode cX2_useTick 40 = .ok (.aload_n 1, 1) := by decide +kernel
theorem dX2_useTick_41 : decode cX2_useTick 41 = .ok (.getfield 203, 3) := by decide +kernel
theorem dX2_useTick_44 : decode cX2_useTick 44 = .ok (.ifCond .ne 11, 3) := by decide +kernel
theorem dX2_useTick_47 : decode cX2_useTick 47 = .ok (.aload_n 0, 1) := by decide +kernel
theorem dX2_useTick_48 : decode cX2_useTick 48 = .ok (.aload_n 1, 1) := by decide +kernel
theorem dX2_useTick_49 : decode cX2_useTick 49 = .ok (.invokevirtual 243, 3) := by decide +kernel
theorem dX2_useTick_52 : decode cX2_useTick 52 = .ok (.goto 34, 3) := by decide +kernel
theorem dX2_useTick_55 : decode cX2_useTick 55 = .ok (.aload_n 1, 1) := by decide +kernel
theorem dX2_useTick_56 : decode cX2_useTick 56 = .ok (.getfield 197, 3) := by decide +kernel
theorem dX2_useTick_59 : decode cX2_useTick 59 = .ok (.ifCond .gt 11, 3) := by decide +kernel
theorem dX2_useTick_62 : decode cX2_useTick 62 = .ok (.aload_n 0, 1) := by decide +kernel
theorem dX2_useTick_63 : decode cX2_useTick 63 = .ok (.aload_n 1, 1) := by decide +kernel
theorem dX2_useTick_64 : decode cX2_useTick 64 = .ok (.invokevirtual 246, 3) := by decide +kernel
theorem dX2_useTick_67 : decode cX2_useTick 67 = .ok (.goto 19, 3) := by decide +kernel
theorem dX2_useTick_70 : decode cX2_useTick 70 = .ok (.aload_n 1, 1) := by decide +kernel
theorem dX2_useTick_71 : decode cX2_useTick 71 = .ok (.getfield 240, 3) := by decide +kernel
theorem dX2_useTick_74 : decode cX2_useTick 74 = .ok (.ifCond .ne 11, 3) := by decide +kernel
theorem dX2_useTick_77 : decode cX2_useTick 77 = .ok (.aload_n 0, 1) := by decide +kernel
theorem dX2_useTick_78 : decode cX2_useTick 78 = .ok (.aload_n 1, 1) := by decide +kernel
theorem dX2_useTick_79 : decode cX2_useTick 79 = .ok (.invokevirtual 210, 3) := by decide +kernel
theorem dX2_useTick_82 : decode cX2_useTick 82 = .ok (.goto 4, 3) := by decide +kernel
theorem dX2_useTick_85 : decode cX2_useTick 85 = .ok (.return_, 1) := by decide +kernel
theorem dX2_useTick_86 : decode cX2_useTick 86 = .ok (.aload_n 0, 1) := by decide +kernel
theorem dX2_useTick_87 : decode cX2_useTick 87 = .ok (.aconst_null, 1) := by decide +kernel
theorem dX2_useTick_88 : decode cX2_useTick 88 = .ok (.putfield 38, 3) := by decide +kernel
theorem dX2_useTick_91 : decode cX2_useTick 91 = .ok (.return_, 1) := by decide +kernel
set_option maxRecDepth 20000 in
theorem ggX2_blockOrEnd_X1_beginBurst : GoodIn wsX2_blockOrEnd wsX1_beginBurst := goodIn_r _ [5, 6, 7, 8, 9, 16, 17, 18, 19, 20, 21, 22, 23, 24, 25, 26, 27, 28, 29, 30, 31, 32, 33, 34] (by decide +kernel) (by decide +kernel)
set_option maxRecDepth 20000 in
theorem gX2_blockOrEnd_X1_beginBurst_n206 : GoodIn wsX2_blockOrEnd (wsX1_beginBurst) := ggX2_blockOrEnd_X1_beginBurst
set_option maxRecDepth 20000 in
theorem ggX2_blockOrEnd_X2_endTask : GoodIn wsX2_blockOrEnd wsX2_endTask := goodIn_r _ [14, 15, 16, 17, 18, 19, 20, 21, 22, 23, 24, 25, 26, 27, 28, 29, 30, 31, 32, 33, 34, 35, 36, 37, 38, 39, 40, 41, 42, 43, 44, 45, 46] (by decide +kernel) (by decide +kernel)
set_option maxRecDepth 20000 in
theorem gX2_blockOrEnd_X2_endTask : GoodIn wsX2_blockOrEnd (wsV RX2 213 RX2 yX2_endTask wsX2_endTask) := goodIn_app (goodIn_of _ (by decide +kernel)) ggX2_blockOrEnd_X2_endTask
theorem dX2_blockOrEnd_0 : decode cX2_blockOrEnd 0 = .ok (.aload_n 1, 1) := by decide +kernel
theorem dX2_blockOrEnd_1 : decode cX2_blockOrEnd 1 = .ok (.invokevirtual 206, 3) := by decide +kernel
theorem dX2_blockOrEnd_4 : decode cX2_blockOrEnd 4 = .ok (.ifCond .eq 11, 3) := by decide +kernel
theorem dX2_blockOrEnd_7 : decode cX2_blockOrEnd 7 = .ok (.aload_n 1, 1) := by decide +kernel
theorem dX2_blockOrEnd_8 : decode cX2_blockOrEnd 8 = .ok (.iconst 3, 1) := by decide +kernel
theorem dX2_blockOrEnd_9 : decode cX2_blockOrEnd 9 = .ok (.putfield 118, 3) := by decide +kernel
theorem dX2_blockOrEnd_12 : decode cX2_blockOrEnd 12 = .ok (.goto 14, 3) := by decide +kernel
theorem dX2_blockOrEnd_15 : decode cX2_blockOrEnd 15 = .ok (.aload_n 0, 1) := by decide +kernel
theorem dX2_blockOrEnd_16 : decode cX2_blockOrEnd 16 = .ok (.aload_n 1, 1) := by decide +kernel
theorem dX2_blockOrEnd_17 : decode cX2_blockOrEnd 17 = .ok (.aload_n 0, 1) := by decide +kernel
theorem dX2_blockOrEnd_18 : decode cX2_blockOrEnd 18 = .ok (.getfield 35, 3) := by decide +kernel
theorem dX2_blockOrEnd_21 : decode cX2_blockOrEnd 21 = .ok (.iconst 1, 1) := by decide +kernel
theorem dX2_blockOrEnd_22 : decode cX2_blockOrEnd 22 = .ok (.iadd, 1) := by decide +kernel
theorem dX2_blockOrEnd_23 : decode cX2_blockOrEnd 23 = .ok (.invokevirtual 213, 3) := by decide +kernel
theorem dX2_blockOrEnd_26 : decode cX2_blockOrEnd 26 = .ok (.return_, 1) := by decide +kernel
set_option maxRecDepth 20000 in
theorem ggX2_sendDown_X2_standAtEnd : GoodIn wsX2_sendDown wsX2_standAtEnd := goodIn_r _ [7, 2, 8, 9, 10, 11, 12, 13, 14, 15, 16, 17, 18, 19, 20, 21, 22, 23, 24, 25, 26, 27, 28, 29, 30, 31, 32, 33, 34, 35, 36, 37, 38, 39, 40, 41, 42, 43, 44, 45, 46, 47, 48] (by decide +kernel) (by decide +kernel)
set_option maxRecDepth 20000 in
theorem gX2_sendDown_X2_standAtEnd : GoodIn wsX2_sendDown (wsV RX2 210 RX2 yX2_standAtEnd wsX2_standAtEnd) := goodIn_app (goodIn_of _ (by decide +kernel)) ggX2_sendDown_X2_standAtEnd
theorem dX2_sendDown_0 : decode cX2_sendDown 0 = .ok (.aload_n 1, 1) := by decide +kernel
theorem dX2_sendDown_1 : decode cX2_sendDown 1 = .ok (.getfield 121, 3) := by decide +kernel
theorem dX2_sendDown_4 : decode cX2_sendDown 4 = .ok (.aload_n 0, 1) := by decide +kernel
theorem dX2_sendDown_5 : decode cX2_sendDown 5 = .ok (.getfield 25, 3) := by decide +kernel
theorem dX2_sendDown_8 : decode cX2_sendDown 8 = .ok (.iconst 1, 1) := by decide +kernel
theorem dX2_sendDown_9 : decode cX2_sendDown 9 = .ok (.isub, 1) := by decide +kernel
theorem dX2_sendDown_10 : decode cX2_sendDown 10 = .ok (.if_icmp .ge 23, 3) := by decide +kernel
theorem dX2_sendDown_13 : decode cX2_sendDown 13 = .ok (.aload_n 1, 1) := by decide +kernel
theorem dX2_sendDown_14 : decode cX2_sendDown 14 = .ok (.dup, 1) := by decide +kernel
theorem dX2_sendDown_15 : decode cX2_sendDown 15 = .ok (.getfield 121, 3) := by decide +kernel
theorem dX2_sendDown_18 : decode cX2_sendDown 18 = .ok (.iconst 1, 1) := by decide +kernel
theorem dX2_sendDown_19 : decode cX2_sendDown 19 = .ok (.iadd, 1) := by decide +kernel
theorem dX2_sendDown_20 : decode cX2_sendDown 20 = .ok (.putfield 121, 3) := by decide +kernel
theorem dX2_sendDown_23 : decode cX2_sendDown 23 = .ok (.aload_n 1, 1) := by decide +kernel
theorem dX2_sendDown_24 : decode cX2_sendDown 24 = .ok (.dup, 1) := by decide +kernel
theorem dX2_sendDown_25 : decode cX2_sendDown 25 = .ok (.getfield 142, 3) := by decide +kernel
theorem dX2_sendDown_28 : decode cX2_sendDown 28 = .ok (.iconst 1, 1) := by decide +kernel
theorem dX2_sendDown_29 : decode cX2_sendDown 29 = .ok (.iadd, 1) := by decide +kernel
theorem dX2_sendDown_30 : decode cX2_sendDown 30 = .ok (.putfield 142, 3) := by decide +kernel
theorem dX2_sendDown_33 : decode cX2_sendDown 33 = .ok (.aload_n 1, 1) := by decide +kernel
theorem dX2_sendDown_34 : decode cX2_sendDown 34 = .ok (.aload_n 0, 1) := by decide +kernel
theorem dX2_sendDown_35 : decode cX2_sendDown 35 = .ok (.getfield 11, 3) := by decide +kernel
theorem dX2_sendDown_38 : decode cX2_sendDown 38 = .ok (.aload_n 1, 1) := by decide +kernel
theorem dX2_sendDown_39 : decode cX2_sendDown 39 = .ok (.getfield 121, 3) := by decide +kernel
theorem dX2_sendDown_42 : decode cX2_sendDown 42 = .ok (.aaload, 1) := by decide +kernel
theorem dX2_sendDown_43 : decode cX2_sendDown 43 = .ok (.getfield 68, 3) := by decide +kernel
theorem dX2_sendDown_46 : decode cX2_sendDown 46 = .ok (.putfield 197, 3) := by decide +kernel
theorem dX2_sendDown_49 : decode cX2_sendDown 49 = .ok (.aload_n 0, 1) := by decide +kernel
theorem dX2_sendDown_50 : decode cX2_sendDown 50 = .ok (.aload_n 1, 1) := by decide +kernel
theorem dX2_sendDown_51 : decode cX2_sendDown 51 = .ok (.invokevirtual 210, 3) := by decide +kernel
theorem dX2_sendDown_54 : decode cX2_sendDown 54 = .ok (.return_, 1) := by decide +kernel
set_option maxRecDepth 20000 in
theorem ggX2_standAtEnd_X0_addLast : GoodIn wsX2_standAtEnd wsX0_addLast := goodIn_r _ [5, 6, 7, 39, 40, 41, 42] (by decide +kernel) (by decide +kernel)
set_option maxRecDepth 20000 in
theorem gX2_standAtEnd_X0_addLast_n249 : GoodIn wsX2_standAtEnd (wsX0_addLast) := ggX2_standAtEnd_X0_addLast
theorem dX2_standAtEnd_0 : decode cX2_standAtEnd 0 = .ok (.aload_n 1, 1) := by decide +kernel
theorem dX2_standAtEnd_1 : decode cX2_standAtEnd 1 = .ok (.iconst 1, 1) := by decide +kernel
theorem dX2_standAtEnd_2 : decode cX2_standAtEnd 2 = .ok (.putfield 118, 3) := by decide +kernel
theorem dX2_standAtEnd_5 : decode cX2_standAtEnd 5 = .ok (.aload_n 0, 1) := by decide +kernel
theorem dX2_standAtEnd_6 : decode cX2_standAtEnd 6 = .ok (.getfield 11, 3) := by decide +kernel
theorem dX2_standAtEnd_9 : decode cX2_standAtEnd 9 = .ok (.aload_n 1, 1) := by decide +kernel
theorem dX2_standAtEnd_10 : decode cX2_standAtEnd 10 = .ok (.getfield 121, 3) := by decide +kernel
theorem dX2_standAtEnd_13 : decode cX2_standAtEnd 13 = .ok (.aaload, 1) := by decide +kernel
theorem dX2_standAtEnd_14 : decode cX2_standAtEnd 14 = .ok (.aload_n 1, 1) := by decide +kernel
theorem dX2_standAtEnd_15 : decode cX2_standAtEnd 15 = .ok (.getfield 150, 3) := by decide +kernel
theorem dX2_standAtEnd_18 : decode cX2_standAtEnd 18 = .ok (.invokevirtual 249, 3) := by decide +kernel
theorem dX2_standAtEnd_21 : decode cX2_standAtEnd 21 = .ok (.return_, 1) := by decide +kernel
theorem dX2_endTask_0 : decode cX2_endTask 0 = .ok (.aload_n 1, 1) := by decide +kernel
theorem dX2_endTask_1 : decode cX2_endTask 1 = .ok (.iconst 4, 1) := by decide +kernel
theorem dX2_endTask_2 : decode cX2_endTask 2 = .ok (.putfield 118, 3) := by decide +kernel
theorem dX2_endTask_5 : decode cX2_endTask 5 = .ok (.aload_n 1, 1) := by decide +kernel
theorem dX2_endTask_6 : decode cX2_endTask 6 = .ok (.iload_n 2, 1) := by decide +kernel
theorem dX2_endTask_7 : decode cX2_endTask 7 = .ok (.putfield 136, 3) := by decide +kernel
theorem dX2_endTask_10 : decode cX2_endTask 10 = .ok (.aload_n 0, 1) := by decide +kernel
theorem dX2_endTask_11 : decode cX2_endTask 11 = .ok (.dup, 1) := by decide +kernel
theorem dX2_endTask_12 : decode cX2_endTask 12 = .ok (.getfield 51, 3) := by decide +kernel
theorem dX2_endTask_15 : decode cX2_endTask 15 = .ok (.iconst 1, 1) := by decide +kernel
theorem dX2_endTask_16 : decode cX2_endTask 16 = .ok (.iadd, 1) := by decide +kernel
theorem dX2_endTask_17 : decode cX2_endTask 17 = .ok (.putfield 51, 3) := by decide +kernel
theorem dX2_endTask_20 : decode cX2_endTask 20 = .ok (.return_, 1) := by decide +kernel
abbrev vwCl : List vw_C := [(RX0, TX0, 4), (RX1, TX1, 19), (RX2, TX2, 12), (RX3, TX3, 24)]
