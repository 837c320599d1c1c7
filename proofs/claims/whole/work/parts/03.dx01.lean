theorem inJ9 : ∀ w ∈ wsJ90, w ∈ lw_tbl := by decide +kernel
theorem inJ0 : ∀ w ∈ wsJ00, w ∈ lw_tbl := by decide +kernel
theorem dX0_init_0 : decode cX0_init 0 = .ok (.aload_n 0, 1) := by decide +kernel
theorem dX0_init_1 : decode cX0_init 1 = .ok (.invokespecial 3, 3) := by decide +kernel
theorem dX0_init_4 : decode cX0_init 4 = .ok (.aload_n 0, 1) := by decide +kernel
theorem dX0_init_5 : decode cX0_init 5 = .ok (.iconst 1, 1) := by decide +kernel
theorem dX0_init_6 : decode cX0_init 6 = .ok (.putfield 9, 3) := by decide +kernel
theorem dX0_init_9 : decode cX0_init 9 = .ok (.aload_n 0, 1) := by decide +kernel
theorem dX0_init_10 : decode cX0_init 10 = .ok (.iconst 1, 1) := by decide +kernel
theorem dX0_init_11 : decode cX0_init 11 = .ok (.putfield 15, 3) := by decide +kernel
theorem dX0_init_14 : decode cX0_init 14 = .ok (.aload_n 0, 1) := by decide +kernel
theorem dX0_init_15 : decode cX0_init 15 = .ok (.bipush 16, 2) := by decide +kernel
theorem dX0_init_17 : decode cX0_init 17 = .ok (.newarray .int, 2) := by decide +kernel
theorem dX0_init_19 : decode cX0_init 19 = .ok (.putfield 18, 3) := by decide +kernel
theorem dX0_init_22 : decode cX0_init 22 = .ok (.aload_n 0, 1) := by decide +kernel
theorem dX0_init_23 : decode cX0_init 23 = .ok (.iconst 0, 1) := by decide +kernel
theorem dX0_init_24 : decode cX0_init 24 = .ok (.putfield 22, 3) := by decide +kernel
theorem dX0_init_27 : decode cX0_init 27 = .ok (.return_, 1) := by decide +kernel
theorem dX0_clear_0 : decode cX0_clear 0 = .ok (.aload_n 0, 1) := by decide +kernel
theorem dX0_clear_1 : decode cX0_clear 1 = .ok (.iconst 0, 1) := by decide +kernel
theorem dX0_clear_2 : decode cX0_clear 2 = .ok (.putfield 22, 3) := by decide +kernel
theorem dX0_clear_5 : decode cX0_clear 5 = .ok (.return_, 1) := by decide +kernel
theorem dX0_at_0 : decode cX0_at 0 = .ok (.iload_n 1, 1) := by decide +kernel
theorem dX0_at_1 : decode cX0_at 1 = .ok (.ifCond .lt 20, 3) := by decide +kernel
theorem dX0_at_4 : decode cX0_at 4 = .ok (.iload_n 1, 1) := by decide +kernel
theorem dX0_at_5 : decode cX0_at 5 = .ok (.aload_n 0, 1) := by decide +kernel
theorem dX0_at_6 : decode cX0_at 6 = .ok (.getfield 22, 3) := by decide +kernel
theorem dX0_at_9 : decode cX0_at 9 = .ok (.if_icmp .ge 12, 3) := by decide +kernel
theorem dX0_at_12 : decode cX0_at 12 = .ok (.aload_n 0, 1) := by decide +kernel
theorem dX0_at_13 : decode cX0_at 13 = .ok (.getfield 18, 3) := by decide +kernel
theorem dX0_at_16 : decode cX0_at 16 = .ok (.iload_n 1, 1) := by decide +kernel
theorem dX0_at_17 : decode cX0_at 17 = .ok (.iaload, 1) := by decide +kernel
theorem dX0_at_18 : decode cX0_at 18 = .ok (.goto 4, 3) := by decide +kernel
theorem dX0_at_21 : decode cX0_at 21 = .ok (.iconst (-1), 1) := by decide +kernel
theorem dX0_at_22 : decode cX0_at 22 = .ok (.ireturn, 1) := by decide +kernel
theorem dX0_addLast_0 : decode cX0_addLast 0 = .ok (.aload_n 0, 1) := by decide +kernel
theorem dX0_addLast_1 : decode cX0_addLast 1 = .ok (.getfield 22, 3) := by decide +kernel
theorem dX0_addLast_4 : decode cX0_addLast 4 = .ok (.bipush 16, 2) := by decide +kernel
theorem dX0_addLast_6 : decode cX0_addLast 6 = .ok (.if_icmp .ge 23, 3) := by decide +kernel
theorem dX0_addLast_9 : decode cX0_addLast 9 = .ok (.aload_n 0, 1) := by decide +kernel
theorem dX0_addLast_10 : decode cX0_addLast 10 = .ok (.getfield 18, 3) := by decide +kernel
theorem dX0_addLast_13 : decode cX0_addLast 13 = .ok (.aload_n 0, 1) := by decide +kernel
theorem dX0_addLast_14 : decode cX0_addLast 14 = .ok (.getfield 22, 3) := by decide +kernel
theorem dX0_addLast_17 : decode cX0_addLast 17 = .ok (.iload_n 1, 1) := by decide +kernel
theorem dX0_addLast_18 : decode cX0_addLast 18 = .ok (.iastore, 1) := by decide +kernel
theorem dX0_addLast_19 : decode cX0_addLast 19 = .ok (.aload_n 0, 1) := by decide +kernel
theorem dX0_addLast_20 : decode cX0_addLast 20 = .ok (.dup, 1) := by decide +kernel
theorem dX0_addLast_21 : decode cX0_addLast 21 = .ok (.getfield 22, 3) := by decide +kernel
theorem dX0_addLast_24 : decode cX0_addLast 24 = .ok (.iconst 1, 1) := by decide +kernel
theorem dX0_addLast_25 : decode cX0_addLast 25 = .ok (.iadd, 1) := by decide +kernel
theorem dX0_addLast_26 : decode cX0_addLast 26 = .ok (.putfield 22, 3) := by decide +kernel
theorem dX0_addLast_29 : decode cX0_addLast 29 = .ok (.return_, 1) := by decide +kernel
theorem dX0_addFirst_0 : decode cX0_addFirst 0 = .ok (.aload_n 0, 1) := by decide +kernel
theorem dX0_addFirst_1 : decode cX0_addFirst 1 = .ok (.getfield 22, 3) := by decide +kernel
theorem dX0_addFirst_4 : decode cX0_addFirst 4 = .ok (.bipush 16, 2) := by decide +kernel
theorem dX0_addFirst_6 : decode cX0_addFirst 6 = .ok (.if_icmp .ge 49, 3) := by decide +kernel
theorem dX0_addFirst_9 : decode cX0_addFirst 9 = .ok (.aload_n 0, 1) := by decide +kernel
theorem dX0_addFirst_10 : decode cX0_addFirst 10 = .ok (.getfield 22, 3) := by decide +kernel
theorem dX0_addFirst_13 : decode cX0_addFirst 13 = .ok (.istore_n 2, 1) := by decide +kernel
theorem dX0_addFirst_14 : decode cX0_addFirst 14 = .ok (.iload_n 2, 1) := by decide +kernel
theorem dX0_addFirst_15 : decode cX0_addFirst 15 = .ok (.ifCond .le 23, 3) := by decide +kernel
theorem dX0_addFirst_18 : decode cX0_addFirst 18 = .ok (.aload_n 0, 1) := by decide +kernel
theorem dX0_addFirst_19 : decode cX0_addFirst 19 = .ok (.getfield 18, 3) := by decide +kernel
theorem dX0_addFirst_22 : decode cX0_addFirst 22 = .ok (.iload_n 2, 1) := by decide +kernel
theorem dX0_addFirst_23 : decode cX0_addFirst 23 = .ok (.aload_n 0, 1) := by decide +kernel
theorem dX0_addFirst_24 : decode cX0_addFirst 24 = .ok (.getfield 18, 3) := by decide +kernel
theorem dX0_addFirst_27 : decode cX0_addFirst 27 = .ok (.iload_n 2, 1) := by decide +kernel
theorem dX0_addFirst_28 : decode cX0_addFirst 28 = .ok (.iconst 1, 1) := by decide +kernel
theorem dX0_addFirst_29 : decode cX0_addFirst 29 = .ok (.isub, 1) := by decide +kernel
theorem dX0_addFirst_30 : decode cX0_addFirst 30 = .ok (.iaload, 1) := by decide +kernel
theorem dX0_addFirst_31 : decode cX0_addFirst 31 = .ok (.iastore, 1) := by decide +kernel
theorem dX0_addFirst_32 : decode cX0_addFirst 32 = .ok (.iinc 2 (-1), 3) := by decide +kernel
theorem dX0_addFirst_35 : decode cX0_addFirst 35 = .ok (.goto (-21), 3) := by decide +kernel
theorem dX0_addFirst_38 : decode cX0_addFirst 38 = .ok (.aload_n 0, 1) := by decide +kernel
theorem dX0_addFirst_39 : decode cX0_addFirst 39 = .ok (.getfield 18, 3) := by decide +kernel
theorem dX0_addFirst_42 : decode cX0_addFirst 42 = .ok (.iconst 0, 1) := by decide +kernel
theorem dX0_addFirst_43 : decode cX0_addFirst 43 = .ok (.iload_n 1, 1) := by decide +kernel
theorem dX0_addFirst_44 : decode cX0_addFirst 44 = .ok (.iastore, 1) := by decide +kernel
theorem dX0_addFirst_45 : decode cX0_addFirst 45 = .ok (.aload_n 0, 1) := by decide +kernel
theorem dX0_addFirst_46 : decode cX0_addFirst 46 = .ok (.dup, 1) := by decide +kernel
theorem dX0_addFirst_47 : decode cX0_addFirst 47 = .ok (.getfield 22, 3) := by decide +kernel
theorem dX0_addFirst_50 : decode cX0_addFirst 50 = .ok (.iconst 1, 1) := by decide +kernel
theorem dX0_addFirst_51 : decode cX0_addFirst 51 = .ok (.iadd, 1) := by decide +kernel
theorem dX0_addFirst_52 : decode cX0_addFirst 52 = .ok (.putfield 22, 3) := by decide +kernel
theorem dX0_addFirst_55 : decode cX0_addFirst 55 = .ok (.return_, 1) := by decide +kernel
theorem dX0_takeFirst_0 : decode cX0_takeFirst 0 = .ok (.aload_n 0, 1) := by decide +kernel
theorem dX0_takeFirst_1 : decode cX0_takeFirst 1 = .ok (.getfield 22, 3) := by decide +kernel
theorem dX0_takeFirst_4 : decode cX0_takeFirst 4 = .ok (.ifCond .ne 5, 3) := by decide +kernel
theorem dX0_takeFirst_7 : decode cX0_takeFirst 7 = .ok (.iconst (-1), 1) := by decide +kernel
theorem dX0_takeFirst_8 : decode cX0_takeFirst 8 = .ok (.ireturn, 1) := by decide +kernel
theorem dX0_takeFirst_9 : decode cX0_takeFirst 9 = .ok (.aload_n 0, 1) := by decide +kernel
theorem dX0_takeFirst_10 : decode cX0_takeFirst 10 = .ok (.getfield 18, 3) := by decide +kernel
theorem dX0_takeFirst_13 : decode cX0_takeFirst 13 = .ok (.iconst 0, 1) := by decide +kernel
theorem dX0_takeFirst_14 : decode cX0_takeFirst 14 = .ok (.iaload, 1) := by decide +kernel
theorem dX0_takeFirst_15 : decode cX0_takeFirst 15 = .ok (.istore_n 1, 1) := by decide +kernel
theorem dX0_takeFirst_16 : decode cX0_takeFirst 16 = .ok (.aload_n 0, 1) := by decide +kernel
theorem dX0_takeFirst_17 : decode cX0_takeFirst 17 = .ok (.dup, 1) := by decide +kernel
theorem dX0_takeFirst_18 : decode cX0_takeFirst 18 = .ok (.getfield 22, 3) := by decide +kernel
theorem dX0_takeFirst_21 : decode cX0_takeFirst 21 = .ok (.iconst 1, 1) := by decide +kernel
theorem dX0_takeFirst_22 : decode cX0_takeFirst 22 = .ok (.isub, 1) := by decide +kernel
theorem dX0_takeFirst_23 : decode cX0_takeFirst 23 = .ok (.putfield 22, 3) := by decide +kernel
theorem dX0_takeFirst_26 : decode cX0_takeFirst 26 = .ok (.iconst 0, 1) := by decide +kernel
theorem dX0_takeFirst_27 : decode cX0_takeFirst 27 = .ok (.istore_n 2, 1) := by decide +kernel
theorem dX0_takeFirst_28 : decode cX0_takeFirst 28 = .ok (.iload_n 2, 1) := by decide +kernel
theorem dX0_takeFirst_29 : decode cX0_takeFirst 29 = .ok (.aload_n 0, 1) := by decide +kernel
theorem dX0_takeFirst_30 : decode cX0_takeFirst 30 = .ok (.getfield 22, 3) := by decide +kernel
theorem dX0_takeFirst_33 : decode cX0_takeFirst 33 = .ok (.if_icmp .ge 23, 3) := by decide +kernel
theorem dX0_takeFirst_36 : decode cX0_takeFirst 36 = .ok (.aload_n 0, 1) := by decide +kernel
theorem dX0_takeFirst_37 : decode cX0_takeFirst 37 = .ok (.getfield 18, 3) := by decide +kernel
theorem dX0_takeFirst_40 : decode cX0_takeFirst 40 = .ok (.iload_n 2, 1) := by decide +kernel
theorem dX0_takeFirst_41 : decode cX0_takeFirst 41 = .ok (.aload_n 0, 1) := by decide +kernel
theorem dX0_takeFirst_42 : decode cX0_takeFirst 42 = .ok (.getfield 18, 3) := by decide +kernel
theorem dX0_takeFirst_45 : decode cX0_takeFirst 45 = .ok (.iload_n 2, 1) := by decide +kernel
theorem dX0_takeFirst_46 : decode cX0_takeFirst 46 = .ok (.iconst 1, 1) := by decide +kernel
theorem dX0_takeFirst_47 : decode cX0_takeFirst 47 = .ok (.iadd, 1) := by decide +kernel
theorem dX0_takeFirst_48 : decode cX0_takeFirst 48 = .ok (.iaload, 1) := by decide +kernel
theorem dX0_takeFirst_49 : decode cX0_takeFirst 49 = .ok (.iastore, 1) := by decide +kernel
theorem dX0_takeFirst_50 : decode cX0_takeFirst 50 = .ok (.iinc 2 1, 3) := by decide +kernel
theorem dX0_takeFirst_53 : decode cX0_takeFirst 53 = .ok (.goto (-25), 3) := by decide +kernel
theorem dX0_takeFirst_56 : decode cX0_takeFirst 56 = .ok (.iload_n 1, 1) := by decide +kernel
theorem dX0_takeFirst_57 : decode cX0_takeFirst 57 = .ok (.ireturn, 1) := by decide +kernel
set_option maxRecDepth 20000 in
theorem ggX0_addAllOf_X0_addLast : GoodIn wsX0_addAllOf wsX0_addLast := goodIn_r _ [7, 1, 2, 8, 9, 10, 11] (by decide +kernel) (by decide +kernel)
set_option maxRecDepth 20000 in
theorem gX0_addAllOf_X0_addLast : GoodIn wsX0_addAllOf (wsV RX0 25 RX0 yX0_addLast wsX0_addLast) := goodIn_app (goodIn_of _ (by decide +kernel)) ggX0_addAllOf_X0_addLast
theorem dX0_addAllOf_0 : decode cX0_addAllOf 0 = .ok (.iconst 0, 1) := by decide +kernel
theorem dX0_addAllOf_1 : decode cX0_addAllOf 1 = .ok (.istore_n 2, 1) := by decide +kernel
theorem dX0_addAllOf_2 : decode cX0_addAllOf 2 = .ok (.iload_n 2, 1) := by decide +kernel
theorem dX0_addAllOf_3 : decode cX0_addAllOf 3 = .ok (.aload_n 1, 1) := by decide +kernel
theorem dX0_addAllOf_4 : decode cX0_addAllOf 4 = .ok (.getfield 22, 3) := by decide +kernel
theorem dX0_addAllOf_7 : decode cX0_addAllOf 7 = .ok (.if_icmp .ge 19, 3) := by decide +kernel
theorem dX0_addAllOf_10 : decode cX0_addAllOf 10 = .ok (.aload_n 0, 1) := by decide +kernel
theorem dX0_addAllOf_11 : decode cX0_addAllOf 11 = .ok (.aload_n 1, 1) := by decide +kernel
theorem dX0_addAllOf_12 : decode cX0_addAllOf 12 = .ok (.getfield 18, 3) := by decide +kernel
theorem dX0_addAllOf_15 : decode cX0_addAllOf 15 = .ok (.iload_n 2, 1) := by decide +kernel
theorem dX0_addAllOf_16 : decode cX0_addAllOf 16 = .ok (.iaload, 1) := by decide +kernel
theorem dX0_addAllOf_17 : decode cX0_addAllOf 17 = .ok (.invokevirtual 25, 3) := by decide +kernel
theorem dX0_addAllOf_20 : decode cX0_addAllOf 20 = .ok (.iinc 2 1, 3) := by decide +kernel
theorem dX0_addAllOf_23 : decode cX0_addAllOf 23 = .ok (.goto (-21), 3) := by decide +kernel
theorem dX0_addAllOf_26 : decode cX0_addAllOf 26 = .ok (.return_, 1) := by decide +kernel
theorem dX1_init_0 : decode cX1_init 0 = .ok (.aload_n 0, 1) := by decide +kernel
theorem dX1_init_1 : decode cX1_init 1 = .ok (.invokespecial 3, 3) := by decide +kernel
theorem dX1_init_4 : decode cX1_init 4 = .ok (.aload_n 0, 1) := by decide +kernel
theorem dX1_init_5 : decode cX1_init 5 = .ok (.iconst 0, 1) := by decide +kernel
theorem dX1_init_6 : decode cX1_init 6 = .ok (.putfield 9, 3) := by decide +kernel
theorem dX1_init_9 : decode cX1_init 9 = .ok (.aload_n 0, 1) := by decide +kernel
theorem dX1_init_10 : decode cX1_init 10 = .ok (.bipush 12, 2) := by decide +kernel
theorem dX1_init_12 : decode cX1_init 12 = .ok (.newarray .int, 2) := by decide +kernel
theorem dX1_init_14 : decode cX1_init 14 = .ok (.putfield 15, 3) := by decide +kernel
theorem dX1_init_17 : decode cX1_init 17 = .ok (.aload_n 0, 1) := by decide +kernel
theorem dX1_init_18 : decode cX1_init 18 = .ok (.iconst 0, 1) := by decide +kernel
theorem dX1_init_19 : decode cX1_init 19 = .ok (.putfield 19, 3) := by decide +kernel
theorem dX1_init_22 : decode cX1_init 22 = .ok (.aload_n 0, 1) := by decide +kernel
theorem dX1_init_23 : decode cX1_init 23 = .ok (.iconst 0, 1) := by decide +kernel
theorem dX1_init_24 : decode cX1_init 24 = .ok (.putfield 22, 3) := by decide +kernel
theorem dX1_init_27 : decode cX1_init 27 = .ok (.aload_n 0, 1) := by decide +kernel
theorem dX1_init_28 : decode cX1_init 28 = .ok (.iconst 0, 1) := by decide +kernel
theorem dX1_init_29 : decode cX1_init 29 = .ok (.putfield 25, 3) := by decide +kernel
theorem dX1_init_32 : decode cX1_init 32 = .ok (.aload_n 0, 1) := by decide +kernel
theorem dX1_init_33 : decode cX1_init 33 = .ok (.iconst 0, 1) := by decide +kernel
theorem dX1_init_34 : decode cX1_init 34 = .ok (.putfield 28, 3) := by decide +kernel
theorem dX1_init_37 : decode cX1_init 37 = .ok (.aload_n 0, 1) := by decide +kernel
theorem dX1_init_38 : decode cX1_init 38 = .ok (.iconst 0, 1) := by decide +kernel
theorem dX1_init_39 : decode cX1_init 39 = .ok (.putfield 31, 3) := by decide +kernel
theorem dX1_init_42 : decode cX1_init 42 = .ok (.aload_n 0, 1) := by decide +kernel
theorem dX1_init_43 : decode cX1_init 43 = .ok (.iconst 0, 1) := by decide +kernel
theorem dX1_init_44 : decode cX1_init 44 = .ok (.putfield 34, 3) := by decide +kernel
theorem dX1_init_47 : decode cX1_init 47 = .ok (.aload_n 0, 1) := by decide +kernel
theorem dX1_init_48 : decode cX1_init 48 = .ok (.iconst 0, 1) := by decide +kernel
theorem dX1_init_49 : decode cX1_init 49 = .ok (.putfield 37, 3) := by decide +kernel
theorem dX1_init_52 : decode cX1_init 52 = .ok (.aload_n 0, 1) := by decide +kernel
theorem dX1_init_53 : decode cX1_init 53 = .ok (.iconst 0, 1) := by decide +kernel
theorem dX1_init_54 : decode cX1_init 54 = .ok (.putfield 40, 3) := by decide +kernel
theorem dX1_init_57 : decode cX1_init 57 = .ok (.aload_n 0, 1) := by decide +kernel
theorem dX1_init_58 : decode cX1_init 58 = .ok (.iconst 0, 1) := by decide +kernel
theorem dX1_init_59 : decode cX1_init 59 = .ok (.putfield 44, 3) := by decide +kernel
theorem dX1_init_62 : decode cX1_init 62 = .ok (.aload_n 0, 1) := by decide +kernel
theorem dX1_init_63 : decode cX1_init 63 = .ok (.iconst 0, 1) := by decide +kernel
theorem dX1_init_64 : decode cX1_init 64 = .ok (.putfield 47, 3) := by decide +kernel
theorem dX1_init_67 : decode cX1_init 67 = .ok (.aload_n 0, 1) := by decide +kernel
theorem dX1_init_68 : decode cX1_init 68 = .ok (.iconst 0, 1) := by decide +kernel
theorem dX1_init_69 : decode cX1_init 69 = .ok (.putfield 50, 3) := by decide +kernel
theorem dX1_init_72 : decode cX1_init 72 = .ok (.aload_n 0, 1) := by decide +kernel
theorem dX1_init_73 : decode cX1_init 73 = .ok (.iconst (-1), 1) := by decide +kernel
theorem dX1_init_74 : decode cX1_init 74 = .ok (.putfield 53, 3) := by decide +kernel
theorem dX1_init_77 : decode cX1_init 77 = .ok (.aload_n 0, 1) := by decide +kernel
theorem dX1_init_78 : decode cX1_init 78 = .ok (.iconst (-1), 1) := by decide +kernel
theorem dX1_init_79 : decode cX1_init 79 = .ok (.putfield 56, 3) := by decide +kernel
theorem dX1_init_82 : decode cX1_init 82 = .ok (.aload_n 0, 1) := by decide +kernel
theorem dX1_init_83 : decode cX1_init 83 = .ok (.iconst 0, 1) := by decide +kernel
theorem dX1_init_84 : decode cX1_init 84 = .ok (.putfield 59, 3) := by decide +kernel
theorem dX1_init_87 : decode cX1_init 87 = .ok (.aload_n 0, 1) := by decide +kernel
theorem dX1_init_88 : decode cX1_init 88 = .ok (.iconst 0, 1) := by decide +kernel
theorem dX1_init_89 : decode cX1_init 89 = .ok (.putfield 62, 3) := by decide +kernel
theorem dX1_init_92 : decode cX1_init 92 = .ok (.aload_n 0, 1) := by decide +kernel
theorem dX1_init_93 : decode cX1_init 93 = .ok (.iconst 0, 1) := by decide +kernel
theorem dX1_init_94 : decode cX1_init 94 = .ok (.putfield 65, 3) := by decide +kernel
theorem dX1_init_97 : decode cX1_init 97 = .ok (.aload_n 0, 1) := by decide +kernel
theorem dX1_init_98 : decode cX1_init 98 = .ok (.iload_n 1, 1) := by decide +kernel
theorem dX1_init_99 : decode cX1_init 99 = .ok (.putfield 68, 3) := by decide +kernel
theorem dX1_init_102 : decode cX1_init 102 = .ok (.return_, 1) := by decide +kernel
theorem dX1_startOver_0 : decode cX1_startOver 0 = .ok (.aload_n 0, 1) := by decide +kernel
theorem dX1_startOver_1 : decode cX1_startOver 1 = .ok (.iconst 0, 1) := by decide +kernel
theorem dX1_startOver_2 : decode cX1_startOver 2 = .ok (.putfield 22, 3) := by decide +kernel
theorem dX1_startOver_5 : decode cX1_startOver 5 = .ok (.aload_n 0, 1) := by decide +kernel
theorem dX1_startOver_6 : decode cX1_startOver 6 = .ok (.iconst 0, 1) := by decide +kernel
theorem dX1_startOver_7 : decode cX1_startOver 7 = .ok (.putfield 25, 3) := by decide +kernel
theorem dX1_startOver_10 : decode cX1_startOver 10 = .ok (.aload_n 0, 1) := by decide +kernel
theorem dX1_startOver_11 : decode cX1_startOver 11 = .ok (.iconst 0, 1) := by decide +kernel
theorem dX1_startOver_12 : decode cX1_startOver 12 = .ok (.putfield 28, 3) := by decide +kernel
theorem dX1_startOver_15 : decode cX1_startOver 15 = .ok (.aload_n 0, 1) := by decide +kernel
theorem dX1_startOver_16 : decode cX1_startOver 16 = .ok (.iconst 0, 1) := by decide +kernel
theorem dX1_startOver_17 : decode cX1_startOver 17 = .ok (.putfield 31, 3) := by decide +kernel
theorem dX1_startOver_20 : decode cX1_startOver 20 = .ok (.aload_n 0, 1) := by decide +kernel
theorem dX1_startOver_21 : decode cX1_startOver 21 = .ok (.iconst 0, 1) := by decide +kernel
theorem dX1_startOver_22 : decode cX1_startOver 22 = .ok (.putfield 34, 3) := by decide +kernel
theorem dX1_startOver_25 : decode cX1_startOver 25 = .ok (.aload_n 0, 1) := by decide +kernel
theorem dX1_startOver_26 : decode cX1_startOver 26 = .ok (.iconst 0, 1) := by decide +kernel
theorem dX1_startOver_27 : decode cX1_startOver 27 = .ok (.putfield 37, 3) := by decide +kernel
theorem dX1_startOver_30 : decode cX1_startOver 30 = .ok (.aload_n 0, 1) := by decide +kernel
theorem dX1_startOver_31 : decode cX1_startOver 31 = .ok (.iconst 0, 1) := by decide +kernel
theorem dX1_startOver_32 : decode cX1_startOver 32 = .ok (.putfield 40, 3) := by decide +kernel
theorem dX1_startOver_35 : decode cX1_startOver 35 = .ok (.aload_n 0, 1) := by decide +kernel
theorem dX1_startOver_36 : decode cX1_startOver 36 = .ok (.iconst 0, 1) := by decide +kernel
theorem dX1_startOver_37 : decode cX1_startOver 37 = .ok (.putfield 44, 3) := by decide +kernel
theorem dX1_startOver_40 : decode cX1_startOver 40 = .ok (.aload_n 0, 1) := by decide +kernel
theorem dX1_startOver_41 : decode cX1_startOver 41 = .ok (.iconst 0, 1) := by decide +kernel
theorem dX1_startOver_42 : decode cX1_startOver 42 = .ok (.putfield 47, 3) := by decide +kernel
theorem dX1_startOver_45 : decode cX1_startOver 45 = .ok (.aload_n 0, 1) := by decide +kernel
theorem dX1_startOver_46 : decode cX1_startOver 46 = .ok (.iconst 0, 1) := by decide +kernel
theorem dX1_startOver_47 : decode cX1_startOver 47 = .ok (.putfield 50, 3) := by decide +kernel
theorem dX1_startOver_50 : decode cX1_startOver 50 = .ok (.aload_n 0, 1) := by decide +kernel
theorem dX1_startOver_51 : decode cX1_startOver 51 = .ok (.iconst (-1), 1) := by decide +kernel
theorem dX1_startOver_52 : decode cX1_startOver 52 = .ok (.putfield 53, 3) := by decide +kernel
theorem dX1_startOver_55 : decode cX1_startOver 55 = .ok (.aload_n 0, 1) := by decide +kernel
theorem dX1_startOver_56 : decode cX1_startOver 56 = .ok (.iconst (-1), 1) := by decide +kernel
theorem dX1_startOver_57 : decode cX1_startOver 57 = .ok (.putfield 56, 3) := by decide +kernel
theorem dX1_startOver_60 : decode cX1_startOver 60 = .ok (.aload_n 0, 1) := by decide +kernel
theorem dX1_startOver_61 : decode cX1_startOver 61 = .ok (.iconst 0, 1) := by decide +kernel
theorem dX1_startOver_62 : decode cX1_startOver 62 = .ok (.putfield 59, 3) := by decide +kernel
theorem dX1_startOver_65 : decode cX1_startOver 65 = .ok (.aload_n 0, 1) := by decide +kernel
theorem dX1_startOver_66 : decode cX1_startOver 66 = .ok (.iconst 0, 1) := by decide +kernel
theorem dX1_startOver_67 : decode cX1_startOver 67 = .ok (.putfield 62, 3) := by decide +kernel
theorem dX1_startOver_70 : decode cX1_startOver 70 = .ok (.aload_n 0, 1) := by decide +kernel
theorem dX1_startOver_71 : decode cX1_startOver 71 = .ok (.iconst 0, 1) := by decide +kernel
theorem dX1_startOver_72 : decode cX1_startOver 72 = .ok (.putfield 65, 3) := by decide +kernel
theorem dX1_startOver_75 : decode cX1_startOver 75 = .ok (.return_, 1) := by decide +kernel
theorem dX1_tellArrival_0 : decode cX1_tellArrival 0 = .ok (.aload_n 0, 1) := by decide +kernel
theorem dX1_tellArrival_1 : decode cX1_tellArrival 1 = .ok (.iload_n 1, 1) := by decide +kernel
theorem dX1_tellArrival_2 : decode cX1_tellArrival 2 = .ok (.putfield 9, 3) := by decide +kernel
theorem dX1_tellArrival_5 : decode cX1_tellArrival 5 = .ok (.aload_n 0, 1) := by decide +kernel
theorem dX1_tellArrival_6 : decode cX1_tellArrival 6 = .ok (.iconst 0, 1) := by decide +kernel
theorem dX1_tellArrival_7 : decode cX1_tellArrival 7 = .ok (.putfield 19, 3) := by decide +kernel
theorem dX1_tellArrival_10 : decode cX1_tellArrival 10 = .ok (.return_, 1) := by decide +kernel
theorem dX1_tellBurst_0 : decode cX1_tellBurst 0 = .ok (.aload_n 0, 1) := by decide +kernel
theorem dX1_tellBurst_1 : decode cX1_tellBurst 1 = .ok (.getfield 19, 3) := by decide +kernel
theorem dX1_tellBurst_4 : decode cX1_tellBurst 4 = .ok (.bipush 12, 2) := by decide +kernel
theorem dX1_tellBurst_6 : decode cX1_tellBurst 6 = .ok (.if_icmp .lt 5, 3) := by decide +kernel
theorem dX1_tellBurst_9 : decode cX1_tellBurst 9 = .ok (.iconst (-1), 1) := by decide +kernel
theorem dX1_tellBurst_10 : decode cX1_tellBurst 10 = .ok (.ireturn, 1) := by decide +kernel
theorem dX1_tellBurst_11 : decode cX1_tellBurst 11 = .ok (.aload_n 0, 1) := by decide +kernel
theorem dX1_tellBurst_12 : decode cX1_tellBurst 12 = .ok (.getfield 15, 3) := by decide +kernel
theorem dX1_tellBurst_15 : decode cX1_tellBurst 15 = .ok (.aload_n 0, 1) := by decide +kernel
theorem dX1_tellBurst_16 : decode cX1_tellBurst 16 = .ok (.getfield 19, 3) := by decide +kernel
theorem dX1_tellBurst_19 : decode cX1_tellBurst 19 = .ok (.iload_n 1, 1) := by decide +kernel
theorem dX1_tellBurst_20 : decode cX1_tellBurst 20 = .ok (.iastore, 1) := by decide +kernel
theorem dX1_tellBurst_21 : decode cX1_tellBurst 21 = .ok (.aload_n 0, 1) := by decide +kernel
theorem dX1_tellBurst_22 : decode cX1_tellBurst 22 = .ok (.dup, 1) := by decide +kernel
theorem dX1_tellBurst_23 : decode cX1_tellBurst 23 = .ok (.getfield 19, 3) := by decide +kernel
theorem dX1_tellBurst_26 : decode cX1_tellBurst 26 = .ok (.iconst 1, 1) := by decide +kernel
theorem dX1_tellBurst_27 : decode cX1_tellBurst 27 = .ok (.iadd, 1) := by decide +kernel
theorem dX1_tellBurst_28 : decode cX1_tellBurst 28 = .ok (.putfield 19, 3) := by decide +kernel
theorem dX1_tellBurst_31 : decode cX1_tellBurst 31 = .ok (.aload_n 0, 1) := by decide +kernel
theorem dX1_tellBurst_32 : decode cX1_tellBurst 32 = .ok (.getfield 19, 3) := by decide +kernel
theorem dX1_tellBurst_35 : decode cX1_tellBurst 35 = .ok (.ireturn, 1) := by decide +kernel
theorem dX1_beginBurst_0 : decode cX1_beginBurst 0 = .ok (.aload_n 0, 1) := by decide +kernel
theorem dX1_beginBurst_1 : decode cX1_beginBurst 1 = .ok (.getfield 28, 3) := by decide +kernel
theorem dX1_beginBurst_4 : decode cX1_beginBurst 4 = .ok (.aload_n 0, 1) := by decide +kernel
theorem dX1_beginBurst_5 : decode cX1_beginBurst 5 = .ok (.getfield 19, 3) := by decide +kernel
theorem dX1_beginBurst_8 : decode cX1_beginBurst 8 = .ok (.if_icmp .lt 5, 3) := by decide +kernel
theorem dX1_beginBurst_11 : decode cX1_beginBurst 11 = .ok (.iconst 0, 1) := by decide +kernel
theorem dX1_beginBurst_12 : decode cX1_beginBurst 12 = .ok (.ireturn, 1) := by decide +kernel
theorem dX1_beginBurst_13 : decode cX1_beginBurst 13 = .ok (.aload_n 0, 1) := by decide +kernel
theorem dX1_beginBurst_14 : decode cX1_beginBurst 14 = .ok (.aload_n 0, 1) := by decide +kernel
theorem dX1_beginBurst_15 : decode cX1_beginBurst 15 = .ok (.getfield 15, 3) := by decide +kernel
theorem dX1_beginBurst_18 : decode cX1_beginBurst 18 = .ok (.aload_n 0, 1) := by decide +kernel
theorem dX1_beginBurst_19 : decode cX1_beginBurst 19 = .ok (.getfield 28, 3) := by decide +kernel
theorem dX1_beginBurst_22 : decode cX1_beginBurst 22 = .ok (.iaload, 1) := by decide +kernel
theorem dX1_beginBurst_23 : decode cX1_beginBurst 23 = .ok (.putfield 31, 3) := by decide +kernel
theorem dX1_beginBurst_26 : decode cX1_beginBurst 26 = .ok (.aload_n 0, 1) := by decide +kernel
theorem dX1_beginBurst_27 : decode cX1_beginBurst 27 = .ok (.dup, 1) := by decide +kernel
theorem dX1_beginBurst_28 : decode cX1_beginBurst 28 = .ok (.getfield 28, 3) := by decide +kernel
theorem dX1_beginBurst_31 : decode cX1_beginBurst 31 = .ok (.iconst 1, 1) := by decide +kernel
theorem dX1_beginBurst_32 : decode cX1_beginBurst 32 = .ok (.iadd, 1) := by decide +kernel
theorem dX1_beginBurst_33 : decode cX1_beginBurst 33 = .ok (.putfield 28, 3) := by decide +kernel
theorem dX1_beginBurst_36 : decode cX1_beginBurst 36 = .ok (.iconst 1, 1) := by decide +kernel
theorem dX1_beginBurst_37 : decode cX1_beginBurst 37 = .ok (.ireturn, 1) := by decide +kernel
theorem dX1_beginRunning_0 : decode cX1_beginRunning 0 = .ok (.aload_n 0, 1) := by decide +kernel
theorem dX1_beginRunning_1 : decode cX1_beginRunning 1 = .ok (.iconst 2, 1) := by decide +kernel
theorem dX1_beginRunning_2 : decode cX1_beginRunning 2 = .ok (.putfield 22, 3) := by decide +kernel
theorem dX1_beginRunning_5 : decode cX1_beginRunning 5 = .ok (.aload_n 0, 1) := by decide +kernel
theorem dX1_beginRunning_6 : decode cX1_beginRunning 6 = .ok (.getfield 40, 3) := by decide +kernel
theorem dX1_beginRunning_9 : decode cX1_beginRunning 9 = .ok (.ifCond .ne 8, 3) := by decide +kernel
theorem dX1_beginRunning_12 : decode cX1_beginRunning 12 = .ok (.aload_n 0, 1) := by decide +kernel
theorem dX1_beginRunning_13 : decode cX1_beginRunning 13 = .ok (.iload_n 2, 1) := by decide +kernel
theorem dX1_beginRunning_14 : decode cX1_beginRunning 14 = .ok (.putfield 34, 3) := by decide +kernel
theorem dX1_beginRunning_17 : decode cX1_beginRunning 17 = .ok (.aload_n 0, 1) := by decide +kernel
theorem dX1_beginRunning_18 : decode cX1_beginRunning 18 = .ok (.iconst 0, 1) := by decide +kernel
theorem dX1_beginRunning_19 : decode cX1_beginRunning 19 = .ok (.putfield 40, 3) := by decide +kernel
theorem dX1_beginRunning_22 : decode cX1_beginRunning 22 = .ok (.aload_n 0, 1) := by decide +kernel
theorem dX1_beginRunning_23 : decode cX1_beginRunning 23 = .ok (.dup, 1) := by decide +kernel
theorem dX1_beginRunning_24 : decode cX1_beginRunning 24 = .ok (.getfield 59, 3) := by decide +kernel
theorem dX1_beginRunning_27 : decode cX1_beginRunning 27 = .ok (.iconst 1, 1) := by decide +kernel
theorem dX1_beginRunning_28 : decode cX1_beginRunning 28 = .ok (.iadd, 1) := by decide +kernel
theorem dX1_beginRunning_29 : decode cX1_beginRunning 29 = .ok (.putfield 59, 3) := by decide +kernel
theorem dX1_beginRunning_32 : decode cX1_beginRunning 32 = .ok (.aload_n 0, 1) := by decide +kernel
theorem dX1_beginRunning_33 : decode cX1_beginRunning 33 = .ok (.getfield 53, 3) := by decide +kernel
theorem dX1_beginRunning_36 : decode cX1_beginRunning 36 = .ok (.iconst (-1), 1) := by decide +kernel
theorem dX1_beginRunning_37 : decode cX1_beginRunning 37 = .ok (.if_icmp .ne 8, 3) := by decide +kernel
theorem dX1_beginRunning_40 : decode cX1_beginRunning 40 = .ok (.aload_n 0, 1) := by decide +kernel
theorem dX1_beginRunning_41 : decode cX1_beginRunning 41 = .ok (.iload_n 1, 1) := by decide +kernel
theorem dX1_beginRunning_42 : decode cX1_beginRunning 42 = .ok (.putfield 53, 3) := by decide +kernel
theorem dX1_beginRunning_45 : decode cX1_beginRunning 45 = .ok (.return_, 1) := by decide +kernel
theorem dX1_comeUp_0 : decode cX1_comeUp 0 = .ok (.aload_n 0, 1) := by decide +kernel
theorem dX1_comeUp_1 : decode cX1_comeUp 1 = .ok (.iconst 0, 1) := by decide +kernel
theorem dX1_comeUp_2 : decode cX1_comeUp 2 = .ok (.putfield 25, 3) := by decide +kernel
theorem dX1_comeUp_5 : decode cX1_comeUp 5 = .ok (.aload_n 0, 1) := by decide +kernel
theorem dX1_comeUp_6 : decode cX1_comeUp 6 = .ok (.iload_n 2, 1) := by decide +kernel
theorem dX1_comeUp_7 : decode cX1_comeUp 7 = .ok (.putfield 37, 3) := by decide +kernel
theorem dX1_comeUp_10 : decode cX1_comeUp 10 = .ok (.aload_n 0, 1) := by decide +kernel
theorem dX1_comeUp_11 : decode cX1_comeUp 11 = .ok (.aload_n 0, 1) := by decide +kernel
theorem dX1_comeUp_12 : decode cX1_comeUp 12 = .ok (.getfield 22, 3) := by decide +kernel
theorem dX1_comeUp_15 : decode cX1_comeUp 15 = .ok (.iconst 2, 1) := by decide +kernel
theorem dX1_comeUp_16 : decode cX1_comeUp 16 = .ok (.if_icmp .ne 7, 3) := by decide +kernel
theorem dX1_comeUp_19 : decode cX1_comeUp 19 = .ok (.iload_n 1, 1) := by decide +kernel
theorem dX1_comeUp_20 : decode cX1_comeUp 20 = .ok (.goto 11, 3) := by decide +kernel
theorem dX1_comeUp_23 : decode cX1_comeUp 23 = .ok (.aload_n 0, 1) := by decide +kernel
theorem dX1_comeUp_24 : decode cX1_comeUp 24 = .ok (.getfield 34, 3) := by decide +kernel
theorem dX1_comeUp_27 : decode cX1_comeUp 27 = .ok (.iload_n 1, 1) := by decide +kernel
theorem dX1_comeUp_28 : decode cX1_comeUp 28 = .ok (.invokestatic 71, 3) := by decide +kernel
theorem dX1_comeUp_31 : decode cX1_comeUp 31 = .ok (.putfield 34, 3) := by decide +kernel
theorem dX1_comeUp_34 : decode cX1_comeUp 34 = .ok (.return_, 1) := by decide +kernel
