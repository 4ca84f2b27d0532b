theorem dX0_init_0 : decode cX0_init 0 = .ok (.aload_n 0, 1) := by decide +kernel
theorem dX0_init_1 : decode cX0_init 1 = .ok (.invokespecial 3, 3) := by decide +kernel
theorem dX0_init_4 : decode cX0_init 4 = .ok (.aload_n 0, 1) := by decide +kernel
theorem dX0_init_5 : decode cX0_init 5 = .ok (.bipush 33, 2) := by decide +kernel
theorem dX0_init_7 : decode cX0_init 7 = .ok (.newarray .int, 2) := by decide +kernel
theorem dX0_init_9 : decode cX0_init 9 = .ok (.putfield 11, 3) := by decide +kernel
theorem dX0_init_12 : decode cX0_init 12 = .ok (.aload_n 0, 1) := by decide +kernel
theorem dX0_init_13 : decode cX0_init 13 = .ok (.bipush 16, 2) := by decide +kernel
theorem dX0_init_15 : decode cX0_init 15 = .ok (.newarray .int, 2) := by decide +kernel
theorem dX0_init_17 : decode cX0_init 17 = .ok (.putfield 15, 3) := by decide +kernel
theorem dX0_init_20 : decode cX0_init 20 = .ok (.aload_n 0, 1) := by decide +kernel
theorem dX0_init_21 : decode cX0_init 21 = .ok (.bipush 16, 2) := by decide +kernel
theorem dX0_init_23 : decode cX0_init 23 = .ok (.newarray .int, 2) := by decide +kernel
theorem dX0_init_25 : decode cX0_init 25 = .ok (.putfield 18, 3) := by decide +kernel
theorem dX0_init_28 : decode cX0_init 28 = .ok (.aload_n 0, 1) := by decide +kernel
theorem dX0_init_29 : decode cX0_init 29 = .ok (.sipush 561, 3) := by decide +kernel
theorem dX0_init_32 : decode cX0_init 32 = .ok (.newarray .int, 2) := by decide +kernel
theorem dX0_init_34 : decode cX0_init 34 = .ok (.putfield 21, 3) := by decide +kernel
theorem dX0_init_37 : decode cX0_init 37 = .ok (.aload_n 0, 1) := by decide +kernel
theorem dX0_init_38 : decode cX0_init 38 = .ok (.bipush 17, 2) := by decide +kernel
theorem dX0_init_40 : decode cX0_init 40 = .ok (.newarray .int, 2) := by decide +kernel
theorem dX0_init_42 : decode cX0_init 42 = .ok (.putfield 24, 3) := by decide +kernel
theorem dX0_init_45 : decode cX0_init 45 = .ok (.aload_n 0, 1) := by decide +kernel
theorem dX0_init_46 : decode cX0_init 46 = .ok (.aload_n 1, 1) := by decide +kernel
theorem dX0_init_47 : decode cX0_init 47 = .ok (.putfield 27, 3) := by decide +kernel
theorem dX0_init_50 : decode cX0_init 50 = .ok (.return_, 1) := by decide +kernel
set_option maxRecDepth 20000 in
theorem ggX0_canLay_X0_leastSum : GoodIn wsX0_canLay wsX0_leastSum := goodIn_r _ [5, 6, 7, 8, 9, 10, 11, 12, 13, 4, 14, 15, 16, 17, 18, 19, 20, 21, 22, 23, 24, 25, 26, 27, 28, 29, 30, 31, 32, 33, 34, 35, 36, 37, 38, 39, 40, 41, 42, 43, 44, 45, 46, 47, 48, 49, 50, 51, 52, 53, 54, 55, 56, 57, 58, 59, 60, 61, 62, 63, 64, 65, 66, 67, 68, 69, 70, 71, 72, 73, 74, 75, 76, 77, 78, 79, 80, 81] (by decide +kernel) (by decide +kernel)
set_option maxRecDepth 20000 in
theorem gX0_canLay_X0_leastSum : GoodIn wsX0_canLay (wsV RX0 31 RX0 yX0_leastSum wsX0_leastSum) := goodIn_app (goodIn_of _ (by decide +kernel)) ggX0_canLay_X0_leastSum
theorem dX0_canLay_0 : decode cX0_canLay 0 = .ok (.aload_n 0, 1) := by decide +kernel
theorem dX0_canLay_1 : decode cX0_canLay 1 = .ok (.iload_n 1, 1) := by decide +kernel
theorem dX0_canLay_2 : decode cX0_canLay 2 = .ok (.iload_n 2, 1) := by decide +kernel
theorem dX0_canLay_3 : decode cX0_canLay 3 = .ok (.invokevirtual 31, 3) := by decide +kernel
theorem dX0_canLay_6 : decode cX0_canLay 6 = .ok (.iconst (-1), 1) := by decide +kernel
theorem dX0_canLay_7 : decode cX0_canLay 7 = .ok (.if_icmp .eq 7, 3) := by decide +kernel
theorem dX0_canLay_10 : decode cX0_canLay 10 = .ok (.iconst 1, 1) := by decide +kernel
theorem dX0_canLay_11 : decode cX0_canLay 11 = .ok (.goto 4, 3) := by decide +kernel
theorem dX0_canLay_14 : decode cX0_canLay 14 = .ok (.iconst 0, 1) := by decide +kernel
theorem dX0_canLay_15 : decode cX0_canLay 15 = .ok (.ireturn, 1) := by decide +kernel
set_option maxRecDepth 20000 in
theorem ggX0_leastSum_X0_measure : GoodIn wsX0_leastSum wsX0_measure := goodIn_r _ [10, 4, 11, 3, 1, 2, 12, 13, 14, 15, 16, 17, 18, 19, 20, 21, 22, 23, 24, 25, 26, 27, 28, 29, 30, 31, 32, 33, 34, 64, 65, 66, 67, 68, 69, 70, 71, 72, 73, 74, 75, 76, 77] (by decide +kernel) (by decide +kernel)
set_option maxRecDepth 20000 in
theorem gX0_leastSum_X0_measure : GoodIn wsX0_leastSum (wsV RX0 47 RX0 yX0_measure wsX0_measure) := goodIn_app (goodIn_of _ (by decide +kernel)) ggX0_leastSum_X0_measure
set_option maxRecDepth 20000 in
theorem ggX0_leastSum_X0_fillSums : GoodIn wsX0_leastSum wsX0_fillSums := goodIn_r _ [38, 5, 39, 40, 41, 9, 42, 4, 1, 2, 43, 44, 45, 46, 47, 48, 49, 50, 51, 52, 53, 54, 11, 13, 12, 55, 56, 57, 58, 59, 60, 3, 61, 62, 63, 64, 65, 66, 67, 68, 69, 70, 71, 72, 73, 74, 75, 76, 77] (by decide +kernel) (by decide +kernel)
set_option maxRecDepth 20000 in
theorem gX0_leastSum_X0_fillSums : GoodIn wsX0_leastSum (wsV RX0 50 RX0 yX0_fillSums wsX0_fillSums) := goodIn_app (goodIn_of _ (by decide +kernel)) ggX0_leastSum_X0_fillSums
theorem dX0_leastSum_0 : decode cX0_leastSum 0 = .ok (.iload_n 2, 1) := by decide +kernel
theorem dX0_leastSum_1 : decode cX0_leastSum 1 = .ok (.aload_n 0, 1) := by decide +kernel
theorem dX0_leastSum_2 : decode cX0_leastSum 2 = .ok (.getfield 27, 3) := by decide +kernel
theorem dX0_leastSum_5 : decode cX0_leastSum 5 = .ok (.getfield 35, 3) := by decide +kernel
theorem dX0_leastSum_8 : decode cX0_leastSum 8 = .ok (.if_icmp .lt 9, 3) := by decide +kernel
theorem dX0_leastSum_11 : decode cX0_leastSum 11 = .ok (.iload_n 2, 1) := by decide +kernel
theorem dX0_leastSum_12 : decode cX0_leastSum 12 = .ok (.bipush 32, 2) := by decide +kernel
theorem dX0_leastSum_14 : decode cX0_leastSum 14 = .ok (.if_icmp .le 5, 3) := by decide +kernel
theorem dX0_leastSum_17 : decode cX0_leastSum 17 = .ok (.iconst (-1), 1) := by decide +kernel
theorem dX0_leastSum_18 : decode cX0_leastSum 18 = .ok (.ireturn, 1) := by decide +kernel
theorem dX0_leastSum_19 : decode cX0_leastSum 19 = .ok (.aload_n 0, 1) := by decide +kernel
theorem dX0_leastSum_20 : decode cX0_leastSum 20 = .ok (.iload_n 1, 1) := by decide +kernel
theorem dX0_leastSum_21 : decode cX0_leastSum 21 = .ok (.putfield 41, 3) := by decide +kernel
theorem dX0_leastSum_24 : decode cX0_leastSum 24 = .ok (.aload_n 0, 1) := by decide +kernel
theorem dX0_leastSum_25 : decode cX0_leastSum 25 = .ok (.iload_n 2, 1) := by decide +kernel
theorem dX0_leastSum_26 : decode cX0_leastSum 26 = .ok (.putfield 44, 3) := by decide +kernel
theorem dX0_leastSum_29 : decode cX0_leastSum 29 = .ok (.aload_n 0, 1) := by decide +kernel
theorem dX0_leastSum_30 : decode cX0_leastSum 30 = .ok (.invokevirtual 47, 3) := by decide +kernel
theorem dX0_leastSum_33 : decode cX0_leastSum 33 = .ok (.aload_n 0, 1) := by decide +kernel
theorem dX0_leastSum_34 : decode cX0_leastSum 34 = .ok (.getfield 21, 3) := by decide +kernel
theorem dX0_leastSum_37 : decode cX0_leastSum 37 = .ok (.aload_n 0, 1) := by decide +kernel
theorem dX0_leastSum_38 : decode cX0_leastSum 38 = .ok (.getfield 27, 3) := by decide +kernel
theorem dX0_leastSum_41 : decode cX0_leastSum 41 = .ok (.getfield 35, 3) := by decide +kernel
theorem dX0_leastSum_44 : decode cX0_leastSum 44 = .ok (.bipush 33, 2) := by decide +kernel
theorem dX0_leastSum_46 : decode cX0_leastSum 46 = .ok (.imul, 1) := by decide +kernel
theorem dX0_leastSum_47 : decode cX0_leastSum 47 = .ok (.aload_n 0, 1) := by decide +kernel
theorem dX0_leastSum_48 : decode cX0_leastSum 48 = .ok (.getfield 44, 3) := by decide +kernel
theorem dX0_leastSum_51 : decode cX0_leastSum 51 = .ok (.iadd, 1) := by decide +kernel
theorem dX0_leastSum_52 : decode cX0_leastSum 52 = .ok (.iconst 0, 1) := by decide +kernel
theorem dX0_leastSum_53 : decode cX0_leastSum 53 = .ok (.iastore, 1) := by decide +kernel
theorem dX0_leastSum_54 : decode cX0_leastSum 54 = .ok (.aload_n 0, 1) := by decide +kernel
theorem dX0_leastSum_55 : decode cX0_leastSum 55 = .ok (.getfield 27, 3) := by decide +kernel
theorem dX0_leastSum_58 : decode cX0_leastSum 58 = .ok (.getfield 35, 3) := by decide +kernel
theorem dX0_leastSum_61 : decode cX0_leastSum 61 = .ok (.iconst 1, 1) := by decide +kernel
theorem dX0_leastSum_62 : decode cX0_leastSum 62 = .ok (.isub, 1) := by decide +kernel
theorem dX0_leastSum_63 : decode cX0_leastSum 63 = .ok (.istore_n 3, 1) := by decide +kernel
theorem dX0_leastSum_64 : decode cX0_leastSum 64 = .ok (.iload_n 3, 1) := by decide +kernel
theorem dX0_leastSum_65 : decode cX0_leastSum 65 = .ok (.ifCond .lt 19, 3) := by decide +kernel
theorem dX0_leastSum_68 : decode cX0_leastSum 68 = .ok (.aload_n 0, 1) := by decide +kernel
theorem dX0_leastSum_69 : decode cX0_leastSum 69 = .ok (.iload_n 3, 1) := by decide +kernel
theorem dX0_leastSum_70 : decode cX0_leastSum 70 = .ok (.invokevirtual 50, 3) := by decide +kernel
theorem dX0_leastSum_73 : decode cX0_leastSum 73 = .ok (.ifCond .ne 5, 3) := by decide +kernel
theorem dX0_leastSum_76 : decode cX0_leastSum 76 = .ok (.iconst (-1), 1) := by decide +kernel
theorem dX0_leastSum_77 : decode cX0_leastSum 77 = .ok (.ireturn, 1) := by decide +kernel
theorem dX0_leastSum_78 : decode cX0_leastSum 78 = .ok (.iinc 3 (-1), 3) := by decide +kernel
theorem dX0_leastSum_81 : decode cX0_leastSum 81 = .ok (.goto (-17), 3) := by decide +kernel
theorem dX0_leastSum_84 : decode cX0_leastSum 84 = .ok (.aload_n 0, 1) := by decide +kernel
theorem dX0_leastSum_85 : decode cX0_leastSum 85 = .ok (.getfield 21, 3) := by decide +kernel
theorem dX0_leastSum_88 : decode cX0_leastSum 88 = .ok (.iconst 0, 1) := by decide +kernel
theorem dX0_leastSum_89 : decode cX0_leastSum 89 = .ok (.iaload, 1) := by decide +kernel
theorem dX0_leastSum_90 : decode cX0_leastSum 90 = .ok (.ireturn, 1) := by decide +kernel
set_option maxRecDepth 20000 in
theorem ggX0_draw_X0_leastSum : GoodIn wsX0_draw wsX0_leastSum := goodIn_r _ [9, 1, 4, 10, 11, 12, 13, 14, 15, 8, 16, 17, 18, 19, 20, 21, 22, 23, 24, 25, 26, 27, 28, 29, 30, 31, 32, 33, 34, 35, 36, 37, 38, 39, 40, 41, 42, 43, 44, 45, 46, 47, 48, 49, 50, 51, 52, 53, 54, 55, 56, 57, 58, 59, 60, 61, 62, 63, 64, 65, 66, 67, 68, 69, 70, 71, 72, 73, 74, 75, 76, 77, 78, 79, 80, 81, 82, 83] (by decide +kernel) (by decide +kernel)
set_option maxRecDepth 20000 in
theorem gX0_draw_X0_leastSum : GoodIn wsX0_draw (wsV RX0 31 RX0 yX0_leastSum wsX0_leastSum) := goodIn_app (goodIn_of _ (by decide +kernel)) ggX0_draw_X0_leastSum
set_option maxRecDepth 20000 in
theorem ggX0_draw_X0_bestNext : GoodIn wsX0_draw wsX0_bestNext := goodIn_r _ [56, 57, 58, 59, 60, 17, 19, 18, 12, 45, 46, 47, 8, 48, 11, 1, 4, 49, 50, 51, 52, 70, 71, 72, 73, 74, 75, 76, 77, 78, 79, 80, 81, 82, 83] (by decide +kernel) (by decide +kernel)
set_option maxRecDepth 20000 in
theorem gX0_draw_X0_bestNext : GoodIn wsX0_draw (wsV RX0 57 RX0 yX0_bestNext wsX0_bestNext) := goodIn_app (goodIn_of _ (by decide +kernel)) ggX0_draw_X0_bestNext
theorem dX0_draw_0 : decode cX0_draw 0 = .ok (.aload_n 0, 1) := by decide +kernel
theorem dX0_draw_1 : decode cX0_draw 1 = .ok (.aload_n 0, 1) := by decide +kernel
theorem dX0_draw_2 : decode cX0_draw 2 = .ok (.getfield 27, 3) := by decide +kernel
theorem dX0_draw_5 : decode cX0_draw 5 = .ok (.getfield 54, 3) := by decide +kernel
theorem dX0_draw_8 : decode cX0_draw 8 = .ok (.iconst 5, 1) := by decide +kernel
theorem dX0_draw_9 : decode cX0_draw 9 = .ok (.iaload, 1) := by decide +kernel
theorem dX0_draw_10 : decode cX0_draw 10 = .ok (.aload_n 0, 1) := by decide +kernel
theorem dX0_draw_11 : decode cX0_draw 11 = .ok (.getfield 27, 3) := by decide +kernel
theorem dX0_draw_14 : decode cX0_draw 14 = .ok (.getfield 54, 3) := by decide +kernel
theorem dX0_draw_17 : decode cX0_draw 17 = .ok (.bipush 6, 2) := by decide +kernel
theorem dX0_draw_19 : decode cX0_draw 19 = .ok (.iaload, 1) := by decide +kernel
theorem dX0_draw_20 : decode cX0_draw 20 = .ok (.invokevirtual 31, 3) := by decide +kernel
theorem dX0_draw_23 : decode cX0_draw 23 = .ok (.iconst (-1), 1) := by decide +kernel
theorem dX0_draw_24 : decode cX0_draw 24 = .ok (.if_icmp .ne 5, 3) := by decide +kernel
theorem dX0_draw_27 : decode cX0_draw 27 = .ok (.iconst 0, 1) := by decide +kernel
theorem dX0_draw_28 : decode cX0_draw 28 = .ok (.ireturn, 1) := by decide +kernel
theorem dX0_draw_29 : decode cX0_draw 29 = .ok (.aload_n 0, 1) := by decide +kernel
theorem dX0_draw_30 : decode cX0_draw 30 = .ok (.getfield 24, 3) := by decide +kernel
theorem dX0_draw_33 : decode cX0_draw 33 = .ok (.iconst 0, 1) := by decide +kernel
theorem dX0_draw_34 : decode cX0_draw 34 = .ok (.iconst 0, 1) := by decide +kernel
theorem dX0_draw_35 : decode cX0_draw 35 = .ok (.iastore, 1) := by decide +kernel
theorem dX0_draw_36 : decode cX0_draw 36 = .ok (.iconst 0, 1) := by decide +kernel
theorem dX0_draw_37 : decode cX0_draw 37 = .ok (.istore_n 1, 1) := by decide +kernel
theorem dX0_draw_38 : decode cX0_draw 38 = .ok (.iload_n 1, 1) := by decide +kernel
theorem dX0_draw_39 : decode cX0_draw 39 = .ok (.aload_n 0, 1) := by decide +kernel
theorem dX0_draw_40 : decode cX0_draw 40 = .ok (.getfield 27, 3) := by decide +kernel
theorem dX0_draw_43 : decode cX0_draw 43 = .ok (.getfield 35, 3) := by decide +kernel
theorem dX0_draw_46 : decode cX0_draw 46 = .ok (.if_icmp .ge 37, 3) := by decide +kernel
theorem dX0_draw_49 : decode cX0_draw 49 = .ok (.aload_n 0, 1) := by decide +kernel
theorem dX0_draw_50 : decode cX0_draw 50 = .ok (.iload_n 1, 1) := by decide +kernel
theorem dX0_draw_51 : decode cX0_draw 51 = .ok (.aload_n 0, 1) := by decide +kernel
theorem dX0_draw_52 : decode cX0_draw 52 = .ok (.getfield 24, 3) := by decide +kernel
theorem dX0_draw_55 : decode cX0_draw 55 = .ok (.iload_n 1, 1) := by decide +kernel
theorem dX0_draw_56 : decode cX0_draw 56 = .ok (.iaload, 1) := by decide +kernel
theorem dX0_draw_57 : decode cX0_draw 57 = .ok (.invokevirtual 57, 3) := by decide +kernel
theorem dX0_draw_60 : decode cX0_draw 60 = .ok (.istore_n 2, 1) := by decide +kernel
theorem dX0_draw_61 : decode cX0_draw 61 = .ok (.iload_n 2, 1) := by decide +kernel
theorem dX0_draw_62 : decode cX0_draw 62 = .ok (.iconst (-1), 1) := by decide +kernel
theorem dX0_draw_63 : decode cX0_draw 63 = .ok (.if_icmp .ne 5, 3) := by decide +kernel
theorem dX0_draw_66 : decode cX0_draw 66 = .ok (.iconst 0, 1) := by decide +kernel
theorem dX0_draw_67 : decode cX0_draw 67 = .ok (.ireturn, 1) := by decide +kernel
theorem dX0_draw_68 : decode cX0_draw 68 = .ok (.aload_n 0, 1) := by decide +kernel
theorem dX0_draw_69 : decode cX0_draw 69 = .ok (.getfield 24, 3) := by decide +kernel
theorem dX0_draw_72 : decode cX0_draw 72 = .ok (.iload_n 1, 1) := by decide +kernel
theorem dX0_draw_73 : decode cX0_draw 73 = .ok (.iconst 1, 1) := by decide +kernel
theorem dX0_draw_74 : decode cX0_draw 74 = .ok (.iadd, 1) := by decide +kernel
theorem dX0_draw_75 : decode cX0_draw 75 = .ok (.iload_n 2, 1) := by decide +kernel
theorem dX0_draw_76 : decode cX0_draw 76 = .ok (.iastore, 1) := by decide +kernel
theorem dX0_draw_77 : decode cX0_draw 77 = .ok (.iinc 1 1, 3) := by decide +kernel
theorem dX0_draw_80 : decode cX0_draw 80 = .ok (.goto (-42), 3) := by decide +kernel
theorem dX0_draw_83 : decode cX0_draw 83 = .ok (.iconst 1, 1) := by decide +kernel
theorem dX0_draw_84 : decode cX0_draw 84 = .ok (.ireturn, 1) := by decide +kernel
theorem dX0_budgetOf_0 : decode cX0_budgetOf 0 = .ok (.aload_n 0, 1) := by decide +kernel
theorem dX0_budgetOf_1 : decode cX0_budgetOf 1 = .ok (.getfield 11, 3) := by decide +kernel
theorem dX0_budgetOf_4 : decode cX0_budgetOf 4 = .ok (.aload_n 0, 1) := by decide +kernel
theorem dX0_budgetOf_5 : decode cX0_budgetOf 5 = .ok (.getfield 24, 3) := by decide +kernel
theorem dX0_budgetOf_8 : decode cX0_budgetOf 8 = .ok (.iload_n 1, 1) := by decide +kernel
theorem dX0_budgetOf_9 : decode cX0_budgetOf 9 = .ok (.iconst 1, 1) := by decide +kernel
theorem dX0_budgetOf_10 : decode cX0_budgetOf 10 = .ok (.iadd, 1) := by decide +kernel
theorem dX0_budgetOf_11 : decode cX0_budgetOf 11 = .ok (.iaload, 1) := by decide +kernel
theorem dX0_budgetOf_12 : decode cX0_budgetOf 12 = .ok (.iaload, 1) := by decide +kernel
theorem dX0_budgetOf_13 : decode cX0_budgetOf 13 = .ok (.aload_n 0, 1) := by decide +kernel
theorem dX0_budgetOf_14 : decode cX0_budgetOf 14 = .ok (.getfield 11, 3) := by decide +kernel
theorem dX0_budgetOf_17 : decode cX0_budgetOf 17 = .ok (.aload_n 0, 1) := by decide +kernel
theorem dX0_budgetOf_18 : decode cX0_budgetOf 18 = .ok (.getfield 24, 3) := by decide +kernel
theorem dX0_budgetOf_21 : decode cX0_budgetOf 21 = .ok (.iload_n 1, 1) := by decide +kernel
theorem dX0_budgetOf_22 : decode cX0_budgetOf 22 = .ok (.iaload, 1) := by decide +kernel
theorem dX0_budgetOf_23 : decode cX0_budgetOf 23 = .ok (.iaload, 1) := by decide +kernel
theorem dX0_budgetOf_24 : decode cX0_budgetOf 24 = .ok (.isub, 1) := by decide +kernel
theorem dX0_budgetOf_25 : decode cX0_budgetOf 25 = .ok (.ireturn, 1) := by decide +kernel
set_option maxRecDepth 20000 in
theorem ggX0_measure_X2_lengthOf : GoodIn wsX0_measure wsX2_lengthOf := goodIn_r _ [12, 13, 14, 15, 16, 17, 11, 18, 19, 20, 37, 38, 39, 40, 41, 42] (by decide +kernel) (by decide +kernel)
set_option maxRecDepth 20000 in
theorem gX0_measure_X2_lengthOf : GoodIn wsX0_measure (wsV RX0 60 RX2 yX2_lengthOf wsX2_lengthOf) := goodIn_app (goodIn_of _ (by decide +kernel)) ggX0_measure_X2_lengthOf
set_option maxRecDepth 20000 in
theorem ggX0_measure_X2_leastBudget : GoodIn wsX0_measure wsX2_leastBudget := goodIn_r _ [24, 14, 37, 38, 39, 40, 41, 42] (by decide +kernel) (by decide +kernel)
set_option maxRecDepth 20000 in
theorem gX0_measure_X2_leastBudget : GoodIn wsX0_measure (wsV RX0 64 RX2 yX2_leastBudget wsX2_leastBudget) := goodIn_app (goodIn_of _ (by decide +kernel)) ggX0_measure_X2_leastBudget
set_option maxRecDepth 20000 in
theorem ggX0_measure_X2_mostBudget : GoodIn wsX0_measure wsX2_mostBudget := goodIn_r _ [28, 14, 37, 38, 39, 40, 41, 42] (by decide +kernel) (by decide +kernel)
set_option maxRecDepth 20000 in
theorem gX0_measure_X2_mostBudget : GoodIn wsX0_measure (wsV RX0 67 RX2 yX2_mostBudget wsX2_mostBudget) := goodIn_app (goodIn_of _ (by decide +kernel)) ggX0_measure_X2_mostBudget
theorem dX0_measure_0 : decode cX0_measure 0 = .ok (.iconst 0, 1) := by decide +kernel
theorem dX0_measure_1 : decode cX0_measure 1 = .ok (.istore_n 1, 1) := by decide +kernel
theorem dX0_measure_2 : decode cX0_measure 2 = .ok (.iload_n 1, 1) := by decide +kernel
theorem dX0_measure_3 : decode cX0_measure 3 = .ok (.aload_n 0, 1) := by decide +kernel
theorem dX0_measure_4 : decode cX0_measure 4 = .ok (.getfield 44, 3) := by decide +kernel
theorem dX0_measure_7 : decode cX0_measure 7 = .ok (.if_icmp .gt 26, 3) := by decide +kernel
theorem dX0_measure_10 : decode cX0_measure 10 = .ok (.aload_n 0, 1) := by decide +kernel
theorem dX0_measure_11 : decode cX0_measure 11 = .ok (.getfield 11, 3) := by decide +kernel
theorem dX0_measure_14 : decode cX0_measure 14 = .ok (.iload_n 1, 1) := by decide +kernel
theorem dX0_measure_15 : decode cX0_measure 15 = .ok (.iload_n 1, 1) := by decide +kernel
theorem dX0_measure_16 : decode cX0_measure 16 = .ok (.aload_n 0, 1) := by decide +kernel
theorem dX0_measure_17 : decode cX0_measure 17 = .ok (.getfield 41, 3) := by decide +kernel
theorem dX0_measure_20 : decode cX0_measure 20 = .ok (.imul, 1) := by decide +kernel
theorem dX0_measure_21 : decode cX0_measure 21 = .ok (.aload_n 0, 1) := by decide +kernel
theorem dX0_measure_22 : decode cX0_measure 22 = .ok (.getfield 44, 3) := by decide +kernel
theorem dX0_measure_25 : decode cX0_measure 25 = .ok (.idiv, 1) := by decide +kernel
theorem dX0_measure_26 : decode cX0_measure 26 = .ok (.iastore, 1) := by decide +kernel
theorem dX0_measure_27 : decode cX0_measure 27 = .ok (.iinc 1 1, 3) := by decide +kernel
theorem dX0_measure_30 : decode cX0_measure 30 = .ok (.goto (-28), 3) := by decide +kernel
theorem dX0_measure_33 : decode cX0_measure 33 = .ok (.iconst 0, 1) := by decide +kernel
theorem dX0_measure_34 : decode cX0_measure 34 = .ok (.istore_n 1, 1) := by decide +kernel
theorem dX0_measure_35 : decode cX0_measure 35 = .ok (.iload_n 1, 1) := by decide +kernel
theorem dX0_measure_36 : decode cX0_measure 36 = .ok (.aload_n 0, 1) := by decide +kernel
theorem dX0_measure_37 : decode cX0_measure 37 = .ok (.getfield 27, 3) := by decide +kernel
theorem dX0_measure_40 : decode cX0_measure 40 = .ok (.getfield 35, 3) := by decide +kernel
theorem dX0_measure_43 : decode cX0_measure 43 = .ok (.if_icmp .ge 46, 3) := by decide +kernel
theorem dX0_measure_46 : decode cX0_measure 46 = .ok (.aload_n 0, 1) := by decide +kernel
theorem dX0_measure_47 : decode cX0_measure 47 = .ok (.getfield 27, 3) := by decide +kernel
theorem dX0_measure_50 : decode cX0_measure 50 = .ok (.iload_n 1, 1) := by decide +kernel
theorem dX0_measure_51 : decode cX0_measure 51 = .ok (.invokevirtual 60, 3) := by decide +kernel
theorem dX0_measure_54 : decode cX0_measure 54 = .ok (.istore_n 2, 1) := by decide +kernel
theorem dX0_measure_55 : decode cX0_measure 55 = .ok (.aload_n 0, 1) := by decide +kernel
theorem dX0_measure_56 : decode cX0_measure 56 = .ok (.getfield 15, 3) := by decide +kernel
theorem dX0_measure_59 : decode cX0_measure 59 = .ok (.iload_n 1, 1) := by decide +kernel
theorem dX0_measure_60 : decode cX0_measure 60 = .ok (.aload_n 0, 1) := by decide +kernel
theorem dX0_measure_61 : decode cX0_measure 61 = .ok (.getfield 27, 3) := by decide +kernel
theorem dX0_measure_64 : decode cX0_measure 64 = .ok (.iload_n 2, 1) := by decide +kernel
theorem dX0_measure_65 : decode cX0_measure 65 = .ok (.invokevirtual 64, 3) := by decide +kernel
theorem dX0_measure_68 : decode cX0_measure 68 = .ok (.iastore, 1) := by decide +kernel
theorem dX0_measure_69 : decode cX0_measure 69 = .ok (.aload_n 0, 1) := by decide +kernel
theorem dX0_measure_70 : decode cX0_measure 70 = .ok (.getfield 18, 3) := by decide +kernel
theorem dX0_measure_73 : decode cX0_measure 73 = .ok (.iload_n 1, 1) := by decide +kernel
theorem dX0_measure_74 : decode cX0_measure 74 = .ok (.aload_n 0, 1) := by decide +kernel
theorem dX0_measure_75 : decode cX0_measure 75 = .ok (.getfield 27, 3) := by decide +kernel
theorem dX0_measure_78 : decode cX0_measure 78 = .ok (.iload_n 2, 1) := by decide +kernel
theorem dX0_measure_79 : decode cX0_measure 79 = .ok (.invokevirtual 67, 3) := by decide +kernel
theorem dX0_measure_82 : decode cX0_measure 82 = .ok (.iastore, 1) := by decide +kernel
theorem dX0_measure_83 : decode cX0_measure 83 = .ok (.iinc 1 1, 3) := by decide +kernel
theorem dX0_measure_86 : decode cX0_measure 86 = .ok (.goto (-51), 3) := by decide +kernel
theorem dX0_measure_89 : decode cX0_measure 89 = .ok (.return_, 1) := by decide +kernel
set_option maxRecDepth 20000 in
theorem ggX0_fillSums_X0_lastStepOf : GoodIn wsX0_fillSums wsX0_lastStepOf := goodIn_r _ [6, 7, 8, 9, 35, 36, 37, 38, 39, 40, 41, 42, 43, 44, 45, 46, 47, 48] (by decide +kernel) (by decide +kernel)
set_option maxRecDepth 20000 in
theorem gX0_fillSums_X0_lastStepOf : GoodIn wsX0_fillSums (wsV RX0 70 RX0 yX0_lastStepOf wsX0_lastStepOf) := goodIn_app (goodIn_of _ (by decide +kernel)) ggX0_fillSums_X0_lastStepOf
set_option maxRecDepth 20000 in
theorem ggX0_fillSums_X0_firstStepOf : GoodIn wsX0_fillSums wsX0_firstStepOf := goodIn_r _ [13, 8, 9, 7, 35, 36, 37, 38, 39, 40, 41, 42, 43, 44, 45, 46, 47, 48] (by decide +kernel) (by decide +kernel)
set_option maxRecDepth 20000 in
theorem gX0_fillSums_X0_firstStepOf : GoodIn wsX0_fillSums (wsV RX0 73 RX0 yX0_firstStepOf wsX0_firstStepOf) := goodIn_app (goodIn_of _ (by decide +kernel)) ggX0_fillSums_X0_firstStepOf
set_option maxRecDepth 20000 in
theorem ggX0_fillSums_X0_bestNext : GoodIn wsX0_fillSums wsX0_bestNext := goodIn_r _ [17, 18, 19, 20, 21, 22, 23, 24, 1, 2, 3, 4, 5, 6, 7, 8, 9, 10, 11, 12, 13, 35, 36, 37, 38, 39, 40, 41, 42, 43, 44, 45, 46, 47, 48] (by decide +kernel) (by decide +kernel)
set_option maxRecDepth 20000 in
theorem gX0_fillSums_X0_bestNext : GoodIn wsX0_fillSums (wsV RX0 57 RX0 yX0_bestNext wsX0_bestNext) := goodIn_app (goodIn_of _ (by decide +kernel)) ggX0_fillSums_X0_bestNext
set_option maxRecDepth 20000 in
theorem ggX0_fillSums_X0_distance : GoodIn wsX0_fillSums wsX0_distance := goodIn_r _ [28, 22, 8, 29, 30, 31, 32, 33, 20, 34, 35, 36, 37, 38, 39, 40, 41, 42, 43, 44, 45, 46, 47, 48] (by decide +kernel) (by decide +kernel)
set_option maxRecDepth 20000 in
theorem gX0_fillSums_X0_distance : GoodIn wsX0_fillSums (wsV RX0 76 RX0 yX0_distance wsX0_distance) := goodIn_app (goodIn_of _ (by decide +kernel)) ggX0_fillSums_X0_distance
theorem dX0_fillSums_0 : decode cX0_fillSums 0 = .ok (.iconst 0, 1) := by decide +kernel
theorem dX0_fillSums_1 : decode cX0_fillSums 1 = .ok (.istore_n 2, 1) := by decide +kernel
theorem dX0_fillSums_2 : decode cX0_fillSums 2 = .ok (.aload_n 0, 1) := by decide +kernel
theorem dX0_fillSums_3 : decode cX0_fillSums 3 = .ok (.iload_n 1, 1) := by decide +kernel
theorem dX0_fillSums_4 : decode cX0_fillSums 4 = .ok (.invokevirtual 70, 3) := by decide +kernel
theorem dX0_fillSums_7 : decode cX0_fillSums 7 = .ok (.istore_n 3, 1) := by decide +kernel
theorem dX0_fillSums_8 : decode cX0_fillSums 8 = .ok (.aload_n 0, 1) := by decide +kernel
theorem dX0_fillSums_9 : decode cX0_fillSums 9 = .ok (.iload_n 1, 1) := by decide +kernel
theorem dX0_fillSums_10 : decode cX0_fillSums 10 = .ok (.invokevirtual 73, 3) := by decide +kernel
theorem dX0_fillSums_13 : decode cX0_fillSums 13 = .ok (.istore 4, 2) := by decide +kernel
theorem dX0_fillSums_15 : decode cX0_fillSums 15 = .ok (.iload 4, 2) := by decide +kernel
theorem dX0_fillSums_17 : decode cX0_fillSums 17 = .ok (.iload_n 3, 1) := by decide +kernel
theorem dX0_fillSums_18 : decode cX0_fillSums 18 = .ok (.if_icmp .gt 67, 3) := by decide +kernel
theorem dX0_fillSums_21 : decode cX0_fillSums 21 = .ok (.aload_n 0, 1) := by decide +kernel
theorem dX0_fillSums_22 : decode cX0_fillSums 22 = .ok (.iload_n 1, 1) := by decide +kernel
theorem dX0_fillSums_23 : decode cX0_fillSums 23 = .ok (.iload 4, 2) := by decide +kernel
theorem dX0_fillSums_25 : decode cX0_fillSums 25 = .ok (.invokevirtual 57, 3) := by decide +kernel
theorem dX0_fillSums_28 : decode cX0_fillSums 28 = .ok (.istore 5, 2) := by decide +kernel
theorem dX0_fillSums_30 : decode cX0_fillSums 30 = .ok (.iconst (-1), 1) := by decide +kernel
theorem dX0_fillSums_31 : decode cX0_fillSums 31 = .ok (.istore 6, 2) := by decide +kernel
theorem dX0_fillSums_33 : decode cX0_fillSums 33 = .ok (.iload 5, 2) := by decide +kernel
theorem dX0_fillSums_35 : decode cX0_fillSums 35 = .ok (.iconst (-1), 1) := by decide +kernel
theorem dX0_fillSums_36 : decode cX0_fillSums 36 = .ok (.if_icmp .eq 29, 3) := by decide +kernel
theorem dX0_fillSums_39 : decode cX0_fillSums 39 = .ok (.aload_n 0, 1) := by decide +kernel
theorem dX0_fillSums_40 : decode cX0_fillSums 40 = .ok (.getfield 21, 3) := by decide +kernel
theorem dX0_fillSums_43 : decode cX0_fillSums 43 = .ok (.iload_n 1, 1) := by decide +kernel
theorem dX0_fillSums_44 : decode cX0_fillSums 44 = .ok (.iconst 1, 1) := by decide +kernel
theorem dX0_fillSums_45 : decode cX0_fillSums 45 = .ok (.iadd, 1) := by decide +kernel
theorem dX0_fillSums_46 : decode cX0_fillSums 46 = .ok (.bipush 33, 2) := by decide +kernel
theorem dX0_fillSums_48 : decode cX0_fillSums 48 = .ok (.imul, 1) := by decide +kernel
theorem dX0_fillSums_49 : decode cX0_fillSums 49 = .ok (.iload 5, 2) := by decide +kernel
theorem dX0_fillSums_51 : decode cX0_fillSums 51 = .ok (.iadd, 1) := by decide +kernel
theorem dX0_fillSums_52 : decode cX0_fillSums 52 = .ok (.iaload, 1) := by decide +kernel
theorem dX0_fillSums_53 : decode cX0_fillSums 53 = .ok (.aload_n 0, 1) := by decide +kernel
theorem dX0_fillSums_54 : decode cX0_fillSums 54 = .ok (.iload_n 1, 1) := by decide +kernel
theorem dX0_fillSums_55 : decode cX0_fillSums 55 = .ok (.iload 4, 2) := by decide +kernel
theorem dX0_fillSums_57 : decode cX0_fillSums 57 = .ok (.invokevirtual 76, 3) := by decide +kernel
theorem dX0_fillSums_60 : decode cX0_fillSums 60 = .ok (.iadd, 1) := by decide +kernel
theorem dX0_fillSums_61 : decode cX0_fillSums 61 = .ok (.istore 6, 2) := by decide +kernel
theorem dX0_fillSums_63 : decode cX0_fillSums 63 = .ok (.iconst 1, 1) := by decide +kernel
theorem dX0_fillSums_64 : decode cX0_fillSums 64 = .ok (.istore_n 2, 1) := by decide +kernel
theorem dX0_fillSums_65 : decode cX0_fillSums 65 = .ok (.aload_n 0, 1) := by decide +kernel
theorem dX0_fillSums_66 : decode cX0_fillSums 66 = .ok (.getfield 21, 3) := by decide +kernel
theorem dX0_fillSums_69 : decode cX0_fillSums 69 = .ok (.iload_n 1, 1) := by decide +kernel
theorem dX0_fillSums_70 : decode cX0_fillSums 70 = .ok (.bipush 33, 2) := by decide +kernel
theorem dX0_fillSums_72 : decode cX0_fillSums 72 = .ok (.imul, 1) := by decide +kernel
theorem dX0_fillSums_73 : decode cX0_fillSums 73 = .ok (.iload 4, 2) := by decide +kernel
theorem dX0_fillSums_75 : decode cX0_fillSums 75 = .ok (.iadd, 1) := by decide +kernel
theorem dX0_fillSums_76 : decode cX0_fillSums 76 = .ok (.iload 6, 2) := by decide +kernel
theorem dX0_fillSums_78 : decode cX0_fillSums 78 = .ok (.iastore, 1) := by decide +kernel
theorem dX0_fillSums_79 : decode cX0_fillSums 79 = .ok (.iinc 4 1, 3) := by decide +kernel
theorem dX0_fillSums_82 : decode cX0_fillSums 82 = .ok (.goto (-67), 3) := by decide +kernel
theorem dX0_fillSums_85 : decode cX0_fillSums 85 = .ok (.iload_n 2, 1) := by decide +kernel
theorem dX0_fillSums_86 : decode cX0_fillSums 86 = .ok (.ireturn, 1) := by decide +kernel
set_option maxRecDepth 20000 in
theorem ggX0_bestNext_X0_lastStepOf : GoodIn wsX0_bestNext wsX0_lastStepOf := goodIn_r _ [13, 14, 15, 16, 21, 22, 23, 24, 25, 26, 27, 28, 29, 30, 31, 32, 33, 34] (by decide +kernel) (by decide +kernel)
set_option maxRecDepth 20000 in
theorem gX0_bestNext_X0_lastStepOf : GoodIn wsX0_bestNext (wsV RX0 70 RX0 yX0_lastStepOf wsX0_lastStepOf) := goodIn_app (goodIn_of _ (by decide +kernel)) ggX0_bestNext_X0_lastStepOf
set_option maxRecDepth 20000 in
theorem ggX0_bestNext_X0_firstStepOf : GoodIn wsX0_bestNext wsX0_firstStepOf := goodIn_r _ [20, 15, 16, 14, 21, 22, 23, 24, 25, 26, 27, 28, 29, 30, 31, 32, 33, 34] (by decide +kernel) (by decide +kernel)
set_option maxRecDepth 20000 in
theorem gX0_bestNext_X0_firstStepOf : GoodIn wsX0_bestNext (wsV RX0 73 RX0 yX0_firstStepOf wsX0_firstStepOf) := goodIn_app (goodIn_of _ (by decide +kernel)) ggX0_bestNext_X0_firstStepOf
theorem dX0_bestNext_0 : decode cX0_bestNext 0 = .ok (.iload_n 1, 1) := by decide +kernel
theorem dX0_bestNext_1 : decode cX0_bestNext 1 = .ok (.iconst 1, 1) := by decide +kernel
theorem dX0_bestNext_2 : decode cX0_bestNext 2 = .ok (.iadd, 1) := by decide +kernel
theorem dX0_bestNext_3 : decode cX0_bestNext 3 = .ok (.bipush 33, 2) := by decide +kernel
theorem dX0_bestNext_5 : decode cX0_bestNext 5 = .ok (.imul, 1) := by decide +kernel
theorem dX0_bestNext_6 : decode cX0_bestNext 6 = .ok (.istore_n 3, 1) := by decide +kernel
theorem dX0_bestNext_7 : decode cX0_bestNext 7 = .ok (.iconst (-1), 1) := by decide +kernel
theorem dX0_bestNext_8 : decode cX0_bestNext 8 = .ok (.istore 4, 2) := by decide +kernel
theorem dX0_bestNext_10 : decode cX0_bestNext 10 = .ok (.aload_n 0, 1) := by decide +kernel
theorem dX0_bestNext_11 : decode cX0_bestNext 11 = .ok (.iload_n 1, 1) := by decide +kernel
theorem dX0_bestNext_12 : decode cX0_bestNext 12 = .ok (.iconst 1, 1) := by decide +kernel
theorem dX0_bestNext_13 : decode cX0_bestNext 13 = .ok (.iadd, 1) := by decide +kernel
theorem dX0_bestNext_14 : decode cX0_bestNext 14 = .ok (.invokevirtual 70, 3) := by decide +kernel
theorem dX0_bestNext_17 : decode cX0_bestNext 17 = .ok (.istore 5, 2) := by decide +kernel
theorem dX0_bestNext_19 : decode cX0_bestNext 19 = .ok (.iload_n 2, 1) := by decide +kernel
theorem dX0_bestNext_20 : decode cX0_bestNext 20 = .ok (.iconst 1, 1) := by decide +kernel
theorem dX0_bestNext_21 : decode cX0_bestNext 21 = .ok (.iadd, 1) := by decide +kernel
theorem dX0_bestNext_22 : decode cX0_bestNext 22 = .ok (.aload_n 0, 1) := by decide +kernel
theorem dX0_bestNext_23 : decode cX0_bestNext 23 = .ok (.iload_n 1, 1) := by decide +kernel
theorem dX0_bestNext_24 : decode cX0_bestNext 24 = .ok (.iconst 1, 1) := by decide +kernel
theorem dX0_bestNext_25 : decode cX0_bestNext 25 = .ok (.iadd, 1) := by decide +kernel
theorem dX0_bestNext_26 : decode cX0_bestNext 26 = .ok (.invokevirtual 73, 3) := by decide +kernel
theorem dX0_bestNext_29 : decode cX0_bestNext 29 = .ok (.invokestatic 79, 3) := by decide +kernel
theorem dX0_bestNext_32 : decode cX0_bestNext 32 = .ok (.istore 6, 2) := by decide +kernel
theorem dX0_bestNext_34 : decode cX0_bestNext 34 = .ok (.iload 6, 2) := by decide +kernel
theorem dX0_bestNext_36 : decode cX0_bestNext 36 = .ok (.iload 5, 2) := by decide +kernel
theorem dX0_bestNext_38 : decode cX0_bestNext 38 = .ok (.if_icmp .gt 106, 3) := by decide +kernel
theorem dX0_bestNext_41 : decode cX0_bestNext 41 = .ok (.aload_n 0, 1) := by decide +kernel
theorem dX0_bestNext_42 : decode cX0_bestNext 42 = .ok (.getfield 11, 3) := by decide +kernel
theorem dX0_bestNext_45 : decode cX0_bestNext 45 = .ok (.iload 6, 2) := by decide +kernel
theorem dX0_bestNext_47 : decode cX0_bestNext 47 = .ok (.iaload, 1) := by decide +kernel
theorem dX0_bestNext_48 : decode cX0_bestNext 48 = .ok (.aload_n 0, 1) := by decide +kernel
theorem dX0_bestNext_49 : decode cX0_bestNext 49 = .ok (.getfield 11, 3) := by decide +kernel
theorem dX0_bestNext_52 : decode cX0_bestNext 52 = .ok (.iload_n 2, 1) := by decide +kernel
theorem dX0_bestNext_53 : decode cX0_bestNext 53 = .ok (.iaload, 1) := by decide +kernel
theorem dX0_bestNext_54 : decode cX0_bestNext 54 = .ok (.isub, 1) := by decide +kernel
theorem dX0_bestNext_55 : decode cX0_bestNext 55 = .ok (.istore 7, 2) := by decide +kernel
theorem dX0_bestNext_57 : decode cX0_bestNext 57 = .ok (.iload 7, 2) := by decide +kernel
theorem dX0_bestNext_59 : decode cX0_bestNext 59 = .ok (.aload_n 0, 1) := by decide +kernel
theorem dX0_bestNext_60 : decode cX0_bestNext 60 = .ok (.getfield 18, 3) := by decide +kernel
theorem dX0_bestNext_63 : decode cX0_bestNext 63 = .ok (.iload_n 1, 1) := by decide +kernel
theorem dX0_bestNext_64 : decode cX0_bestNext 64 = .ok (.iaload, 1) := by decide +kernel
theorem dX0_bestNext_65 : decode cX0_bestNext 65 = .ok (.if_icmp .le 6, 3) := by decide +kernel
theorem dX0_bestNext_68 : decode cX0_bestNext 68 = .ok (.iload 4, 2) := by decide +kernel
theorem dX0_bestNext_70 : decode cX0_bestNext 70 = .ok (.ireturn, 1) := by decide +kernel
theorem dX0_bestNext_71 : decode cX0_bestNext 71 = .ok (.iload 7, 2) := by decide +kernel
theorem dX0_bestNext_73 : decode cX0_bestNext 73 = .ok (.aload_n 0, 1) := by decide +kernel
theorem dX0_bestNext_74 : decode cX0_bestNext 74 = .ok (.getfield 15, 3) := by decide +kernel
theorem dX0_bestNext_77 : decode cX0_bestNext 77 = .ok (.iload_n 1, 1) := by decide +kernel
theorem dX0_bestNext_78 : decode cX0_bestNext 78 = .ok (.iaload, 1) := by decide +kernel
theorem dX0_bestNext_79 : decode cX0_bestNext 79 = .ok (.if_icmp .lt 20, 3) := by decide +kernel
theorem dX0_bestNext_82 : decode cX0_bestNext 82 = .ok (.aload_n 0, 1) := by decide +kernel
theorem dX0_bestNext_83 : decode cX0_bestNext 83 = .ok (.getfield 21, 3) := by decide +kernel
theorem dX0_bestNext_86 : decode cX0_bestNext 86 = .ok (.iload_n 3, 1) := by decide +kernel
theorem dX0_bestNext_87 : decode cX0_bestNext 87 = .ok (.iload 6, 2) := by decide +kernel
theorem dX0_bestNext_89 : decode cX0_bestNext 89 = .ok (.iadd, 1) := by decide +kernel
theorem dX0_bestNext_90 : decode cX0_bestNext 90 = .ok (.iaload, 1) := by decide +kernel
theorem dX0_bestNext_91 : decode cX0_bestNext 91 = .ok (.iconst (-1), 1) := by decide +kernel
theorem dX0_bestNext_92 : decode cX0_bestNext 92 = .ok (.if_icmp .eq 7, 3) := by decide +kernel
theorem dX0_bestNext_95 : decode cX0_bestNext 95 = .ok (.iconst 1, 1) := by decide +kernel
theorem dX0_bestNext_96 : decode cX0_bestNext 96 = .ok (.goto 4, 3) := by decide +kernel
theorem dX0_bestNext_99 : decode cX0_bestNext 99 = .ok (.iconst 0, 1) := by decide +kernel
theorem dX0_bestNext_100 : decode cX0_bestNext 100 = .ok (.istore 8, 2) := by decide +kernel
theorem dX0_bestNext_102 : decode cX0_bestNext 102 = .ok (.iload 8, 2) := by decide +kernel
theorem dX0_bestNext_104 : decode cX0_bestNext 104 = .ok (.ifCond .eq 34, 3) := by decide +kernel
theorem dX0_bestNext_107 : decode cX0_bestNext 107 = .ok (.iload 4, 2) := by decide +kernel
theorem dX0_bestNext_109 : decode cX0_bestNext 109 = .ok (.iconst (-1), 1) := by decide +kernel
theorem dX0_bestNext_110 : decode cX0_bestNext 110 = .ok (.if_icmp .eq 24, 3) := by decide +kernel
theorem dX0_bestNext_113 : decode cX0_bestNext 113 = .ok (.aload_n 0, 1) := by decide +kernel
theorem dX0_bestNext_114 : decode cX0_bestNext 114 = .ok (.getfield 21, 3) := by decide +kernel
theorem dX0_bestNext_117 : decode cX0_bestNext 117 = .ok (.iload_n 3, 1) := by decide +kernel
theorem dX0_bestNext_118 : decode cX0_bestNext 118 = .ok (.iload 6, 2) := by decide +kernel
theorem dX0_bestNext_120 : decode cX0_bestNext 120 = .ok (.iadd, 1) := by decide +kernel
theorem dX0_bestNext_121 : decode cX0_bestNext 121 = .ok (.iaload, 1) := by decide +kernel
theorem dX0_bestNext_122 : decode cX0_bestNext 122 = .ok (.aload_n 0, 1) := by decide +kernel
theorem dX0_bestNext_123 : decode cX0_bestNext 123 = .ok (.getfield 21, 3) := by decide +kernel
theorem dX0_bestNext_126 : decode cX0_bestNext 126 = .ok (.iload_n 3, 1) := by decide +kernel
theorem dX0_bestNext_127 : decode cX0_bestNext 127 = .ok (.iload 4, 2) := by decide +kernel
theorem dX0_bestNext_129 : decode cX0_bestNext 129 = .ok (.iadd, 1) := by decide +kernel
theorem dX0_bestNext_130 : decode cX0_bestNext 130 = .ok (.iaload, 1) := by decide +kernel
theorem dX0_bestNext_131 : decode cX0_bestNext 131 = .ok (.if_icmp .ge 7, 3) := by decide +kernel
theorem dX0_bestNext_134 : decode cX0_bestNext 134 = .ok (.iload 6, 2) := by decide +kernel
theorem dX0_bestNext_136 : decode cX0_bestNext 136 = .ok (.istore 4, 2) := by decide +kernel
theorem dX0_bestNext_138 : decode cX0_bestNext 138 = .ok (.iinc 6 1, 3) := by decide +kernel
theorem dX0_bestNext_141 : decode cX0_bestNext 141 = .ok (.goto (-107), 3) := by decide +kernel
theorem dX0_bestNext_144 : decode cX0_bestNext 144 = .ok (.iload 4, 2) := by decide +kernel
theorem dX0_bestNext_146 : decode cX0_bestNext 146 = .ok (.ireturn, 1) := by decide +kernel
theorem dX0_firstStepOf_0 : decode cX0_firstStepOf 0 = .ok (.iload_n 1, 1) := by decide +kernel
theorem dX0_firstStepOf_1 : decode cX0_firstStepOf 1 = .ok (.aload_n 0, 1) := by decide +kernel
theorem dX0_firstStepOf_2 : decode cX0_firstStepOf 2 = .ok (.getfield 27, 3) := by decide +kernel
theorem dX0_firstStepOf_5 : decode cX0_firstStepOf 5 = .ok (.getfield 35, 3) := by decide +kernel
theorem dX0_firstStepOf_8 : decode cX0_firstStepOf 8 = .ok (.if_icmp .ge 7, 3) := by decide +kernel
theorem dX0_firstStepOf_11 : decode cX0_firstStepOf 11 = .ok (.iload_n 1, 1) := by decide +kernel
theorem dX0_firstStepOf_12 : decode cX0_firstStepOf 12 = .ok (.goto 7, 3) := by decide +kernel
theorem dX0_firstStepOf_15 : decode cX0_firstStepOf 15 = .ok (.aload_n 0, 1) := by decide +kernel
theorem dX0_firstStepOf_16 : decode cX0_firstStepOf 16 = .ok (.getfield 44, 3) := by decide +kernel
theorem dX0_firstStepOf_19 : decode cX0_firstStepOf 19 = .ok (.ireturn, 1) := by decide +kernel
theorem dX0_lastStepOf_0 : decode cX0_lastStepOf 0 = .ok (.iload_n 1, 1) := by decide +kernel
theorem dX0_lastStepOf_1 : decode cX0_lastStepOf 1 = .ok (.ifCond .ne 7, 3) := by decide +kernel
theorem dX0_lastStepOf_4 : decode cX0_lastStepOf 4 = .ok (.iconst 0, 1) := by decide +kernel
theorem dX0_lastStepOf_5 : decode cX0_lastStepOf 5 = .ok (.goto 17, 3) := by decide +kernel
theorem dX0_lastStepOf_8 : decode cX0_lastStepOf 8 = .ok (.aload_n 0, 1) := by decide +kernel
theorem dX0_lastStepOf_9 : decode cX0_lastStepOf 9 = .ok (.getfield 44, 3) := by decide +kernel
theorem dX0_lastStepOf_12 : decode cX0_lastStepOf 12 = .ok (.aload_n 0, 1) := by decide +kernel
theorem dX0_lastStepOf_13 : decode cX0_lastStepOf 13 = .ok (.getfield 27, 3) := by decide +kernel
theorem dX0_lastStepOf_16 : decode cX0_lastStepOf 16 = .ok (.getfield 35, 3) := by decide +kernel
theorem dX0_lastStepOf_19 : decode cX0_lastStepOf 19 = .ok (.iload_n 1, 1) := by decide +kernel
theorem dX0_lastStepOf_20 : decode cX0_lastStepOf 20 = .ok (.isub, 1) := by decide +kernel
theorem dX0_lastStepOf_21 : decode cX0_lastStepOf 21 = .ok (.isub, 1) := by decide +kernel
theorem dX0_lastStepOf_22 : decode cX0_lastStepOf 22 = .ok (.ireturn, 1) := by decide +kernel
theorem dX0_distance_0 : decode cX0_distance 0 = .ok (.aload_n 0, 1) := by decide +kernel
theorem dX0_distance_1 : decode cX0_distance 1 = .ok (.getfield 11, 3) := by decide +kernel
theorem dX0_distance_4 : decode cX0_distance 4 = .ok (.iload_n 2, 1) := by decide +kernel
theorem dX0_distance_5 : decode cX0_distance 5 = .ok (.iaload, 1) := by decide +kernel
theorem dX0_distance_6 : decode cX0_distance 6 = .ok (.aload_n 0, 1) := by decide +kernel
theorem dX0_distance_7 : decode cX0_distance 7 = .ok (.getfield 27, 3) := by decide +kernel
theorem dX0_distance_10 : decode cX0_distance 10 = .ok (.getfield 84, 3) := by decide +kernel
theorem dX0_distance_13 : decode cX0_distance 13 = .ok (.imul, 1) := by decide +kernel
theorem dX0_distance_14 : decode cX0_distance 14 = .ok (.aload_n 0, 1) := by decide +kernel
theorem dX0_distance_15 : decode cX0_distance 15 = .ok (.getfield 27, 3) := by decide +kernel
theorem dX0_distance_18 : decode cX0_distance 18 = .ok (.getfield 87, 3) := by decide +kernel
theorem dX0_distance_21 : decode cX0_distance 21 = .ok (.iload_n 1, 1) := by decide +kernel
theorem dX0_distance_22 : decode cX0_distance 22 = .ok (.iaload, 1) := by decide +kernel
theorem dX0_distance_23 : decode cX0_distance 23 = .ok (.aload_n 0, 1) := by decide +kernel
theorem dX0_distance_24 : decode cX0_distance 24 = .ok (.getfield 41, 3) := by decide +kernel
theorem dX0_distance_27 : decode cX0_distance 27 = .ok (.imul, 1) := by decide +kernel
theorem dX0_distance_28 : decode cX0_distance 28 = .ok (.isub, 1) := by decide +kernel
theorem dX0_distance_29 : decode cX0_distance 29 = .ok (.invokestatic 90, 3) := by decide +kernel
theorem dX0_distance_32 : decode cX0_distance 32 = .ok (.ireturn, 1) := by decide +kernel
set_option maxRecDepth 20000 in
theorem ggX1_init_X2_init : GoodIn wsX1_init wsX2_init := goodIn_r _ [9, 10, 2, 3, 11, 12, 13, 14, 15, 16, 17, 18, 19, 20, 21, 22, 23, 27, 28, 29, 30, 31, 32] (by decide +kernel) (by decide +kernel)
set_option maxRecDepth 20000 in
theorem gX1_init_X2_init_n17 : GoodIn wsX1_init (wsX2_init) := ggX1_init_X2_init
theorem dX1_init_0 : decode cX1_init 0 = .ok (.aload_n 0, 1) := by decide +kernel
theorem dX1_init_1 : decode cX1_init 1 = .ok (.invokespecial 3, 3) := by decide +kernel
theorem dX1_init_4 : decode cX1_init 4 = .ok (.aload_n 0, 1) := by decide +kernel
theorem dX1_init_5 : decode cX1_init 5 = .ok (.bipush 8, 2) := by decide +kernel
theorem dX1_init_7 : decode cX1_init 7 = .ok (.anewarray 9, 3) := by decide +kernel
theorem dX1_init_10 : decode cX1_init 10 = .ok (.putfield 11, 3) := by decide +kernel
theorem dX1_init_13 : decode cX1_init 13 = .ok (.iconst 0, 1) := by decide +kernel
theorem dX1_init_14 : decode cX1_init 14 = .ok (.istore_n 1, 1) := by decide +kernel
theorem dX1_init_15 : decode cX1_init 15 = .ok (.iload_n 1, 1) := by decide +kernel
theorem dX1_init_16 : decode cX1_init 16 = .ok (.bipush 8, 2) := by decide +kernel
theorem dX1_init_18 : decode cX1_init 18 = .ok (.if_icmp .ge 22, 3) := by decide +kernel
theorem dX1_init_21 : decode cX1_init 21 = .ok (.aload_n 0, 1) := by decide +kernel
theorem dX1_init_22 : decode cX1_init 22 = .ok (.getfield 11, 3) := by decide +kernel
theorem dX1_init_25 : decode cX1_init 25 = .ok (.iload_n 1, 1) := by decide +kernel
theorem dX1_init_26 : decode cX1_init 26 = .ok (.new 9, 3) := by decide +kernel
theorem dX1_init_29 : decode cX1_init 29 = .ok (.dup, 1) := by decide +kernel
theorem dX1_init_30 : decode cX1_init 30 = .ok (.invokespecial 17, 3) := by decide +kernel
theorem dX1_init_33 : decode cX1_init 33 = .ok (.aastore, 1) := by decide +kernel
theorem dX1_init_34 : decode cX1_init 34 = .ok (.iinc 1 1, 3) := by decide +kernel
theorem dX1_init_37 : decode cX1_init 37 = .ok (.goto (-22), 3) := by decide +kernel
theorem dX1_init_40 : decode cX1_init 40 = .ok (.return_, 1) := by decide +kernel
set_option maxRecDepth 20000 in
theorem ggX1_push_X2_copy : GoodIn wsX1_push wsX2_copy := goodIn_r _ [8, 9, 10, 11, 12, 13, 14, 15, 16, 17, 18, 22, 23, 24, 25, 26, 27] (by decide +kernel) (by decide +kernel)
set_option maxRecDepth 20000 in
theorem gX1_push_X2_copy : GoodIn wsX1_push (wsV RX1 22 RX2 yX2_copy wsX2_copy) := goodIn_app (goodIn_of _ (by decide +kernel)) ggX1_push_X2_copy
theorem dX1_push_0 : decode cX1_push 0 = .ok (.aload_n 0, 1) := by decide +kernel
theorem dX1_push_1 : decode cX1_push 1 = .ok (.aload_n 0, 1) := by decide +kernel
theorem dX1_push_2 : decode cX1_push 2 = .ok (.getfield 18, 3) := by decide +kernel
theorem dX1_push_5 : decode cX1_push 5 = .ok (.iconst 1, 1) := by decide +kernel
theorem dX1_push_6 : decode cX1_push 6 = .ok (.iadd, 1) := by decide +kernel
theorem dX1_push_7 : decode cX1_push 7 = .ok (.bipush 8, 2) := by decide +kernel
theorem dX1_push_9 : decode cX1_push 9 = .ok (.if_icmp .ge 12, 3) := by decide +kernel
theorem dX1_push_12 : decode cX1_push 12 = .ok (.aload_n 0, 1) := by decide +kernel
theorem dX1_push_13 : decode cX1_push 13 = .ok (.getfield 18, 3) := by decide +kernel
theorem dX1_push_16 : decode cX1_push 16 = .ok (.iconst 1, 1) := by decide +kernel
theorem dX1_push_17 : decode cX1_push 17 = .ok (.iadd, 1) := by decide +kernel
theorem dX1_push_18 : decode cX1_push 18 = .ok (.goto 4, 3) := by decide +kernel
theorem dX1_push_21 : decode cX1_push 21 = .ok (.iconst 0, 1) := by decide +kernel
theorem dX1_push_22 : decode cX1_push 22 = .ok (.putfield 18, 3) := by decide +kernel
theorem dX1_push_25 : decode cX1_push 25 = .ok (.aload_n 0, 1) := by decide +kernel
theorem dX1_push_26 : decode cX1_push 26 = .ok (.getfield 11, 3) := by decide +kernel
theorem dX1_push_29 : decode cX1_push 29 = .ok (.aload_n 0, 1) := by decide +kernel
theorem dX1_push_30 : decode cX1_push 30 = .ok (.getfield 18, 3) := by decide +kernel
theorem dX1_push_33 : decode cX1_push 33 = .ok (.aaload, 1) := by decide +kernel
theorem dX1_push_34 : decode cX1_push 34 = .ok (.aload_n 1, 1) := by decide +kernel
theorem dX1_push_35 : decode cX1_push 35 = .ok (.invokevirtual 22, 3) := by decide +kernel
theorem dX1_push_38 : decode cX1_push 38 = .ok (.aload_n 0, 1) := by decide +kernel
theorem dX1_push_39 : decode cX1_push 39 = .ok (.aload_n 0, 1) := by decide +kernel
theorem dX1_push_40 : decode cX1_push 40 = .ok (.getfield 26, 3) := by decide +kernel
theorem dX1_push_43 : decode cX1_push 43 = .ok (.bipush 8, 2) := by decide +kernel
theorem dX1_push_45 : decode cX1_push 45 = .ok (.if_icmp .ge 12, 3) := by decide +kernel
theorem dX1_push_48 : decode cX1_push 48 = .ok (.aload_n 0, 1) := by decide +kernel
theorem dX1_push_49 : decode cX1_push 49 = .ok (.getfield 26, 3) := by decide +kernel
theorem dX1_push_52 : decode cX1_push 52 = .ok (.iconst 1, 1) := by decide +kernel
theorem dX1_push_53 : decode cX1_push 53 = .ok (.iadd, 1) := by decide +kernel
theorem dX1_push_54 : decode cX1_push 54 = .ok (.goto 7, 3) := by decide +kernel
theorem dX1_push_57 : decode cX1_push 57 = .ok (.aload_n 0, 1) := by decide +kernel
theorem dX1_push_58 : decode cX1_push 58 = .ok (.getfield 26, 3) := by decide +kernel
theorem dX1_push_61 : decode cX1_push 61 = .ok (.putfield 26, 3) := by decide +kernel
theorem dX1_push_64 : decode cX1_push 64 = .ok (.return_, 1) := by decide +kernel
set_option maxRecDepth 20000 in
theorem ggX1_pop_X2_copy : GoodIn wsX1_pop wsX2_copy := goodIn_r _ [8, 9, 10, 11, 12, 13, 14, 15, 16, 17, 18, 22, 23, 24, 25, 26, 27] (by decide +kernel) (by decide +kernel)
set_option maxRecDepth 20000 in
theorem gX1_pop_X2_copy : GoodIn wsX1_pop (wsV RX1 22 RX2 yX2_copy wsX2_copy) := goodIn_app (goodIn_of _ (by decide +kernel)) ggX1_pop_X2_copy
theorem dX1_pop_0 : decode cX1_pop 0 = .ok (.aload_n 1, 1) := by decide +kernel
theorem dX1_pop_1 : decode cX1_pop 1 = .ok (.aload_n 0, 1) := by decide +kernel
theorem dX1_pop_2 : decode cX1_pop 2 = .ok (.getfield 11, 3) := by decide +kernel
theorem dX1_pop_5 : decode cX1_pop 5 = .ok (.aload_n 0, 1) := by decide +kernel
theorem dX1_pop_6 : decode cX1_pop 6 = .ok (.getfield 18, 3) := by decide +kernel
theorem dX1_pop_9 : decode cX1_pop 9 = .ok (.aaload, 1) := by decide +kernel
theorem dX1_pop_10 : decode cX1_pop 10 = .ok (.invokevirtual 22, 3) := by decide +kernel
theorem dX1_pop_13 : decode cX1_pop 13 = .ok (.aload_n 0, 1) := by decide +kernel
theorem dX1_pop_14 : decode cX1_pop 14 = .ok (.aload_n 0, 1) := by decide +kernel
theorem dX1_pop_15 : decode cX1_pop 15 = .ok (.getfield 18, 3) := by decide +kernel
theorem dX1_pop_18 : decode cX1_pop 18 = .ok (.ifCond .le 12, 3) := by decide +kernel
theorem dX1_pop_21 : decode cX1_pop 21 = .ok (.aload_n 0, 1) := by decide +kernel
theorem dX1_pop_22 : decode cX1_pop 22 = .ok (.getfield 18, 3) := by decide +kernel
theorem dX1_pop_25 : decode cX1_pop 25 = .ok (.iconst 1, 1) := by decide +kernel
theorem dX1_pop_26 : decode cX1_pop 26 = .ok (.isub, 1) := by decide +kernel
theorem dX1_pop_27 : decode cX1_pop 27 = .ok (.goto 5, 3) := by decide +kernel
theorem dX1_pop_30 : decode cX1_pop 30 = .ok (.bipush 7, 2) := by decide +kernel
theorem dX1_pop_32 : decode cX1_pop 32 = .ok (.putfield 18, 3) := by decide +kernel
theorem dX1_pop_35 : decode cX1_pop 35 = .ok (.aload_n 0, 1) := by decide +kernel
theorem dX1_pop_36 : decode cX1_pop 36 = .ok (.dup, 1) := by decide +kernel
theorem dX1_pop_37 : decode cX1_pop 37 = .ok (.getfield 26, 3) := by decide +kernel
theorem dX1_pop_40 : decode cX1_pop 40 = .ok (.iconst 1, 1) := by decide +kernel
theorem dX1_pop_41 : decode cX1_pop 41 = .ok (.isub, 1) := by decide +kernel
theorem dX1_pop_42 : decode cX1_pop 42 = .ok (.putfield 26, 3) := by decide +kernel
theorem dX1_pop_45 : decode cX1_pop 45 = .ok (.return_, 1) := by decide +kernel
theorem dX2_init_0 : decode cX2_init 0 = .ok (.aload_n 0, 1) := by decide +kernel
theorem dX2_init_1 : decode cX2_init 1 = .ok (.invokespecial 3, 3) := by decide +kernel
theorem dX2_init_4 : decode cX2_init 4 = .ok (.aload_n 0, 1) := by decide +kernel
theorem dX2_init_5 : decode cX2_init 5 = .ok (.bipush 16, 2) := by decide +kernel
theorem dX2_init_7 : decode cX2_init 7 = .ok (.putfield 9, 3) := by decide +kernel
theorem dX2_init_10 : decode cX2_init 10 = .ok (.aload_n 0, 1) := by decide +kernel
theorem dX2_init_11 : decode cX2_init 11 = .ok (.iconst 1, 1) := by decide +kernel
theorem dX2_init_12 : decode cX2_init 12 = .ok (.putfield 15, 3) := by decide +kernel
theorem dX2_init_15 : decode cX2_init 15 = .ok (.aload_n 0, 1) := by decide +kernel
theorem dX2_init_16 : decode cX2_init 16 = .ok (.bipush 64, 2) := by decide +kernel
theorem dX2_init_18 : decode cX2_init 18 = .ok (.newarray .int, 2) := by decide +kernel
theorem dX2_init_20 : decode cX2_init 20 = .ok (.putfield 18, 3) := by decide +kernel
theorem dX2_init_23 : decode cX2_init 23 = .ok (.aload_n 0, 1) := by decide +kernel
theorem dX2_init_24 : decode cX2_init 24 = .ok (.getstatic 22, 3) := by decide +kernel
theorem dX2_init_27 : decode cX2_init 27 = .ok (.invokevirtual 25, 3) := by decide +kernel
theorem dX2_init_30 : decode cX2_init 30 = .ok (.checkcast 26, 3) := by decide +kernel
theorem dX2_init_33 : decode cX2_init 33 = .ok (.putfield 30, 3) := by decide +kernel
theorem dX2_init_36 : decode cX2_init 36 = .ok (.aload_n 0, 1) := by decide +kernel
theorem dX2_init_37 : decode cX2_init 37 = .ok (.bipush 16, 2) := by decide +kernel
theorem dX2_init_39 : decode cX2_init 39 = .ok (.newarray .int, 2) := by decide +kernel
theorem dX2_init_41 : decode cX2_init 41 = .ok (.putfield 33, 3) := by decide +kernel
theorem dX2_init_44 : decode cX2_init 44 = .ok (.aload_n 0, 1) := by decide +kernel
theorem dX2_init_45 : decode cX2_init 45 = .ok (.bipush 16, 2) := by decide +kernel
theorem dX2_init_47 : decode cX2_init 47 = .ok (.newarray .int, 2) := by decide +kernel
theorem dX2_init_49 : decode cX2_init 49 = .ok (.putfield 36, 3) := by decide +kernel
theorem dX2_init_52 : decode cX2_init 52 = .ok (.return_, 1) := by decide +kernel
theorem dX2_copy_0 : decode cX2_copy 0 = .ok (.aload_n 0, 1) := by decide +kernel
theorem dX2_copy_1 : decode cX2_copy 1 = .ok (.aload_n 1, 1) := by decide +kernel
theorem dX2_copy_2 : decode cX2_copy 2 = .ok (.getfield 9, 3) := by decide +kernel
theorem dX2_copy_5 : decode cX2_copy 5 = .ok (.putfield 9, 3) := by decide +kernel
theorem dX2_copy_8 : decode cX2_copy 8 = .ok (.aload_n 0, 1) := by decide +kernel
theorem dX2_copy_9 : decode cX2_copy 9 = .ok (.aload_n 1, 1) := by decide +kernel
theorem dX2_copy_10 : decode cX2_copy 10 = .ok (.getfield 15, 3) := by decide +kernel
theorem dX2_copy_13 : decode cX2_copy 13 = .ok (.putfield 15, 3) := by decide +kernel
theorem dX2_copy_16 : decode cX2_copy 16 = .ok (.aload_n 1, 1) := by decide +kernel
theorem dX2_copy_17 : decode cX2_copy 17 = .ok (.getfield 18, 3) := by decide +kernel
theorem dX2_copy_20 : decode cX2_copy 20 = .ok (.iconst 0, 1) := by decide +kernel
theorem dX2_copy_21 : decode cX2_copy 21 = .ok (.aload_n 0, 1) := by decide +kernel
theorem dX2_copy_22 : decode cX2_copy 22 = .ok (.getfield 18, 3) := by decide +kernel
theorem dX2_copy_25 : decode cX2_copy 25 = .ok (.iconst 0, 1) := by decide +kernel
theorem dX2_copy_26 : decode cX2_copy 26 = .ok (.bipush 64, 2) := by decide +kernel
theorem dX2_copy_28 : decode cX2_copy 28 = .ok (.invokestatic 39, 3) := by decide +kernel
theorem dX2_copy_31 : decode cX2_copy 31 = .ok (.aload_n 1, 1) := by decide +kernel
theorem dX2_copy_32 : decode cX2_copy 32 = .ok (.getfield 30, 3) := by decide +kernel
theorem dX2_copy_35 : decode cX2_copy 35 = .ok (.iconst 0, 1) := by decide +kernel
theorem dX2_copy_36 : decode cX2_copy 36 = .ok (.aload_n 0, 1) := by decide +kernel
theorem dX2_copy_37 : decode cX2_copy 37 = .ok (.getfield 30, 3) := by decide +kernel
theorem dX2_copy_40 : decode cX2_copy 40 = .ok (.iconst 0, 1) := by decide +kernel
theorem dX2_copy_41 : decode cX2_copy 41 = .ok (.bipush 9, 2) := by decide +kernel
theorem dX2_copy_43 : decode cX2_copy 43 = .ok (.invokestatic 39, 3) := by decide +kernel
theorem dX2_copy_46 : decode cX2_copy 46 = .ok (.aload_n 1, 1) := by decide +kernel
theorem dX2_copy_47 : decode cX2_copy 47 = .ok (.getfield 33, 3) := by decide +kernel
theorem dX2_copy_50 : decode cX2_copy 50 = .ok (.iconst 0, 1) := by decide +kernel
theorem dX2_copy_51 : decode cX2_copy 51 = .ok (.aload_n 0, 1) := by decide +kernel
theorem dX2_copy_52 : decode cX2_copy 52 = .ok (.getfield 33, 3) := by decide +kernel
theorem dX2_copy_55 : decode cX2_copy 55 = .ok (.iconst 0, 1) := by decide +kernel
theorem dX2_copy_56 : decode cX2_copy 56 = .ok (.bipush 16, 2) := by decide +kernel
theorem dX2_copy_58 : decode cX2_copy 58 = .ok (.invokestatic 39, 3) := by decide +kernel
theorem dX2_copy_61 : decode cX2_copy 61 = .ok (.aload_n 1, 1) := by decide +kernel
theorem dX2_copy_62 : decode cX2_copy 62 = .ok (.getfield 36, 3) := by decide +kernel
theorem dX2_copy_65 : decode cX2_copy 65 = .ok (.iconst 0, 1) := by decide +kernel
theorem dX2_copy_66 : decode cX2_copy 66 = .ok (.aload_n 0, 1) := by decide +kernel
theorem dX2_copy_67 : decode cX2_copy 67 = .ok (.getfield 36, 3) := by decide +kernel
theorem dX2_copy_70 : decode cX2_copy 70 = .ok (.iconst 0, 1) := by decide +kernel
theorem dX2_copy_71 : decode cX2_copy 71 = .ok (.bipush 16, 2) := by decide +kernel
theorem dX2_copy_73 : decode cX2_copy 73 = .ok (.invokestatic 39, 3) := by decide +kernel
theorem dX2_copy_76 : decode cX2_copy 76 = .ok (.return_, 1) := by decide +kernel
set_option maxRecDepth 20000 in
theorem ggX2_clear_X2_resetSequence : GoodIn wsX2_clear wsX2_resetSequence := goodIn_r _ [8, 9, 10, 11, 12, 13, 14, 15] (by decide +kernel) (by decide +kernel)
set_option maxRecDepth 20000 in
theorem gX2_clear_X2_resetSequence : GoodIn wsX2_clear (wsV RX2 45 RX2 yX2_resetSequence wsX2_resetSequence) := goodIn_app (goodIn_of _ (by decide +kernel)) ggX2_clear_X2_resetSequence
theorem dX2_clear_0 : decode cX2_clear 0 = .ok (.aload_n 0, 1) := by decide +kernel
theorem dX2_clear_1 : decode cX2_clear 1 = .ok (.iload_n 1, 1) := by decide +kernel
theorem dX2_clear_2 : decode cX2_clear 2 = .ok (.putfield 9, 3) := by decide +kernel
theorem dX2_clear_5 : decode cX2_clear 5 = .ok (.iconst 0, 1) := by decide +kernel
theorem dX2_clear_6 : decode cX2_clear 6 = .ok (.istore_n 2, 1) := by decide +kernel
theorem dX2_clear_7 : decode cX2_clear 7 = .ok (.iload_n 2, 1) := by decide +kernel
theorem dX2_clear_8 : decode cX2_clear 8 = .ok (.bipush 64, 2) := by decide +kernel
theorem dX2_clear_10 : decode cX2_clear 10 = .ok (.if_icmp .ge 16, 3) := by decide +kernel
theorem dX2_clear_13 : decode cX2_clear 13 = .ok (.aload_n 0, 1) := by decide +kernel
theorem dX2_clear_14 : decode cX2_clear 14 = .ok (.getfield 18, 3) := by decide +kernel
theorem dX2_clear_17 : decode cX2_clear 17 = .ok (.iload_n 2, 1) := by decide +kernel
theorem dX2_clear_18 : decode cX2_clear 18 = .ok (.iconst 0, 1) := by decide +kernel
theorem dX2_clear_19 : decode cX2_clear 19 = .ok (.iastore, 1) := by decide +kernel
theorem dX2_clear_20 : decode cX2_clear 20 = .ok (.iinc 2 1, 3) := by decide +kernel
theorem dX2_clear_23 : decode cX2_clear 23 = .ok (.goto (-16), 3) := by decide +kernel
theorem dX2_clear_26 : decode cX2_clear 26 = .ok (.aload_n 0, 1) := by decide +kernel
theorem dX2_clear_27 : decode cX2_clear 27 = .ok (.iconst 1, 1) := by decide +kernel
theorem dX2_clear_28 : decode cX2_clear 28 = .ok (.putfield 15, 3) := by decide +kernel
theorem dX2_clear_31 : decode cX2_clear 31 = .ok (.aload_n 0, 1) := by decide +kernel
theorem dX2_clear_32 : decode cX2_clear 32 = .ok (.invokevirtual 45, 3) := by decide +kernel
theorem dX2_clear_35 : decode cX2_clear 35 = .ok (.return_, 1) := by decide +kernel
theorem dX2_resetSequence_0 : decode cX2_resetSequence 0 = .ok (.iconst 0, 1) := by decide +kernel
theorem dX2_resetSequence_1 : decode cX2_resetSequence 1 = .ok (.istore_n 1, 1) := by decide +kernel
theorem dX2_resetSequence_2 : decode cX2_resetSequence 2 = .ok (.iload_n 1, 1) := by decide +kernel
theorem dX2_resetSequence_3 : decode cX2_resetSequence 3 = .ok (.bipush 16, 2) := by decide +kernel
theorem dX2_resetSequence_5 : decode cX2_resetSequence 5 = .ok (.if_icmp .ge 16, 3) := by decide +kernel
theorem dX2_resetSequence_8 : decode cX2_resetSequence 8 = .ok (.aload_n 0, 1) := by decide +kernel
theorem dX2_resetSequence_9 : decode cX2_resetSequence 9 = .ok (.getfield 36, 3) := by decide +kernel
theorem dX2_resetSequence_12 : decode cX2_resetSequence 12 = .ok (.iload_n 1, 1) := by decide +kernel
theorem dX2_resetSequence_13 : decode cX2_resetSequence 13 = .ok (.iload_n 1, 1) := by decide +kernel
theorem dX2_resetSequence_14 : decode cX2_resetSequence 14 = .ok (.iastore, 1) := by decide +kernel
theorem dX2_resetSequence_15 : decode cX2_resetSequence 15 = .ok (.iinc 1 1, 3) := by decide +kernel
theorem dX2_resetSequence_18 : decode cX2_resetSequence 18 = .ok (.goto (-16), 3) := by decide +kernel
theorem dX2_resetSequence_21 : decode cX2_resetSequence 21 = .ok (.return_, 1) := by decide +kernel
theorem dX2_isFrame_0 : decode cX2_isFrame 0 = .ok (.iload_n 1, 1) := by decide +kernel
theorem dX2_isFrame_1 : decode cX2_isFrame 1 = .ok (.ifCond .lt 15, 3) := by decide +kernel
theorem dX2_isFrame_4 : decode cX2_isFrame 4 = .ok (.iload_n 1, 1) := by decide +kernel
theorem dX2_isFrame_5 : decode cX2_isFrame 5 = .ok (.aload_n 0, 1) := by decide +kernel
theorem dX2_isFrame_6 : decode cX2_isFrame 6 = .ok (.getfield 9, 3) := by decide +kernel
theorem dX2_isFrame_9 : decode cX2_isFrame 9 = .ok (.if_icmp .ge 7, 3) := by decide +kernel
theorem dX2_isFrame_12 : decode cX2_isFrame 12 = .ok (.iconst 1, 1) := by decide +kernel
theorem dX2_isFrame_13 : decode cX2_isFrame 13 = .ok (.goto 4, 3) := by decide +kernel
theorem dX2_isFrame_16 : decode cX2_isFrame 16 = .ok (.iconst 0, 1) := by decide +kernel
theorem dX2_isFrame_17 : decode cX2_isFrame 17 = .ok (.ireturn, 1) := by decide +kernel
theorem dX2_isSlice_0 : decode cX2_isSlice 0 = .ok (.iload_n 1, 1) := by decide +kernel
theorem dX2_isSlice_1 : decode cX2_isSlice 1 = .ok (.ifCond .lt 15, 3) := by decide +kernel
theorem dX2_isSlice_4 : decode cX2_isSlice 4 = .ok (.iload_n 1, 1) := by decide +kernel
theorem dX2_isSlice_5 : decode cX2_isSlice 5 = .ok (.aload_n 0, 1) := by decide +kernel
theorem dX2_isSlice_6 : decode cX2_isSlice 6 = .ok (.getfield 15, 3) := by decide +kernel
theorem dX2_isSlice_9 : decode cX2_isSlice 9 = .ok (.if_icmp .ge 7, 3) := by decide +kernel
theorem dX2_isSlice_12 : decode cX2_isSlice 12 = .ok (.iconst 1, 1) := by decide +kernel
theorem dX2_isSlice_13 : decode cX2_isSlice 13 = .ok (.goto 4, 3) := by decide +kernel
theorem dX2_isSlice_16 : decode cX2_isSlice 16 = .ok (.iconst 0, 1) := by decide +kernel
theorem dX2_isSlice_17 : decode cX2_isSlice 17 = .ok (.ireturn, 1) := by decide +kernel
theorem dX2_isFree_0 : decode cX2_isFree 0 = .ok (.aload_n 0, 1) := by decide +kernel
theorem dX2_isFree_1 : decode cX2_isFree 1 = .ok (.getfield 30, 3) := by decide +kernel
theorem dX2_isFree_4 : decode cX2_isFree 4 = .ok (.bipush 7, 2) := by decide +kernel
theorem dX2_isFree_6 : decode cX2_isFree 6 = .ok (.iaload, 1) := by decide +kernel
theorem dX2_isFree_7 : decode cX2_isFree 7 = .ok (.ifCond .ne 7, 3) := by decide +kernel
theorem dX2_isFree_10 : decode cX2_isFree 10 = .ok (.iconst 1, 1) := by decide +kernel
theorem dX2_isFree_11 : decode cX2_isFree 11 = .ok (.goto 4, 3) := by decide +kernel
theorem dX2_isFree_14 : decode cX2_isFree 14 = .ok (.iconst 0, 1) := by decide +kernel
theorem dX2_isFree_15 : decode cX2_isFree 15 = .ok (.ireturn, 1) := by decide +kernel
theorem dX2_endFrame_0 : decode cX2_endFrame 0 = .ok (.iload_n 1, 1) := by decide +kernel
theorem dX2_endFrame_1 : decode cX2_endFrame 1 = .ok (.iconst 1, 1) := by decide +kernel
theorem dX2_endFrame_2 : decode cX2_endFrame 2 = .ok (.iadd, 1) := by decide +kernel
theorem dX2_endFrame_3 : decode cX2_endFrame 3 = .ok (.aload_n 0, 1) := by decide +kernel
theorem dX2_endFrame_4 : decode cX2_endFrame 4 = .ok (.getfield 15, 3) := by decide +kernel
theorem dX2_endFrame_7 : decode cX2_endFrame 7 = .ok (.if_icmp .ge 14, 3) := by decide +kernel
theorem dX2_endFrame_10 : decode cX2_endFrame 10 = .ok (.aload_n 0, 1) := by decide +kernel
theorem dX2_endFrame_11 : decode cX2_endFrame 11 = .ok (.getfield 33, 3) := by decide +kernel
theorem dX2_endFrame_14 : decode cX2_endFrame 14 = .ok (.iload_n 1, 1) := by decide +kernel
theorem dX2_endFrame_15 : decode cX2_endFrame 15 = .ok (.iconst 1, 1) := by decide +kernel
theorem dX2_endFrame_16 : decode cX2_endFrame 16 = .ok (.iadd, 1) := by decide +kernel
theorem dX2_endFrame_17 : decode cX2_endFrame 17 = .ok (.iaload, 1) := by decide +kernel
theorem dX2_endFrame_18 : decode cX2_endFrame 18 = .ok (.goto 7, 3) := by decide +kernel
theorem dX2_endFrame_21 : decode cX2_endFrame 21 = .ok (.aload_n 0, 1) := by decide +kernel
theorem dX2_endFrame_22 : decode cX2_endFrame 22 = .ok (.getfield 9, 3) := by decide +kernel
theorem dX2_endFrame_25 : decode cX2_endFrame 25 = .ok (.ireturn, 1) := by decide +kernel
set_option maxRecDepth 20000 in
theorem ggX2_lengthOf_X2_endFrame : GoodIn wsX2_lengthOf wsX2_endFrame := goodIn_r _ [7, 8, 1, 9, 10, 11, 12, 13, 14, 15] (by decide +kernel) (by decide +kernel)
set_option maxRecDepth 20000 in
theorem gX2_lengthOf_X2_endFrame : GoodIn wsX2_lengthOf (wsV RX2 48 RX2 yX2_endFrame wsX2_endFrame) := goodIn_app (goodIn_of _ (by decide +kernel)) ggX2_lengthOf_X2_endFrame
theorem dX2_lengthOf_0 : decode cX2_lengthOf 0 = .ok (.aload_n 0, 1) := by decide +kernel
theorem dX2_lengthOf_1 : decode cX2_lengthOf 1 = .ok (.iload_n 1, 1) := by decide +kernel
theorem dX2_lengthOf_2 : decode cX2_lengthOf 2 = .ok (.invokevirtual 48, 3) := by decide +kernel
theorem dX2_lengthOf_5 : decode cX2_lengthOf 5 = .ok (.aload_n 0, 1) := by decide +kernel
theorem dX2_lengthOf_6 : decode cX2_lengthOf 6 = .ok (.getfield 33, 3) := by decide +kernel
theorem dX2_lengthOf_9 : decode cX2_lengthOf 9 = .ok (.iload_n 1, 1) := by decide +kernel
theorem dX2_lengthOf_10 : decode cX2_lengthOf 10 = .ok (.iaload, 1) := by decide +kernel
theorem dX2_lengthOf_11 : decode cX2_lengthOf 11 = .ok (.isub, 1) := by decide +kernel
theorem dX2_lengthOf_12 : decode cX2_lengthOf 12 = .ok (.aload_n 0, 1) := by decide +kernel
theorem dX2_lengthOf_13 : decode cX2_lengthOf 13 = .ok (.getfield 30, 3) := by decide +kernel
theorem dX2_lengthOf_16 : decode cX2_lengthOf 16 = .ok (.iconst 0, 1) := by decide +kernel
theorem dX2_lengthOf_17 : decode cX2_lengthOf 17 = .ok (.iaload, 1) := by decide +kernel
theorem dX2_lengthOf_18 : decode cX2_lengthOf 18 = .ok (.imul, 1) := by decide +kernel
theorem dX2_lengthOf_19 : decode cX2_lengthOf 19 = .ok (.ireturn, 1) := by decide +kernel
theorem dX2_leastBudget_0 : decode cX2_leastBudget 0 = .ok (.iload_n 1, 1) := by decide +kernel
theorem dX2_leastBudget_1 : decode cX2_leastBudget 1 = .ok (.aload_n 0, 1) := by decide +kernel
theorem dX2_leastBudget_2 : decode cX2_leastBudget 2 = .ok (.getfield 30, 3) := by decide +kernel
theorem dX2_leastBudget_5 : decode cX2_leastBudget 5 = .ok (.iconst 3, 1) := by decide +kernel
theorem dX2_leastBudget_6 : decode cX2_leastBudget 6 = .ok (.iaload, 1) := by decide +kernel
theorem dX2_leastBudget_7 : decode cX2_leastBudget 7 = .ok (.imul, 1) := by decide +kernel
theorem dX2_leastBudget_8 : decode cX2_leastBudget 8 = .ok (.bipush 100, 2) := by decide +kernel
theorem dX2_leastBudget_10 : decode cX2_leastBudget 10 = .ok (.idiv, 1) := by decide +kernel
theorem dX2_leastBudget_11 : decode cX2_leastBudget 11 = .ok (.ireturn, 1) := by decide +kernel
theorem dX2_mostBudget_0 : decode cX2_mostBudget 0 = .ok (.iload_n 1, 1) := by decide +kernel
theorem dX2_mostBudget_1 : decode cX2_mostBudget 1 = .ok (.aload_n 0, 1) := by decide +kernel
theorem dX2_mostBudget_2 : decode cX2_mostBudget 2 = .ok (.getfield 30, 3) := by decide +kernel
theorem dX2_mostBudget_5 : decode cX2_mostBudget 5 = .ok (.iconst 4, 1) := by decide +kernel
theorem dX2_mostBudget_6 : decode cX2_mostBudget 6 = .ok (.iaload, 1) := by decide +kernel
theorem dX2_mostBudget_7 : decode cX2_mostBudget 7 = .ok (.imul, 1) := by decide +kernel
theorem dX2_mostBudget_8 : decode cX2_mostBudget 8 = .ok (.bipush 100, 2) := by decide +kernel
theorem dX2_mostBudget_10 : decode cX2_mostBudget 10 = .ok (.idiv, 1) := by decide +kernel
theorem dX2_mostBudget_11 : decode cX2_mostBudget 11 = .ok (.ireturn, 1) := by decide +kernel
set_option maxRecDepth 20000 in
theorem ggX2_loudestFrame_X2_endFrame : GoodIn wsX2_loudestFrame wsX2_endFrame := goodIn_r _ [7, 8, 1, 9, 10, 11, 12, 13, 14, 15] (by decide +kernel) (by decide +kernel)
set_option maxRecDepth 20000 in
theorem gX2_loudestFrame_X2_endFrame : GoodIn wsX2_loudestFrame (wsV RX2 48 RX2 yX2_endFrame wsX2_endFrame) := goodIn_app (goodIn_of _ (by decide +kernel)) ggX2_loudestFrame_X2_endFrame
theorem dX2_loudestFrame_0 : decode cX2_loudestFrame 0 = .ok (.aload_n 0, 1) := by decide +kernel
theorem dX2_loudestFrame_1 : decode cX2_loudestFrame 1 = .ok (.getfield 33, 3) := by decide +kernel
theorem dX2_loudestFrame_4 : decode cX2_loudestFrame 4 = .ok (.iload_n 1, 1) := by decide +kernel
theorem dX2_loudestFrame_5 : decode cX2_loudestFrame 5 = .ok (.iaload, 1) := by decide +kernel
theorem dX2_loudestFrame_6 : decode cX2_loudestFrame 6 = .ok (.istore_n 2, 1) := by decide +kernel
theorem dX2_loudestFrame_7 : decode cX2_loudestFrame 7 = .ok (.aload_n 0, 1) := by decide +kernel
theorem dX2_loudestFrame_8 : decode cX2_loudestFrame 8 = .ok (.iload_n 1, 1) := by decide +kernel
theorem dX2_loudestFrame_9 : decode cX2_loudestFrame 9 = .ok (.invokevirtual 48, 3) := by decide +kernel
theorem dX2_loudestFrame_12 : decode cX2_loudestFrame 12 = .ok (.istore_n 3, 1) := by decide +kernel
theorem dX2_loudestFrame_13 : decode cX2_loudestFrame 13 = .ok (.iload_n 2, 1) := by decide +kernel
theorem dX2_loudestFrame_14 : decode cX2_loudestFrame 14 = .ok (.iconst 1, 1) := by decide +kernel
theorem dX2_loudestFrame_15 : decode cX2_loudestFrame 15 = .ok (.iadd, 1) := by decide +kernel
theorem dX2_loudestFrame_16 : decode cX2_loudestFrame 16 = .ok (.istore 4, 2) := by decide +kernel
theorem dX2_loudestFrame_18 : decode cX2_loudestFrame 18 = .ok (.iload 4, 2) := by decide +kernel
theorem dX2_loudestFrame_20 : decode cX2_loudestFrame 20 = .ok (.iload_n 3, 1) := by decide +kernel
theorem dX2_loudestFrame_21 : decode cX2_loudestFrame 21 = .ok (.if_icmp .ge 28, 3) := by decide +kernel
theorem dX2_loudestFrame_24 : decode cX2_loudestFrame 24 = .ok (.aload_n 0, 1) := by decide +kernel
theorem dX2_loudestFrame_25 : decode cX2_loudestFrame 25 = .ok (.getfield 18, 3) := by decide +kernel
theorem dX2_loudestFrame_28 : decode cX2_loudestFrame 28 = .ok (.iload 4, 2) := by decide +kernel
theorem dX2_loudestFrame_30 : decode cX2_loudestFrame 30 = .ok (.iaload, 1) := by decide +kernel
theorem dX2_loudestFrame_31 : decode cX2_loudestFrame 31 = .ok (.aload_n 0, 1) := by decide +kernel
theorem dX2_loudestFrame_32 : decode cX2_loudestFrame 32 = .ok (.getfield 18, 3) := by decide +kernel
theorem dX2_loudestFrame_35 : decode cX2_loudestFrame 35 = .ok (.iload_n 2, 1) := by decide +kernel
theorem dX2_loudestFrame_36 : decode cX2_loudestFrame 36 = .ok (.iaload, 1) := by decide +kernel
theorem dX2_loudestFrame_37 : decode cX2_loudestFrame 37 = .ok (.if_icmp .le 6, 3) := by decide +kernel
theorem dX2_loudestFrame_40 : decode cX2_loudestFrame 40 = .ok (.iload 4, 2) := by decide +kernel
theorem dX2_loudestFrame_42 : decode cX2_loudestFrame 42 = .ok (.istore_n 2, 1) := by decide +kernel
theorem dX2_loudestFrame_43 : decode cX2_loudestFrame 43 = .ok (.iinc 4 1, 3) := by decide +kernel
theorem dX2_loudestFrame_46 : decode cX2_loudestFrame 46 = .ok (.goto (-28), 3) := by decide +kernel
theorem dX2_loudestFrame_49 : decode cX2_loudestFrame 49 = .ok (.iload_n 2, 1) := by decide +kernel
theorem dX2_loudestFrame_50 : decode cX2_loudestFrame 50 = .ok (.ireturn, 1) := by decide +kernel
theorem dX2_placeOf_0 : decode cX2_placeOf 0 = .ok (.iconst 0, 1) := by decide +kernel
theorem dX2_placeOf_1 : decode cX2_placeOf 1 = .ok (.istore_n 2, 1) := by decide +kernel
theorem dX2_placeOf_2 : decode cX2_placeOf 2 = .ok (.iload_n 2, 1) := by decide +kernel
theorem dX2_placeOf_3 : decode cX2_placeOf 3 = .ok (.aload_n 0, 1) := by decide +kernel
theorem dX2_placeOf_4 : decode cX2_placeOf 4 = .ok (.getfield 15, 3) := by decide +kernel
theorem dX2_placeOf_7 : decode cX2_placeOf 7 = .ok (.iconst 1, 1) := by decide +kernel
theorem dX2_placeOf_8 : decode cX2_placeOf 8 = .ok (.isub, 1) := by decide +kernel
theorem dX2_placeOf_9 : decode cX2_placeOf 9 = .ok (.if_icmp .ge 19, 3) := by decide +kernel
theorem dX2_placeOf_12 : decode cX2_placeOf 12 = .ok (.aload_n 0, 1) := by decide +kernel
theorem dX2_placeOf_13 : decode cX2_placeOf 13 = .ok (.getfield 36, 3) := by decide +kernel
theorem dX2_placeOf_16 : decode cX2_placeOf 16 = .ok (.iload_n 2, 1) := by decide +kernel
theorem dX2_placeOf_17 : decode cX2_placeOf 17 = .ok (.iaload, 1) := by decide +kernel
theorem dX2_placeOf_18 : decode cX2_placeOf 18 = .ok (.iload_n 1, 1) := by decide +kernel
theorem dX2_placeOf_19 : decode cX2_placeOf 19 = .ok (.if_icmp .eq 9, 3) := by decide +kernel
theorem dX2_placeOf_22 : decode cX2_placeOf 22 = .ok (.iinc 2 1, 3) := by decide +kernel
theorem dX2_placeOf_25 : decode cX2_placeOf 25 = .ok (.goto (-23), 3) := by decide +kernel
theorem dX2_placeOf_28 : decode cX2_placeOf 28 = .ok (.iload_n 2, 1) := by decide +kernel
theorem dX2_placeOf_29 : decode cX2_placeOf 29 = .ok (.ireturn, 1) := by decide +kernel
theorem dX2_exchange_0 : decode cX2_exchange 0 = .ok (.aload_n 0, 1) := by decide +kernel
theorem dX2_exchange_1 : decode cX2_exchange 1 = .ok (.getfield 36, 3) := by decide +kernel
theorem dX2_exchange_4 : decode cX2_exchange 4 = .ok (.iload_n 1, 1) := by decide +kernel
theorem dX2_exchange_5 : decode cX2_exchange 5 = .ok (.iaload, 1) := by decide +kernel
theorem dX2_exchange_6 : decode cX2_exchange 6 = .ok (.istore_n 3, 1) := by decide +kernel
theorem dX2_exchange_7 : decode cX2_exchange 7 = .ok (.aload_n 0, 1) := by decide +kernel
theorem dX2_exchange_8 : decode cX2_exchange 8 = .ok (.getfield 36, 3) := by decide +kernel
theorem dX2_exchange_11 : decode cX2_exchange 11 = .ok (.iload_n 1, 1) := by decide +kernel
theorem dX2_exchange_12 : decode cX2_exchange 12 = .ok (.aload_n 0, 1) := by decide +kernel
theorem dX2_exchange_13 : decode cX2_exchange 13 = .ok (.getfield 36, 3) := by decide +kernel
theorem dX2_exchange_16 : decode cX2_exchange 16 = .ok (.iload_n 2, 1) := by decide +kernel
theorem dX2_exchange_17 : decode cX2_exchange 17 = .ok (.iaload, 1) := by decide +kernel
theorem dX2_exchange_18 : decode cX2_exchange 18 = .ok (.iastore, 1) := by decide +kernel
theorem dX2_exchange_19 : decode cX2_exchange 19 = .ok (.aload_n 0, 1) := by decide +kernel
theorem dX2_exchange_20 : decode cX2_exchange 20 = .ok (.getfield 36, 3) := by decide +kernel
theorem dX2_exchange_23 : decode cX2_exchange 23 = .ok (.iload_n 2, 1) := by decide +kernel
theorem dX2_exchange_24 : decode cX2_exchange 24 = .ok (.iload_n 3, 1) := by decide +kernel
theorem dX2_exchange_25 : decode cX2_exchange 25 = .ok (.iastore, 1) := by decide +kernel
theorem dX2_exchange_26 : decode cX2_exchange 26 = .ok (.return_, 1) := by decide +kernel
theorem dX2_marksBefore_0 : decode cX2_marksBefore 0 = .ok (.iconst 0, 1) := by decide +kernel
theorem dX2_marksBefore_1 : decode cX2_marksBefore 1 = .ok (.istore_n 2, 1) := by decide +kernel
theorem dX2_marksBefore_2 : decode cX2_marksBefore 2 = .ok (.iload_n 2, 1) := by decide +kernel
theorem dX2_marksBefore_3 : decode cX2_marksBefore 3 = .ok (.aload_n 0, 1) := by decide +kernel
theorem dX2_marksBefore_4 : decode cX2_marksBefore 4 = .ok (.getfield 15, 3) := by decide +kernel
theorem dX2_marksBefore_7 : decode cX2_marksBefore 7 = .ok (.if_icmp .ge 19, 3) := by decide +kernel
theorem dX2_marksBefore_10 : decode cX2_marksBefore 10 = .ok (.aload_n 0, 1) := by decide +kernel
theorem dX2_marksBefore_11 : decode cX2_marksBefore 11 = .ok (.getfield 33, 3) := by decide +kernel
theorem dX2_marksBefore_14 : decode cX2_marksBefore 14 = .ok (.iload_n 2, 1) := by decide +kernel
theorem dX2_marksBefore_15 : decode cX2_marksBefore 15 = .ok (.iaload, 1) := by decide +kernel
theorem dX2_marksBefore_16 : decode cX2_marksBefore 16 = .ok (.iload_n 1, 1) := by decide +kernel
theorem dX2_marksBefore_17 : decode cX2_marksBefore 17 = .ok (.if_icmp .ge 9, 3) := by decide +kernel
theorem dX2_marksBefore_20 : decode cX2_marksBefore 20 = .ok (.iinc 2 1, 3) := by decide +kernel
theorem dX2_marksBefore_23 : decode cX2_marksBefore 23 = .ok (.goto (-21), 3) := by decide +kernel
theorem dX2_marksBefore_26 : decode cX2_marksBefore 26 = .ok (.iload_n 2, 1) := by decide +kernel
theorem dX2_marksBefore_27 : decode cX2_marksBefore 27 = .ok (.ireturn, 1) := by decide +kernel
set_option maxRecDepth 20000 in
theorem ggX2_insertMark_X2_resetSequence : GoodIn wsX2_insertMark wsX2_resetSequence := goodIn_r _ [7, 8, 9, 10, 11, 12, 13, 14] (by decide +kernel) (by decide +kernel)
set_option maxRecDepth 20000 in
theorem gX2_insertMark_X2_resetSequence : GoodIn wsX2_insertMark (wsV RX2 45 RX2 yX2_resetSequence wsX2_resetSequence) := goodIn_app (goodIn_of _ (by decide +kernel)) ggX2_insertMark_X2_resetSequence
theorem dX2_insertMark_0 : decode cX2_insertMark 0 = .ok (.aload_n 0, 1) := by decide +kernel
theorem dX2_insertMark_1 : decode cX2_insertMark 1 = .ok (.getfield 15, 3) := by decide +kernel
theorem dX2_insertMark_4 : decode cX2_insertMark 4 = .ok (.istore_n 3, 1) := by decide +kernel
theorem dX2_insertMark_5 : decode cX2_insertMark 5 = .ok (.iload_n 3, 1) := by decide +kernel
theorem dX2_insertMark_6 : decode cX2_insertMark 6 = .ok (.iload_n 1, 1) := by decide +kernel
theorem dX2_insertMark_7 : decode cX2_insertMark 7 = .ok (.if_icmp .le 23, 3) := by decide +kernel
theorem dX2_insertMark_10 : decode cX2_insertMark 10 = .ok (.aload_n 0, 1) := by decide +kernel
theorem dX2_insertMark_11 : decode cX2_insertMark 11 = .ok (.getfield 33, 3) := by decide +kernel
theorem dX2_insertMark_14 : decode cX2_insertMark 14 = .ok (.iload_n 3, 1) := by decide +kernel
theorem dX2_insertMark_15 : decode cX2_insertMark 15 = .ok (.aload_n 0, 1) := by decide +kernel
theorem dX2_insertMark_16 : decode cX2_insertMark 16 = .ok (.getfield 33, 3) := by decide +kernel
theorem dX2_insertMark_19 : decode cX2_insertMark 19 = .ok (.iload_n 3, 1) := by decide +kernel
theorem dX2_insertMark_20 : decode cX2_insertMark 20 = .ok (.iconst 1, 1) := by decide +kernel
theorem dX2_insertMark_21 : decode cX2_insertMark 21 = .ok (.isub, 1) := by decide +kernel
theorem dX2_insertMark_22 : decode cX2_insertMark 22 = .ok (.iaload, 1) := by decide +kernel
theorem dX2_insertMark_23 : decode cX2_insertMark 23 = .ok (.iastore, 1) := by decide +kernel
theorem dX2_insertMark_24 : decode cX2_insertMark 24 = .ok (.iinc 3 (-1), 3) := by decide +kernel
theorem dX2_insertMark_27 : decode cX2_insertMark 27 = .ok (.goto (-22), 3) := by decide +kernel
theorem dX2_insertMark_30 : decode cX2_insertMark 30 = .ok (.aload_n 0, 1) := by decide +kernel
theorem dX2_insertMark_31 : decode cX2_insertMark 31 = .ok (.getfield 33, 3) := by decide +kernel
theorem dX2_insertMark_34 : decode cX2_insertMark 34 = .ok (.iload_n 1, 1) := by decide +kernel
theorem dX2_insertMark_35 : decode cX2_insertMark 35 = .ok (.iload_n 2, 1) := by decide +kernel
theorem dX2_insertMark_36 : decode cX2_insertMark 36 = .ok (.iastore, 1) := by decide +kernel
theorem dX2_insertMark_37 : decode cX2_insertMark 37 = .ok (.aload_n 0, 1) := by decide +kernel
theorem dX2_insertMark_38 : decode cX2_insertMark 38 = .ok (.dup, 1) := by decide +kernel
theorem dX2_insertMark_39 : decode cX2_insertMark 39 = .ok (.getfield 15, 3) := by decide +kernel
theorem dX2_insertMark_42 : decode cX2_insertMark 42 = .ok (.iconst 1, 1) := by decide +kernel
theorem dX2_insertMark_43 : decode cX2_insertMark 43 = .ok (.iadd, 1) := by decide +kernel
theorem dX2_insertMark_44 : decode cX2_insertMark 44 = .ok (.putfield 15, 3) := by decide +kernel
theorem dX2_insertMark_47 : decode cX2_insertMark 47 = .ok (.aload_n 0, 1) := by decide +kernel
theorem dX2_insertMark_48 : decode cX2_insertMark 48 = .ok (.invokevirtual 45, 3) := by decide +kernel
theorem dX2_insertMark_51 : decode cX2_insertMark 51 = .ok (.return_, 1) := by decide +kernel
set_option maxRecDepth 20000 in
theorem ggX2_removeMark_X2_resetSequence : GoodIn wsX2_removeMark wsX2_resetSequence := goodIn_r _ [7, 8, 9, 10, 11, 12, 13, 14] (by decide +kernel) (by decide +kernel)
set_option maxRecDepth 20000 in
theorem gX2_removeMark_X2_resetSequence : GoodIn wsX2_removeMark (wsV RX2 45 RX2 yX2_resetSequence wsX2_resetSequence) := goodIn_app (goodIn_of _ (by decide +kernel)) ggX2_removeMark_X2_resetSequence
theorem dX2_removeMark_0 : decode cX2_removeMark 0 = .ok (.iload_n 1, 1) := by decide +kernel
theorem dX2_removeMark_1 : decode cX2_removeMark 1 = .ok (.istore_n 2, 1) := by decide +kernel
theorem dX2_removeMark_2 : decode cX2_removeMark 2 = .ok (.iload_n 2, 1) := by decide +kernel
theorem dX2_removeMark_3 : decode cX2_removeMark 3 = .ok (.aload_n 0, 1) := by decide +kernel
theorem dX2_removeMark_4 : decode cX2_removeMark 4 = .ok (.getfield 15, 3) := by decide +kernel
theorem dX2_removeMark_7 : decode cX2_removeMark 7 = .ok (.iconst 1, 1) := by decide +kernel
theorem dX2_removeMark_8 : decode cX2_removeMark 8 = .ok (.isub, 1) := by decide +kernel
theorem dX2_removeMark_9 : decode cX2_removeMark 9 = .ok (.if_icmp .ge 23, 3) := by decide +kernel
theorem dX2_removeMark_12 : decode cX2_removeMark 12 = .ok (.aload_n 0, 1) := by decide +kernel
theorem dX2_removeMark_13 : decode cX2_removeMark 13 = .ok (.getfield 33, 3) := by decide +kernel
theorem dX2_removeMark_16 : decode cX2_removeMark 16 = .ok (.iload_n 2, 1) := by decide +kernel
theorem dX2_removeMark_17 : decode cX2_removeMark 17 = .ok (.aload_n 0, 1) := by decide +kernel
theorem dX2_removeMark_18 : decode cX2_removeMark 18 = .ok (.getfield 33, 3) := by decide +kernel
theorem dX2_removeMark_21 : decode cX2_removeMark 21 = .ok (.iload_n 2, 1) := by decide +kernel
theorem dX2_removeMark_22 : decode cX2_removeMark 22 = .ok (.iconst 1, 1) := by decide +kernel
theorem dX2_removeMark_23 : decode cX2_removeMark 23 = .ok (.iadd, 1) := by decide +kernel
theorem dX2_removeMark_24 : decode cX2_removeMark 24 = .ok (.iaload, 1) := by decide +kernel
theorem dX2_removeMark_25 : decode cX2_removeMark 25 = .ok (.iastore, 1) := by decide +kernel
theorem dX2_removeMark_26 : decode cX2_removeMark 26 = .ok (.iinc 2 1, 3) := by decide +kernel
theorem dX2_removeMark_29 : decode cX2_removeMark 29 = .ok (.goto (-27), 3) := by decide +kernel
theorem dX2_removeMark_32 : decode cX2_removeMark 32 = .ok (.aload_n 0, 1) := by decide +kernel
theorem dX2_removeMark_33 : decode cX2_removeMark 33 = .ok (.dup, 1) := by decide +kernel
theorem dX2_removeMark_34 : decode cX2_removeMark 34 = .ok (.getfield 15, 3) := by decide +kernel
theorem dX2_removeMark_37 : decode cX2_removeMark 37 = .ok (.iconst 1, 1) := by decide +kernel
theorem dX2_removeMark_38 : decode cX2_removeMark 38 = .ok (.isub, 1) := by decide +kernel
theorem dX2_removeMark_39 : decode cX2_removeMark 39 = .ok (.putfield 15, 3) := by decide +kernel
theorem dX2_removeMark_42 : decode cX2_removeMark 42 = .ok (.aload_n 0, 1) := by decide +kernel
theorem dX2_removeMark_43 : decode cX2_removeMark 43 = .ok (.invokevirtual 45, 3) := by decide +kernel
theorem dX2_removeMark_46 : decode cX2_removeMark 46 = .ok (.return_, 1) := by decide +kernel
theorem dX2_findRises_0 : decode cX2_findRises 0 = .ok (.aload_n 2, 1) := by decide +kernel
theorem dX2_findRises_1 : decode cX2_findRises 1 = .ok (.iconst 0, 1) := by decide +kernel
theorem dX2_findRises_2 : decode cX2_findRises 2 = .ok (.iconst 0, 1) := by decide +kernel
theorem dX2_findRises_3 : decode cX2_findRises 3 = .ok (.iastore, 1) := by decide +kernel
theorem dX2_findRises_4 : decode cX2_findRises 4 = .ok (.iconst 1, 1) := by decide +kernel
theorem dX2_findRises_5 : decode cX2_findRises 5 = .ok (.istore_n 3, 1) := by decide +kernel
theorem dX2_findRises_6 : decode cX2_findRises 6 = .ok (.iconst 1, 1) := by decide +kernel
theorem dX2_findRises_7 : decode cX2_findRises 7 = .ok (.istore 4, 2) := by decide +kernel
theorem dX2_findRises_9 : decode cX2_findRises 9 = .ok (.iload 4, 2) := by decide +kernel
theorem dX2_findRises_11 : decode cX2_findRises 11 = .ok (.aload_n 0, 1) := by decide +kernel
theorem dX2_findRises_12 : decode cX2_findRises 12 = .ok (.getfield 9, 3) := by decide +kernel
theorem dX2_findRises_15 : decode cX2_findRises 15 = .ok (.if_icmp .ge 65, 3) := by decide +kernel
theorem dX2_findRises_18 : decode cX2_findRises 18 = .ok (.iload_n 3, 1) := by decide +kernel
theorem dX2_findRises_19 : decode cX2_findRises 19 = .ok (.bipush 16, 2) := by decide +kernel
theorem dX2_findRises_21 : decode cX2_findRises 21 = .ok (.if_icmp .ge 59, 3) := by decide +kernel
theorem dX2_findRises_24 : decode cX2_findRises 24 = .ok (.aload_n 0, 1) := by decide +kernel
theorem dX2_findRises_25 : decode cX2_findRises 25 = .ok (.getfield 18, 3) := by decide +kernel
theorem dX2_findRises_28 : decode cX2_findRises 28 = .ok (.iload 4, 2) := by decide +kernel
theorem dX2_findRises_30 : decode cX2_findRises 30 = .ok (.iaload, 1) := by decide +kernel
theorem dX2_findRises_31 : decode cX2_findRises 31 = .ok (.aload_n 0, 1) := by decide +kernel
theorem dX2_findRises_32 : decode cX2_findRises 32 = .ok (.getfield 18, 3) := by decide +kernel
theorem dX2_findRises_35 : decode cX2_findRises 35 = .ok (.iload 4, 2) := by decide +kernel
theorem dX2_findRises_37 : decode cX2_findRises 37 = .ok (.iconst 1, 1) := by decide +kernel
theorem dX2_findRises_38 : decode cX2_findRises 38 = .ok (.isub, 1) := by decide +kernel
theorem dX2_findRises_39 : decode cX2_findRises 39 = .ok (.iaload, 1) := by decide +kernel
theorem dX2_findRises_40 : decode cX2_findRises 40 = .ok (.isub, 1) := by decide +kernel
theorem dX2_findRises_41 : decode cX2_findRises 41 = .ok (.istore 5, 2) := by decide +kernel
theorem dX2_findRises_43 : decode cX2_findRises 43 = .ok (.iload 5, 2) := by decide +kernel
theorem dX2_findRises_45 : decode cX2_findRises 45 = .ok (.iload_n 1, 1) := by decide +kernel
theorem dX2_findRises_46 : decode cX2_findRises 46 = .ok (.if_icmp .lt 28, 3) := by decide +kernel
theorem dX2_findRises_49 : decode cX2_findRises 49 = .ok (.iload 4, 2) := by decide +kernel
theorem dX2_findRises_51 : decode cX2_findRises 51 = .ok (.aload_n 2, 1) := by decide +kernel
theorem dX2_findRises_52 : decode cX2_findRises 52 = .ok (.iload_n 3, 1) := by decide +kernel
theorem dX2_findRises_53 : decode cX2_findRises 53 = .ok (.iconst 1, 1) := by decide +kernel
theorem dX2_findRises_54 : decode cX2_findRises 54 = .ok (.isub, 1) := by decide +kernel
theorem dX2_findRises_55 : decode cX2_findRises 55 = .ok (.iaload, 1) := by decide +kernel
theorem dX2_findRises_56 : decode cX2_findRises 56 = .ok (.isub, 1) := by decide +kernel
theorem dX2_findRises_57 : decode cX2_findRises 57 = .ok (.aload_n 0, 1) := by decide +kernel
theorem dX2_findRises_58 : decode cX2_findRises 58 = .ok (.getfield 30, 3) := by decide +kernel
theorem dX2_findRises_61 : decode cX2_findRises 61 = .ok (.iconst 2, 1) := by decide +kernel
theorem dX2_findRises_62 : decode cX2_findRises 62 = .ok (.iaload, 1) := by decide +kernel
theorem dX2_findRises_63 : decode cX2_findRises 63 = .ok (.if_icmp .lt 11, 3) := by decide +kernel
theorem dX2_findRises_66 : decode cX2_findRises 66 = .ok (.aload_n 2, 1) := by decide +kernel
theorem dX2_findRises_67 : decode cX2_findRises 67 = .ok (.iload_n 3, 1) := by decide +kernel
theorem dX2_findRises_68 : decode cX2_findRises 68 = .ok (.iload 4, 2) := by decide +kernel
theorem dX2_findRises_70 : decode cX2_findRises 70 = .ok (.iastore, 1) := by decide +kernel
theorem dX2_findRises_71 : decode cX2_findRises 71 = .ok (.iinc 3 1, 3) := by decide +kernel
theorem dX2_findRises_74 : decode cX2_findRises 74 = .ok (.iinc 4 1, 3) := by decide +kernel
theorem dX2_findRises_77 : decode cX2_findRises 77 = .ok (.goto (-68), 3) := by decide +kernel
theorem dX2_findRises_80 : decode cX2_findRises 80 = .ok (.iload_n 3, 1) := by decide +kernel
theorem dX2_findRises_81 : decode cX2_findRises 81 = .ok (.ireturn, 1) := by decide +kernel
theorem dX3_init_0 : decode cX3_init 0 = .ok (.aload_n 0, 1) := by decide +kernel
theorem dX3_init_1 : decode cX3_init 1 = .ok (.invokespecial 3, 3) := by decide +kernel
theorem dX3_init_4 : decode cX3_init 4 = .ok (.aload_n 0, 1) := by decide +kernel
theorem dX3_init_5 : decode cX3_init 5 = .ok (.bipush 16, 2) := by decide +kernel
theorem dX3_init_7 : decode cX3_init 7 = .ok (.newarray .int, 2) := by decide +kernel
theorem dX3_init_9 : decode cX3_init 9 = .ok (.putfield 9, 3) := by decide +kernel
theorem dX3_init_12 : decode cX3_init 12 = .ok (.aload_n 0, 1) := by decide +kernel
theorem dX3_init_13 : decode cX3_init 13 = .ok (.bipush 16, 2) := by decide +kernel
theorem dX3_init_15 : decode cX3_init 15 = .ok (.newarray .long, 2) := by decide +kernel
theorem dX3_init_17 : decode cX3_init 17 = .ok (.putfield 15, 3) := by decide +kernel
theorem dX3_init_20 : decode cX3_init 20 = .ok (.aload_n 0, 1) := by decide +kernel
theorem dX3_init_21 : decode cX3_init 21 = .ok (.aload_n 1, 1) := by decide +kernel
theorem dX3_init_22 : decode cX3_init 22 = .ok (.putfield 19, 3) := by decide +kernel
theorem dX3_init_25 : decode cX3_init 25 = .ok (.aload_n 0, 1) := by decide +kernel
theorem dX3_init_26 : decode cX3_init 26 = .ok (.aload_n 2, 1) := by decide +kernel
theorem dX3_init_27 : decode cX3_init 27 = .ok (.putfield 23, 3) := by decide +kernel
theorem dX3_init_30 : decode cX3_init 30 = .ok (.return_, 1) := by decide +kernel
set_option maxRecDepth 20000 in
theorem ggX3_lay_X2_isFree : GoodIn wsX3_lay wsX2_isFree := goodIn_r _ [9, 10, 104, 105, 106, 107, 108, 109] (by decide +kernel) (by decide +kernel)
set_option maxRecDepth 20000 in
theorem gX3_lay_X2_isFree : GoodIn wsX3_lay (wsV RX3 27 RX2 yX2_isFree wsX2_isFree) := goodIn_app (goodIn_of _ (by decide +kernel)) ggX3_lay_X2_isFree
set_option maxRecDepth 20000 in
theorem ggX3_lay_X3_shareFreely : GoodIn wsX3_lay wsX3_shareFreely := goodIn_r _ [15, 1, 16, 17, 3, 4, 18, 19, 20, 21, 8, 22, 23, 10, 24, 25, 26, 27, 28, 29, 30, 31, 32, 14, 33, 34, 100, 101, 102, 103, 104, 105, 106, 107, 108, 109] (by decide +kernel) (by decide +kernel)
set_option maxRecDepth 20000 in
theorem gX3_lay_X3_shareFreely : GoodIn wsX3_lay (wsV RX3 33 RX3 yX3_shareFreely wsX3_shareFreely) := goodIn_app (goodIn_of _ (by decide +kernel)) ggX3_lay_X3_shareFreely
set_option maxRecDepth 20000 in
theorem ggX3_lay_X0_draw : GoodIn wsX3_lay wsX0_draw := goodIn_r _ [39, 40, 41, 42, 43, 44, 45, 46, 38, 47, 48, 49, 50, 51, 52, 53, 54, 55, 56, 57, 58, 20, 21, 8, 22, 23, 10, 24, 25, 26, 27, 28, 29, 59, 60, 61, 62, 63, 64, 65, 66, 67, 68, 69, 70, 71, 72, 73, 74, 75, 76, 77, 78, 79, 80, 81, 82, 83, 84, 85, 86, 87, 88, 89, 90, 91, 92, 93, 94, 95, 110, 111, 112, 113, 114, 115, 116, 117, 104, 105, 106, 107, 108, 109] (by decide +kernel) (by decide +kernel)
set_option maxRecDepth 20000 in
theorem gX3_lay_X0_draw : GoodIn wsX3_lay (wsV RX3 36 RX0 yX0_draw wsX0_draw) := goodIn_app (goodIn_of _ (by decide +kernel)) ggX3_lay_X0_draw
set_option maxRecDepth 20000 in
theorem ggX3_lay_X0_budgetOf : GoodIn wsX3_lay wsX0_budgetOf := goodIn_r _ [99, 55, 42, 110, 111, 112, 113, 114, 115, 116, 117] (by decide +kernel) (by decide +kernel)
set_option maxRecDepth 20000 in
theorem gX3_lay_X0_budgetOf : GoodIn wsX3_lay (wsV RX3 45 RX0 yX0_budgetOf wsX0_budgetOf) := goodIn_app (goodIn_of _ (by decide +kernel)) ggX3_lay_X0_budgetOf
theorem dX3_lay_0 : decode cX3_lay 0 = .ok (.aload_n 0, 1) := by decide +kernel
theorem dX3_lay_1 : decode cX3_lay 1 = .ok (.getfield 19, 3) := by decide +kernel
theorem dX3_lay_4 : decode cX3_lay 4 = .ok (.invokevirtual 27, 3) := by decide +kernel
theorem dX3_lay_7 : decode cX3_lay 7 = .ok (.ifCond .eq 9, 3) := by decide +kernel
theorem dX3_lay_10 : decode cX3_lay 10 = .ok (.aload_n 0, 1) := by decide +kernel
theorem dX3_lay_11 : decode cX3_lay 11 = .ok (.invokevirtual 33, 3) := by decide +kernel
theorem dX3_lay_14 : decode cX3_lay 14 = .ok (.iconst 1, 1) := by decide +kernel
theorem dX3_lay_15 : decode cX3_lay 15 = .ok (.ireturn, 1) := by decide +kernel
theorem dX3_lay_16 : decode cX3_lay 16 = .ok (.aload_n 0, 1) := by decide +kernel
theorem dX3_lay_17 : decode cX3_lay 17 = .ok (.getfield 23, 3) := by decide +kernel
theorem dX3_lay_20 : decode cX3_lay 20 = .ok (.invokevirtual 36, 3) := by decide +kernel
theorem dX3_lay_23 : decode cX3_lay 23 = .ok (.ifCond .ne 5, 3) := by decide +kernel
theorem dX3_lay_26 : decode cX3_lay 26 = .ok (.iconst 0, 1) := by decide +kernel
theorem dX3_lay_27 : decode cX3_lay 27 = .ok (.ireturn, 1) := by decide +kernel
theorem dX3_lay_28 : decode cX3_lay 28 = .ok (.iconst 0, 1) := by decide +kernel
theorem dX3_lay_29 : decode cX3_lay 29 = .ok (.istore_n 1, 1) := by decide +kernel
theorem dX3_lay_30 : decode cX3_lay 30 = .ok (.iload_n 1, 1) := by decide +kernel
theorem dX3_lay_31 : decode cX3_lay 31 = .ok (.aload_n 0, 1) := by decide +kernel
theorem dX3_lay_32 : decode cX3_lay 32 = .ok (.getfield 19, 3) := by decide +kernel
theorem dX3_lay_35 : decode cX3_lay 35 = .ok (.getfield 41, 3) := by decide +kernel
theorem dX3_lay_38 : decode cX3_lay 38 = .ok (.if_icmp .ge 23, 3) := by decide +kernel
theorem dX3_lay_41 : decode cX3_lay 41 = .ok (.aload_n 0, 1) := by decide +kernel
theorem dX3_lay_42 : decode cX3_lay 42 = .ok (.getfield 9, 3) := by decide +kernel
theorem dX3_lay_45 : decode cX3_lay 45 = .ok (.iload_n 1, 1) := by decide +kernel
theorem dX3_lay_46 : decode cX3_lay 46 = .ok (.aload_n 0, 1) := by decide +kernel
theorem dX3_lay_47 : decode cX3_lay 47 = .ok (.getfield 23, 3) := by decide +kernel
theorem dX3_lay_50 : decode cX3_lay 50 = .ok (.iload_n 1, 1) := by decide +kernel
theorem dX3_lay_51 : decode cX3_lay 51 = .ok (.invokevirtual 45, 3) := by decide +kernel
theorem dX3_lay_54 : decode cX3_lay 54 = .ok (.iastore, 1) := by decide +kernel
theorem dX3_lay_55 : decode cX3_lay 55 = .ok (.iinc 1 1, 3) := by decide +kernel
theorem dX3_lay_58 : decode cX3_lay 58 = .ok (.goto (-28), 3) := by decide +kernel
theorem dX3_lay_61 : decode cX3_lay 61 = .ok (.iconst 1, 1) := by decide +kernel
theorem dX3_lay_62 : decode cX3_lay 62 = .ok (.ireturn, 1) := by decide +kernel
set_option maxRecDepth 20000 in
theorem ggX3_shareFreely_X2_lengthOf : GoodIn wsX3_shareFreely wsX2_lengthOf := goodIn_r _ [11, 12, 13, 14, 15, 16, 10, 17, 18, 19, 30, 31, 32, 33, 34, 35] (by decide +kernel) (by decide +kernel)
set_option maxRecDepth 20000 in
theorem gX3_shareFreely_X2_lengthOf : GoodIn wsX3_shareFreely (wsV RX3 55 RX2 yX2_lengthOf wsX2_lengthOf) := goodIn_app (goodIn_of _ (by decide +kernel)) ggX3_shareFreely_X2_lengthOf
set_option maxRecDepth 20000 in
theorem ggX3_shareFreely_X3_giveOne : GoodIn wsX3_shareFreely wsX3_giveOne := goodIn_r _ [24, 1, 4, 6, 5, 25, 26, 27, 28, 29, 30, 31, 32, 33, 34, 35] (by decide +kernel) (by decide +kernel)
set_option maxRecDepth 20000 in
theorem gX3_shareFreely_X3_giveOne : GoodIn wsX3_shareFreely (wsV RX3 58 RX3 yX3_giveOne wsX3_giveOne) := goodIn_app (goodIn_of _ (by decide +kernel)) ggX3_shareFreely_X3_giveOne
theorem dX3_shareFreely_0 : decode cX3_shareFreely 0 = .ok (.aload_n 0, 1) := by decide +kernel
theorem dX3_shareFreely_1 : decode cX3_shareFreely 1 = .ok (.getfield 19, 3) := by decide +kernel
theorem dX3_shareFreely_4 : decode cX3_shareFreely 4 = .ok (.getfield 49, 3) := by decide +kernel
theorem dX3_shareFreely_7 : decode cX3_shareFreely 7 = .ok (.iconst 5, 1) := by decide +kernel
theorem dX3_shareFreely_8 : decode cX3_shareFreely 8 = .ok (.iaload, 1) := by decide +kernel
theorem dX3_shareFreely_9 : decode cX3_shareFreely 9 = .ok (.i2l, 1) := by decide +kernel
theorem dX3_shareFreely_10 : decode cX3_shareFreely 10 = .ok (.lstore_n 1, 1) := by decide +kernel
theorem dX3_shareFreely_11 : decode cX3_shareFreely 11 = .ok (.aload_n 0, 1) := by decide +kernel
theorem dX3_shareFreely_12 : decode cX3_shareFreely 12 = .ok (.getfield 19, 3) := by decide +kernel
theorem dX3_shareFreely_15 : decode cX3_shareFreely 15 = .ok (.getfield 52, 3) := by decide +kernel
theorem dX3_shareFreely_18 : decode cX3_shareFreely 18 = .ok (.i2l, 1) := by decide +kernel
theorem dX3_shareFreely_19 : decode cX3_shareFreely 19 = .ok (.aload_n 0, 1) := by decide +kernel
theorem dX3_shareFreely_20 : decode cX3_shareFreely 20 = .ok (.getfield 19, 3) := by decide +kernel
theorem dX3_shareFreely_23 : decode cX3_shareFreely 23 = .ok (.getfield 49, 3) := by decide +kernel
theorem dX3_shareFreely_26 : decode cX3_shareFreely 26 = .ok (.iconst 0, 1) := by decide +kernel
theorem dX3_shareFreely_27 : decode cX3_shareFreely 27 = .ok (.iaload, 1) := by decide +kernel
theorem dX3_shareFreely_28 : decode cX3_shareFreely 28 = .ok (.i2l, 1) := by decide +kernel
theorem dX3_shareFreely_29 : decode cX3_shareFreely 29 = .ok (.lmul, 1) := by decide +kernel
theorem dX3_shareFreely_30 : decode cX3_shareFreely 30 = .ok (.lstore_n 3, 1) := by decide +kernel
theorem dX3_shareFreely_31 : decode cX3_shareFreely 31 = .ok (.aload_n 0, 1) := by decide +kernel
theorem dX3_shareFreely_32 : decode cX3_shareFreely 32 = .ok (.getfield 19, 3) := by decide +kernel
theorem dX3_shareFreely_35 : decode cX3_shareFreely 35 = .ok (.getfield 49, 3) := by decide +kernel
theorem dX3_shareFreely_38 : decode cX3_shareFreely 38 = .ok (.iconst 5, 1) := by decide +kernel
theorem dX3_shareFreely_39 : decode cX3_shareFreely 39 = .ok (.iaload, 1) := by decide +kernel
theorem dX3_shareFreely_40 : decode cX3_shareFreely 40 = .ok (.istore 5, 2) := by decide +kernel
theorem dX3_shareFreely_42 : decode cX3_shareFreely 42 = .ok (.iconst 0, 1) := by decide +kernel
theorem dX3_shareFreely_43 : decode cX3_shareFreely 43 = .ok (.istore 6, 2) := by decide +kernel
theorem dX3_shareFreely_45 : decode cX3_shareFreely 45 = .ok (.iload 6, 2) := by decide +kernel
theorem dX3_shareFreely_47 : decode cX3_shareFreely 47 = .ok (.aload_n 0, 1) := by decide +kernel
theorem dX3_shareFreely_48 : decode cX3_shareFreely 48 = .ok (.getfield 19, 3) := by decide +kernel
theorem dX3_shareFreely_51 : decode cX3_shareFreely 51 = .ok (.getfield 41, 3) := by decide +kernel
theorem dX3_shareFreely_54 : decode cX3_shareFreely 54 = .ok (.if_icmp .ge 58, 3) := by decide +kernel
theorem dX3_shareFreely_57 : decode cX3_shareFreely 57 = .ok (.aload_n 0, 1) := by decide +kernel
theorem dX3_shareFreely_58 : decode cX3_shareFreely 58 = .ok (.getfield 19, 3) := by decide +kernel
theorem dX3_shareFreely_61 : decode cX3_shareFreely 61 = .ok (.iload 6, 2) := by decide +kernel
theorem dX3_shareFreely_63 : decode cX3_shareFreely 63 = .ok (.invokevirtual 55, 3) := by decide +kernel
theorem dX3_shareFreely_66 : decode cX3_shareFreely 66 = .ok (.i2l, 1) := by decide +kernel
theorem dX3_shareFreely_67 : decode cX3_shareFreely 67 = .ok (.lload_n 1, 1) := by decide +kernel
theorem dX3_shareFreely_68 : decode cX3_shareFreely 68 = .ok (.lmul, 1) := by decide +kernel
theorem dX3_shareFreely_69 : decode cX3_shareFreely 69 = .ok (.lstore 7, 2) := by decide +kernel
theorem dX3_shareFreely_71 : decode cX3_shareFreely 71 = .ok (.aload_n 0, 1) := by decide +kernel
theorem dX3_shareFreely_72 : decode cX3_shareFreely 72 = .ok (.getfield 9, 3) := by decide +kernel
theorem dX3_shareFreely_75 : decode cX3_shareFreely 75 = .ok (.iload 6, 2) := by decide +kernel
theorem dX3_shareFreely_77 : decode cX3_shareFreely 77 = .ok (.lload 7, 2) := by decide +kernel
theorem dX3_shareFreely_79 : decode cX3_shareFreely 79 = .ok (.lload_n 3, 1) := by decide +kernel
theorem dX3_shareFreely_80 : decode cX3_shareFreely 80 = .ok (.ldiv, 1) := by decide +kernel
theorem dX3_shareFreely_81 : decode cX3_shareFreely 81 = .ok (.l2i, 1) := by decide +kernel
theorem dX3_shareFreely_82 : decode cX3_shareFreely 82 = .ok (.iastore, 1) := by decide +kernel
theorem dX3_shareFreely_83 : decode cX3_shareFreely 83 = .ok (.aload_n 0, 1) := by decide +kernel
theorem dX3_shareFreely_84 : decode cX3_shareFreely 84 = .ok (.getfield 15, 3) := by decide +kernel
theorem dX3_shareFreely_87 : decode cX3_shareFreely 87 = .ok (.iload 6, 2) := by decide +kernel
theorem dX3_shareFreely_89 : decode cX3_shareFreely 89 = .ok (.lload 7, 2) := by decide +kernel
theorem dX3_shareFreely_91 : decode cX3_shareFreely 91 = .ok (.lload_n 3, 1) := by decide +kernel
theorem dX3_shareFreely_92 : decode cX3_shareFreely 92 = .ok (.lrem, 1) := by decide +kernel
theorem dX3_shareFreely_93 : decode cX3_shareFreely 93 = .ok (.lastore, 1) := by decide +kernel
theorem dX3_shareFreely_94 : decode cX3_shareFreely 94 = .ok (.iload 5, 2) := by decide +kernel
theorem dX3_shareFreely_96 : decode cX3_shareFreely 96 = .ok (.aload_n 0, 1) := by decide +kernel
theorem dX3_shareFreely_97 : decode cX3_shareFreely 97 = .ok (.getfield 9, 3) := by decide +kernel
theorem dX3_shareFreely_100 : decode cX3_shareFreely 100 = .ok (.iload 6, 2) := by decide +kernel
theorem dX3_shareFreely_102 : decode cX3_shareFreely 102 = .ok (.iaload, 1) := by decide +kernel
theorem dX3_shareFreely_103 : decode cX3_shareFreely 103 = .ok (.isub, 1) := by decide +kernel
theorem dX3_shareFreely_104 : decode cX3_shareFreely 104 = .ok (.istore 5, 2) := by decide +kernel
theorem dX3_shareFreely_106 : decode cX3_shareFreely 106 = .ok (.iinc 6 1, 3) := by decide +kernel
theorem dX3_shareFreely_109 : decode cX3_shareFreely 109 = .ok (.goto (-64), 3) := by decide +kernel
theorem dX3_shareFreely_112 : decode cX3_shareFreely 112 = .ok (.iload 5, 2) := by decide +kernel
theorem dX3_shareFreely_114 : decode cX3_shareFreely 114 = .ok (.ifCond .le 13, 3) := by decide +kernel
theorem dX3_shareFreely_117 : decode cX3_shareFreely 117 = .ok (.aload_n 0, 1) := by decide +kernel
theorem dX3_shareFreely_118 : decode cX3_shareFreely 118 = .ok (.invokevirtual 58, 3) := by decide +kernel
theorem dX3_shareFreely_121 : decode cX3_shareFreely 121 = .ok (.iinc 5 (-1), 3) := by decide +kernel
theorem dX3_shareFreely_124 : decode cX3_shareFreely 124 = .ok (.goto (-12), 3) := by decide +kernel
theorem dX3_shareFreely_127 : decode cX3_shareFreely 127 = .ok (.return_, 1) := by decide +kernel
theorem dX3_giveOne_0 : decode cX3_giveOne 0 = .ok (.iconst 0, 1) := by decide +kernel
theorem dX3_giveOne_1 : decode cX3_giveOne 1 = .ok (.istore_n 1, 1) := by decide +kernel
theorem dX3_giveOne_2 : decode cX3_giveOne 2 = .ok (.iconst 1, 1) := by decide +kernel
theorem dX3_giveOne_3 : decode cX3_giveOne 3 = .ok (.istore_n 2, 1) := by decide +kernel
theorem dX3_giveOne_4 : decode cX3_giveOne 4 = .ok (.iload_n 2, 1) := by decide +kernel
theorem dX3_giveOne_5 : decode cX3_giveOne 5 = .ok (.aload_n 0, 1) := by decide +kernel
theorem dX3_giveOne_6 : decode cX3_giveOne 6 = .ok (.getfield 19, 3) := by decide +kernel
theorem dX3_giveOne_9 : decode cX3_giveOne 9 = .ok (.getfield 41, 3) := by decide +kernel
theorem dX3_giveOne_12 : decode cX3_giveOne 12 = .ok (.if_icmp .ge 27, 3) := by decide +kernel
theorem dX3_giveOne_15 : decode cX3_giveOne 15 = .ok (.aload_n 0, 1) := by decide +kernel
theorem dX3_giveOne_16 : decode cX3_giveOne 16 = .ok (.getfield 15, 3) := by decide +kernel
theorem dX3_giveOne_19 : decode cX3_giveOne 19 = .ok (.iload_n 2, 1) := by decide +kernel
theorem dX3_giveOne_20 : decode cX3_giveOne 20 = .ok (.laload, 1) := by decide +kernel
theorem dX3_giveOne_21 : decode cX3_giveOne 21 = .ok (.aload_n 0, 1) := by decide +kernel
theorem dX3_giveOne_22 : decode cX3_giveOne 22 = .ok (.getfield 15, 3) := by decide +kernel
theorem dX3_giveOne_25 : decode cX3_giveOne 25 = .ok (.iload_n 1, 1) := by decide +kernel
theorem dX3_giveOne_26 : decode cX3_giveOne 26 = .ok (.laload, 1) := by decide +kernel
theorem dX3_giveOne_27 : decode cX3_giveOne 27 = .ok (.lcmp, 1) := by decide +kernel
theorem dX3_giveOne_28 : decode cX3_giveOne 28 = .ok (.ifCond .le 5, 3) := by decide +kernel
theorem dX3_giveOne_31 : decode cX3_giveOne 31 = .ok (.iload_n 2, 1) := by decide +kernel
theorem dX3_giveOne_32 : decode cX3_giveOne 32 = .ok (.istore_n 1, 1) := by decide +kernel
theorem dX3_giveOne_33 : decode cX3_giveOne 33 = .ok (.iinc 2 1, 3) := by decide +kernel
theorem dX3_giveOne_36 : decode cX3_giveOne 36 = .ok (.goto (-32), 3) := by decide +kernel
theorem dX3_giveOne_39 : decode cX3_giveOne 39 = .ok (.aload_n 0, 1) := by decide +kernel
theorem dX3_giveOne_40 : decode cX3_giveOne 40 = .ok (.getfield 9, 3) := by decide +kernel
theorem dX3_giveOne_43 : decode cX3_giveOne 43 = .ok (.iload_n 1, 1) := by decide +kernel
theorem dX3_giveOne_44 : decode cX3_giveOne 44 = .ok (.dup2, 1) := by decide +kernel
theorem dX3_giveOne_45 : decode cX3_giveOne 45 = .ok (.iaload, 1) := by decide +kernel
theorem dX3_giveOne_46 : decode cX3_giveOne 46 = .ok (.iconst 1, 1) := by decide +kernel
theorem dX3_giveOne_47 : decode cX3_giveOne 47 = .ok (.iadd, 1) := by decide +kernel
theorem dX3_giveOne_48 : decode cX3_giveOne 48 = .ok (.iastore, 1) := by decide +kernel
theorem dX3_giveOne_49 : decode cX3_giveOne 49 = .ok (.aload_n 0, 1) := by decide +kernel
theorem dX3_giveOne_50 : decode cX3_giveOne 50 = .ok (.getfield 15, 3) := by decide +kernel
theorem dX3_giveOne_53 : decode cX3_giveOne 53 = .ok (.iload_n 1, 1) := by decide +kernel
theorem dX3_giveOne_54 : decode cX3_giveOne 54 = .ok (.ldc2_w 61, 3) := by decide +kernel
theorem dX3_giveOne_57 : decode cX3_giveOne 57 = .ok (.lastore, 1) := by decide +kernel
theorem dX3_giveOne_58 : decode cX3_giveOne 58 = .ok (.return_, 1) := by decide +kernel
set_option maxRecDepth 20000 in
theorem ggX3_countBeyondLimits_X2_lengthOf : GoodIn wsX3_countBeyondLimits wsX2_lengthOf := goodIn_r _ [8, 9, 10, 11, 12, 13, 7, 14, 15, 16, 29, 30, 31, 32, 33, 34] (by decide +kernel) (by decide +kernel)
set_option maxRecDepth 20000 in
theorem gX3_countBeyondLimits_X2_lengthOf : GoodIn wsX3_countBeyondLimits (wsV RX3 55 RX2 yX2_lengthOf wsX2_lengthOf) := goodIn_app (goodIn_of _ (by decide +kernel)) ggX3_countBeyondLimits_X2_lengthOf
set_option maxRecDepth 20000 in
theorem ggX3_countBeyondLimits_X2_leastBudget : GoodIn wsX3_countBeyondLimits wsX2_leastBudget := goodIn_r _ [20, 10, 29, 30, 31, 32, 33, 34] (by decide +kernel) (by decide +kernel)
set_option maxRecDepth 20000 in
theorem gX3_countBeyondLimits_X2_leastBudget : GoodIn wsX3_countBeyondLimits (wsV RX3 63 RX2 yX2_leastBudget wsX2_leastBudget) := goodIn_app (goodIn_of _ (by decide +kernel)) ggX3_countBeyondLimits_X2_leastBudget
set_option maxRecDepth 20000 in
theorem ggX3_countBeyondLimits_X2_mostBudget : GoodIn wsX3_countBeyondLimits wsX2_mostBudget := goodIn_r _ [24, 10, 29, 30, 31, 32, 33, 34] (by decide +kernel) (by decide +kernel)
set_option maxRecDepth 20000 in
theorem gX3_countBeyondLimits_X2_mostBudget : GoodIn wsX3_countBeyondLimits (wsV RX3 66 RX2 yX2_mostBudget wsX2_mostBudget) := goodIn_app (goodIn_of _ (by decide +kernel)) ggX3_countBeyondLimits_X2_mostBudget
theorem dX3_countBeyondLimits_0 : decode cX3_countBeyondLimits 0 = .ok (.iconst 0, 1) := by decide +kernel
theorem dX3_countBeyondLimits_1 : decode cX3_countBeyondLimits 1 = .ok (.istore_n 1, 1) := by decide +kernel
theorem dX3_countBeyondLimits_2 : decode cX3_countBeyondLimits 2 = .ok (.iconst 0, 1) := by decide +kernel
theorem dX3_countBeyondLimits_3 : decode cX3_countBeyondLimits 3 = .ok (.istore_n 2, 1) := by decide +kernel
theorem dX3_countBeyondLimits_4 : decode cX3_countBeyondLimits 4 = .ok (.iload_n 2, 1) := by decide +kernel
theorem dX3_countBeyondLimits_5 : decode cX3_countBeyondLimits 5 = .ok (.aload_n 0, 1) := by decide +kernel
theorem dX3_countBeyondLimits_6 : decode cX3_countBeyondLimits 6 = .ok (.getfield 19, 3) := by decide +kernel
theorem dX3_countBeyondLimits_9 : decode cX3_countBeyondLimits 9 = .ok (.getfield 41, 3) := by decide +kernel
theorem dX3_countBeyondLimits_12 : decode cX3_countBeyondLimits 12 = .ok (.if_icmp .ge 67, 3) := by decide +kernel
theorem dX3_countBeyondLimits_15 : decode cX3_countBeyondLimits 15 = .ok (.aload_n 0, 1) := by decide +kernel
theorem dX3_countBeyondLimits_16 : decode cX3_countBeyondLimits 16 = .ok (.getfield 19, 3) := by decide +kernel
theorem dX3_countBeyondLimits_19 : decode cX3_countBeyondLimits 19 = .ok (.iload_n 2, 1) := by decide +kernel
theorem dX3_countBeyondLimits_20 : decode cX3_countBeyondLimits 20 = .ok (.invokevirtual 55, 3) := by decide +kernel
theorem dX3_countBeyondLimits_23 : decode cX3_countBeyondLimits 23 = .ok (.istore_n 3, 1) := by decide +kernel
theorem dX3_countBeyondLimits_24 : decode cX3_countBeyondLimits 24 = .ok (.aload_n 0, 1) := by decide +kernel
theorem dX3_countBeyondLimits_25 : decode cX3_countBeyondLimits 25 = .ok (.getfield 9, 3) := by decide +kernel
theorem dX3_countBeyondLimits_28 : decode cX3_countBeyondLimits 28 = .ok (.iload_n 2, 1) := by decide +kernel
theorem dX3_countBeyondLimits_29 : decode cX3_countBeyondLimits 29 = .ok (.iaload, 1) := by decide +kernel
theorem dX3_countBeyondLimits_30 : decode cX3_countBeyondLimits 30 = .ok (.aload_n 0, 1) := by decide +kernel
theorem dX3_countBeyondLimits_31 : decode cX3_countBeyondLimits 31 = .ok (.getfield 19, 3) := by decide +kernel
theorem dX3_countBeyondLimits_34 : decode cX3_countBeyondLimits 34 = .ok (.iload_n 3, 1) := by decide +kernel
theorem dX3_countBeyondLimits_35 : decode cX3_countBeyondLimits 35 = .ok (.invokevirtual 63, 3) := by decide +kernel
theorem dX3_countBeyondLimits_38 : decode cX3_countBeyondLimits 38 = .ok (.if_icmp .ge 7, 3) := by decide +kernel
theorem dX3_countBeyondLimits_41 : decode cX3_countBeyondLimits 41 = .ok (.iconst 1, 1) := by decide +kernel
theorem dX3_countBeyondLimits_42 : decode cX3_countBeyondLimits 42 = .ok (.goto 4, 3) := by decide +kernel
theorem dX3_countBeyondLimits_45 : decode cX3_countBeyondLimits 45 = .ok (.iconst 0, 1) := by decide +kernel
theorem dX3_countBeyondLimits_46 : decode cX3_countBeyondLimits 46 = .ok (.istore 4, 2) := by decide +kernel
theorem dX3_countBeyondLimits_48 : decode cX3_countBeyondLimits 48 = .ok (.iload 4, 2) := by decide +kernel
theorem dX3_countBeyondLimits_50 : decode cX3_countBeyondLimits 50 = .ok (.ifCond .ne 20, 3) := by decide +kernel
theorem dX3_countBeyondLimits_53 : decode cX3_countBeyondLimits 53 = .ok (.aload_n 0, 1) := by decide +kernel
theorem dX3_countBeyondLimits_54 : decode cX3_countBeyondLimits 54 = .ok (.getfield 9, 3) := by decide +kernel
theorem dX3_countBeyondLimits_57 : decode cX3_countBeyondLimits 57 = .ok (.iload_n 2, 1) := by decide +kernel
theorem dX3_countBeyondLimits_58 : decode cX3_countBeyondLimits 58 = .ok (.iaload, 1) := by decide +kernel
theorem dX3_countBeyondLimits_59 : decode cX3_countBeyondLimits 59 = .ok (.aload_n 0, 1) := by decide +kernel
theorem dX3_countBeyondLimits_60 : decode cX3_countBeyondLimits 60 = .ok (.getfield 19, 3) := by decide +kernel
theorem dX3_countBeyondLimits_63 : decode cX3_countBeyondLimits 63 = .ok (.iload_n 3, 1) := by decide +kernel
theorem dX3_countBeyondLimits_64 : decode cX3_countBeyondLimits 64 = .ok (.invokevirtual 66, 3) := by decide +kernel
theorem dX3_countBeyondLimits_67 : decode cX3_countBeyondLimits 67 = .ok (.if_icmp .le 6, 3) := by decide +kernel
theorem dX3_countBeyondLimits_70 : decode cX3_countBeyondLimits 70 = .ok (.iinc 1 1, 3) := by decide +kernel
theorem dX3_countBeyondLimits_73 : decode cX3_countBeyondLimits 73 = .ok (.iinc 2 1, 3) := by decide +kernel
theorem dX3_countBeyondLimits_76 : decode cX3_countBeyondLimits 76 = .ok (.goto (-72), 3) := by decide +kernel
theorem dX3_countBeyondLimits_79 : decode cX3_countBeyondLimits 79 = .ok (.iload_n 1, 1) := by decide +kernel
theorem dX3_countBeyondLimits_80 : decode cX3_countBeyondLimits 80 = .ok (.ireturn, 1) := by decide +kernel
set_option maxRecDepth 20000 in
theorem ggX3_sumFades_X3_fadeAt : GoodIn wsX3_sumFades wsX3_fadeAt := goodIn_r _ [7, 1, 2, 8, 9, 10, 11, 12, 13, 14, 15, 16, 17, 18, 19, 20, 21, 22, 23, 24] (by decide +kernel) (by decide +kernel)
set_option maxRecDepth 20000 in
theorem gX3_sumFades_X3_fadeAt : GoodIn wsX3_sumFades (wsV RX3 69 RX3 yX3_fadeAt wsX3_fadeAt) := goodIn_app (goodIn_of _ (by decide +kernel)) ggX3_sumFades_X3_fadeAt
theorem dX3_sumFades_0 : decode cX3_sumFades 0 = .ok (.iconst 0, 1) := by decide +kernel
theorem dX3_sumFades_1 : decode cX3_sumFades 1 = .ok (.istore_n 1, 1) := by decide +kernel
theorem dX3_sumFades_2 : decode cX3_sumFades 2 = .ok (.iconst 0, 1) := by decide +kernel
theorem dX3_sumFades_3 : decode cX3_sumFades 3 = .ok (.istore_n 2, 1) := by decide +kernel
theorem dX3_sumFades_4 : decode cX3_sumFades 4 = .ok (.iload_n 2, 1) := by decide +kernel
theorem dX3_sumFades_5 : decode cX3_sumFades 5 = .ok (.aload_n 0, 1) := by decide +kernel
theorem dX3_sumFades_6 : decode cX3_sumFades 6 = .ok (.getfield 19, 3) := by decide +kernel
theorem dX3_sumFades_9 : decode cX3_sumFades 9 = .ok (.getfield 41, 3) := by decide +kernel
theorem dX3_sumFades_12 : decode cX3_sumFades 12 = .ok (.if_icmp .ge 17, 3) := by decide +kernel
theorem dX3_sumFades_15 : decode cX3_sumFades 15 = .ok (.iload_n 1, 1) := by decide +kernel
theorem dX3_sumFades_16 : decode cX3_sumFades 16 = .ok (.aload_n 0, 1) := by decide +kernel
theorem dX3_sumFades_17 : decode cX3_sumFades 17 = .ok (.iload_n 2, 1) := by decide +kernel
theorem dX3_sumFades_18 : decode cX3_sumFades 18 = .ok (.invokevirtual 69, 3) := by decide +kernel
theorem dX3_sumFades_21 : decode cX3_sumFades 21 = .ok (.iadd, 1) := by decide +kernel
theorem dX3_sumFades_22 : decode cX3_sumFades 22 = .ok (.istore_n 1, 1) := by decide +kernel
theorem dX3_sumFades_23 : decode cX3_sumFades 23 = .ok (.iinc 2 1, 3) := by decide +kernel
theorem dX3_sumFades_26 : decode cX3_sumFades 26 = .ok (.goto (-22), 3) := by decide +kernel
theorem dX3_sumFades_29 : decode cX3_sumFades 29 = .ok (.iload_n 1, 1) := by decide +kernel
theorem dX3_sumFades_30 : decode cX3_sumFades 30 = .ok (.ireturn, 1) := by decide +kernel
theorem dX3_fadeAt_0 : decode cX3_fadeAt 0 = .ok (.iload_n 1, 1) := by decide +kernel
theorem dX3_fadeAt_1 : decode cX3_fadeAt 1 = .ok (.iconst 1, 1) := by decide +kernel
theorem dX3_fadeAt_2 : decode cX3_fadeAt 2 = .ok (.iadd, 1) := by decide +kernel
theorem dX3_fadeAt_3 : decode cX3_fadeAt 3 = .ok (.aload_n 0, 1) := by decide +kernel
theorem dX3_fadeAt_4 : decode cX3_fadeAt 4 = .ok (.getfield 19, 3) := by decide +kernel
theorem dX3_fadeAt_7 : decode cX3_fadeAt 7 = .ok (.getfield 41, 3) := by decide +kernel
theorem dX3_fadeAt_10 : decode cX3_fadeAt 10 = .ok (.if_icmp .ge 9, 3) := by decide +kernel
theorem dX3_fadeAt_13 : decode cX3_fadeAt 13 = .ok (.iload_n 1, 1) := by decide +kernel
theorem dX3_fadeAt_14 : decode cX3_fadeAt 14 = .ok (.iconst 1, 1) := by decide +kernel
theorem dX3_fadeAt_15 : decode cX3_fadeAt 15 = .ok (.iadd, 1) := by decide +kernel
theorem dX3_fadeAt_16 : decode cX3_fadeAt 16 = .ok (.goto 4, 3) := by decide +kernel
theorem dX3_fadeAt_19 : decode cX3_fadeAt 19 = .ok (.iconst 0, 1) := by decide +kernel
theorem dX3_fadeAt_20 : decode cX3_fadeAt 20 = .ok (.istore_n 2, 1) := by decide +kernel
theorem dX3_fadeAt_21 : decode cX3_fadeAt 21 = .ok (.aload_n 0, 1) := by decide +kernel
theorem dX3_fadeAt_22 : decode cX3_fadeAt 22 = .ok (.getfield 9, 3) := by decide +kernel
theorem dX3_fadeAt_25 : decode cX3_fadeAt 25 = .ok (.aload_n 0, 1) := by decide +kernel
theorem dX3_fadeAt_26 : decode cX3_fadeAt 26 = .ok (.getfield 19, 3) := by decide +kernel
theorem dX3_fadeAt_29 : decode cX3_fadeAt 29 = .ok (.getfield 72, 3) := by decide +kernel
theorem dX3_fadeAt_32 : decode cX3_fadeAt 32 = .ok (.iload_n 1, 1) := by decide +kernel
theorem dX3_fadeAt_33 : decode cX3_fadeAt 33 = .ok (.iaload, 1) := by decide +kernel
theorem dX3_fadeAt_34 : decode cX3_fadeAt 34 = .ok (.iaload, 1) := by decide +kernel
theorem dX3_fadeAt_35 : decode cX3_fadeAt 35 = .ok (.iconst 4, 1) := by decide +kernel
theorem dX3_fadeAt_36 : decode cX3_fadeAt 36 = .ok (.idiv, 1) := by decide +kernel
theorem dX3_fadeAt_37 : decode cX3_fadeAt 37 = .ok (.istore_n 3, 1) := by decide +kernel
theorem dX3_fadeAt_38 : decode cX3_fadeAt 38 = .ok (.aload_n 0, 1) := by decide +kernel
theorem dX3_fadeAt_39 : decode cX3_fadeAt 39 = .ok (.getfield 9, 3) := by decide +kernel
theorem dX3_fadeAt_42 : decode cX3_fadeAt 42 = .ok (.aload_n 0, 1) := by decide +kernel
theorem dX3_fadeAt_43 : decode cX3_fadeAt 43 = .ok (.getfield 19, 3) := by decide +kernel
theorem dX3_fadeAt_46 : decode cX3_fadeAt 46 = .ok (.getfield 72, 3) := by decide +kernel
theorem dX3_fadeAt_49 : decode cX3_fadeAt 49 = .ok (.iload_n 2, 1) := by decide +kernel
theorem dX3_fadeAt_50 : decode cX3_fadeAt 50 = .ok (.iaload, 1) := by decide +kernel
theorem dX3_fadeAt_51 : decode cX3_fadeAt 51 = .ok (.iaload, 1) := by decide +kernel
theorem dX3_fadeAt_52 : decode cX3_fadeAt 52 = .ok (.iconst 4, 1) := by decide +kernel
theorem dX3_fadeAt_53 : decode cX3_fadeAt 53 = .ok (.idiv, 1) := by decide +kernel
theorem dX3_fadeAt_54 : decode cX3_fadeAt 54 = .ok (.istore 4, 2) := by decide +kernel
theorem dX3_fadeAt_56 : decode cX3_fadeAt 56 = .ok (.aload_n 0, 1) := by decide +kernel
theorem dX3_fadeAt_57 : decode cX3_fadeAt 57 = .ok (.getfield 19, 3) := by decide +kernel
theorem dX3_fadeAt_60 : decode cX3_fadeAt 60 = .ok (.getfield 49, 3) := by decide +kernel
theorem dX3_fadeAt_63 : decode cX3_fadeAt 63 = .ok (.bipush 8, 2) := by decide +kernel
theorem dX3_fadeAt_65 : decode cX3_fadeAt 65 = .ok (.iaload, 1) := by decide +kernel
theorem dX3_fadeAt_66 : decode cX3_fadeAt 66 = .ok (.iload_n 3, 1) := by decide +kernel
theorem dX3_fadeAt_67 : decode cX3_fadeAt 67 = .ok (.iload 4, 2) := by decide +kernel
theorem dX3_fadeAt_69 : decode cX3_fadeAt 69 = .ok (.invokestatic 75, 3) := by decide +kernel
theorem dX3_fadeAt_72 : decode cX3_fadeAt 72 = .ok (.invokestatic 75, 3) := by decide +kernel
theorem dX3_fadeAt_75 : decode cX3_fadeAt 75 = .ok (.ireturn, 1) := by decide +kernel
set_option maxRecDepth 20000 in
theorem ggX3_beginOf_X2_placeOf : GoodIn wsX3_beginOf wsX2_placeOf := goodIn_r _ [8, 9, 10, 15, 16, 17, 18, 19, 20] (by decide +kernel) (by decide +kernel)
set_option maxRecDepth 20000 in
theorem gX3_beginOf_X2_placeOf : GoodIn wsX3_beginOf (wsV RX3 81 RX2 yX2_placeOf wsX2_placeOf) := goodIn_app (goodIn_of _ (by decide +kernel)) ggX3_beginOf_X2_placeOf
theorem dX3_beginOf_0 : decode cX3_beginOf 0 = .ok (.iconst 0, 1) := by decide +kernel
theorem dX3_beginOf_1 : decode cX3_beginOf 1 = .ok (.istore_n 2, 1) := by decide +kernel
theorem dX3_beginOf_2 : decode cX3_beginOf 2 = .ok (.aload_n 0, 1) := by decide +kernel
theorem dX3_beginOf_3 : decode cX3_beginOf 3 = .ok (.getfield 19, 3) := by decide +kernel
theorem dX3_beginOf_6 : decode cX3_beginOf 6 = .ok (.iload_n 1, 1) := by decide +kernel
theorem dX3_beginOf_7 : decode cX3_beginOf 7 = .ok (.invokevirtual 81, 3) := by decide +kernel
theorem dX3_beginOf_10 : decode cX3_beginOf 10 = .ok (.istore_n 3, 1) := by decide +kernel
theorem dX3_beginOf_11 : decode cX3_beginOf 11 = .ok (.iconst 0, 1) := by decide +kernel
theorem dX3_beginOf_12 : decode cX3_beginOf 12 = .ok (.istore 4, 2) := by decide +kernel
theorem dX3_beginOf_14 : decode cX3_beginOf 14 = .ok (.iload 4, 2) := by decide +kernel
theorem dX3_beginOf_16 : decode cX3_beginOf 16 = .ok (.iload_n 3, 1) := by decide +kernel
theorem dX3_beginOf_17 : decode cX3_beginOf 17 = .ok (.if_icmp .ge 27, 3) := by decide +kernel
theorem dX3_beginOf_20 : decode cX3_beginOf 20 = .ok (.iload_n 2, 1) := by decide +kernel
theorem dX3_beginOf_21 : decode cX3_beginOf 21 = .ok (.aload_n 0, 1) := by decide +kernel
theorem dX3_beginOf_22 : decode cX3_beginOf 22 = .ok (.getfield 9, 3) := by decide +kernel
theorem dX3_beginOf_25 : decode cX3_beginOf 25 = .ok (.aload_n 0, 1) := by decide +kernel
theorem dX3_beginOf_26 : decode cX3_beginOf 26 = .ok (.getfield 19, 3) := by decide +kernel
theorem dX3_beginOf_29 : decode cX3_beginOf 29 = .ok (.getfield 72, 3) := by decide +kernel
theorem dX3_beginOf_32 : decode cX3_beginOf 32 = .ok (.iload 4, 2) := by decide +kernel
theorem dX3_beginOf_34 : decode cX3_beginOf 34 = .ok (.iaload, 1) := by decide +kernel
theorem dX3_beginOf_35 : decode cX3_beginOf 35 = .ok (.iaload, 1) := by decide +kernel
theorem dX3_beginOf_36 : decode cX3_beginOf 36 = .ok (.iadd, 1) := by decide +kernel
theorem dX3_beginOf_37 : decode cX3_beginOf 37 = .ok (.istore_n 2, 1) := by decide +kernel
theorem dX3_beginOf_38 : decode cX3_beginOf 38 = .ok (.iinc 4 1, 3) := by decide +kernel
theorem dX3_beginOf_41 : decode cX3_beginOf 41 = .ok (.goto (-27), 3) := by decide +kernel
theorem dX3_beginOf_44 : decode cX3_beginOf 44 = .ok (.iload_n 2, 1) := by decide +kernel
theorem dX3_beginOf_45 : decode cX3_beginOf 45 = .ok (.ireturn, 1) := by decide +kernel
set_option maxRecDepth 20000 in
theorem ggX3_originOf_X3_loopSample : GoodIn wsX3_originOf wsX3_loopSample := goodIn_r _ [10, 1, 5, 11, 12, 13, 14, 15, 16, 17, 18, 19, 20, 21, 22, 23, 33, 34, 35, 36, 37, 38, 39, 40, 41, 42] (by decide +kernel) (by decide +kernel)
set_option maxRecDepth 20000 in
theorem gX3_originOf_X3_loopSample : GoodIn wsX3_originOf (wsV RX3 87 RX3 yX3_loopSample wsX3_loopSample) := goodIn_app (goodIn_of _ (by decide +kernel)) ggX3_originOf_X3_loopSample
set_option maxRecDepth 20000 in
theorem ggX3_originOf_X3_fadeAt : GoodIn wsX3_originOf wsX3_fadeAt := goodIn_r _ [27, 1, 28, 5, 2, 4, 29, 30, 31, 32, 33, 34, 35, 36, 37, 38, 39, 40, 41, 42] (by decide +kernel) (by decide +kernel)
set_option maxRecDepth 20000 in
theorem gX3_originOf_X3_fadeAt : GoodIn wsX3_originOf (wsV RX3 69 RX3 yX3_fadeAt wsX3_fadeAt) := goodIn_app (goodIn_of _ (by decide +kernel)) ggX3_originOf_X3_fadeAt
theorem dX3_originOf_0 : decode cX3_originOf 0 = .ok (.aload_n 0, 1) := by decide +kernel
theorem dX3_originOf_1 : decode cX3_originOf 1 = .ok (.getfield 19, 3) := by decide +kernel
theorem dX3_originOf_4 : decode cX3_originOf 4 = .ok (.getfield 72, 3) := by decide +kernel
theorem dX3_originOf_7 : decode cX3_originOf 7 = .ok (.iload_n 1, 1) := by decide +kernel
theorem dX3_originOf_8 : decode cX3_originOf 8 = .ok (.iaload, 1) := by decide +kernel
theorem dX3_originOf_9 : decode cX3_originOf 9 = .ok (.istore 4, 2) := by decide +kernel
theorem dX3_originOf_11 : decode cX3_originOf 11 = .ok (.iload_n 3, 1) := by decide +kernel
theorem dX3_originOf_12 : decode cX3_originOf 12 = .ok (.ifCond .ne 6, 3) := by decide +kernel
theorem dX3_originOf_15 : decode cX3_originOf 15 = .ok (.iload 4, 2) := by decide +kernel
theorem dX3_originOf_17 : decode cX3_originOf 17 = .ok (.ireturn, 1) := by decide +kernel
theorem dX3_originOf_18 : decode cX3_originOf 18 = .ok (.iload_n 3, 1) := by decide +kernel
theorem dX3_originOf_19 : decode cX3_originOf 19 = .ok (.iconst 1, 1) := by decide +kernel
theorem dX3_originOf_20 : decode cX3_originOf 20 = .ok (.if_icmp .ne 32, 3) := by decide +kernel
theorem dX3_originOf_23 : decode cX3_originOf 23 = .ok (.aload_n 0, 1) := by decide +kernel
theorem dX3_originOf_24 : decode cX3_originOf 24 = .ok (.getfield 19, 3) := by decide +kernel
theorem dX3_originOf_27 : decode cX3_originOf 27 = .ok (.getfield 84, 3) := by decide +kernel
theorem dX3_originOf_30 : decode cX3_originOf 30 = .ok (.iload 4, 2) := by decide +kernel
theorem dX3_originOf_32 : decode cX3_originOf 32 = .ok (.iaload, 1) := by decide +kernel
theorem dX3_originOf_33 : decode cX3_originOf 33 = .ok (.aload_n 0, 1) := by decide +kernel
theorem dX3_originOf_34 : decode cX3_originOf 34 = .ok (.getfield 19, 3) := by decide +kernel
theorem dX3_originOf_37 : decode cX3_originOf 37 = .ok (.getfield 49, 3) := by decide +kernel
theorem dX3_originOf_40 : decode cX3_originOf 40 = .ok (.iconst 0, 1) := by decide +kernel
theorem dX3_originOf_41 : decode cX3_originOf 41 = .ok (.iaload, 1) := by decide +kernel
theorem dX3_originOf_42 : decode cX3_originOf 42 = .ok (.imul, 1) := by decide +kernel
theorem dX3_originOf_43 : decode cX3_originOf 43 = .ok (.aload_n 0, 1) := by decide +kernel
theorem dX3_originOf_44 : decode cX3_originOf 44 = .ok (.iload 4, 2) := by decide +kernel
theorem dX3_originOf_46 : decode cX3_originOf 46 = .ok (.iload_n 2, 1) := by decide +kernel
theorem dX3_originOf_47 : decode cX3_originOf 47 = .ok (.invokevirtual 87, 3) := by decide +kernel
theorem dX3_originOf_50 : decode cX3_originOf 50 = .ok (.iadd, 1) := by decide +kernel
theorem dX3_originOf_51 : decode cX3_originOf 51 = .ok (.ireturn, 1) := by decide +kernel
theorem dX3_originOf_52 : decode cX3_originOf 52 = .ok (.iload_n 2, 1) := by decide +kernel
theorem dX3_originOf_53 : decode cX3_originOf 53 = .ok (.aload_n 0, 1) := by decide +kernel
theorem dX3_originOf_54 : decode cX3_originOf 54 = .ok (.getfield 9, 3) := by decide +kernel
theorem dX3_originOf_57 : decode cX3_originOf 57 = .ok (.iload 4, 2) := by decide +kernel
theorem dX3_originOf_59 : decode cX3_originOf 59 = .ok (.iaload, 1) := by decide +kernel
theorem dX3_originOf_60 : decode cX3_originOf 60 = .ok (.aload_n 0, 1) := by decide +kernel
theorem dX3_originOf_61 : decode cX3_originOf 61 = .ok (.iload_n 1, 1) := by decide +kernel
theorem dX3_originOf_62 : decode cX3_originOf 62 = .ok (.invokevirtual 69, 3) := by decide +kernel
theorem dX3_originOf_65 : decode cX3_originOf 65 = .ok (.isub, 1) := by decide +kernel
theorem dX3_originOf_66 : decode cX3_originOf 66 = .ok (.if_icmp .lt 7, 3) := by decide +kernel
theorem dX3_originOf_69 : decode cX3_originOf 69 = .ok (.iconst 1, 1) := by decide +kernel
theorem dX3_originOf_70 : decode cX3_originOf 70 = .ok (.goto 4, 3) := by decide +kernel
theorem dX3_originOf_73 : decode cX3_originOf 73 = .ok (.iconst 0, 1) := by decide +kernel
theorem dX3_originOf_74 : decode cX3_originOf 74 = .ok (.ireturn, 1) := by decide +kernel
set_option maxRecDepth 20000 in
theorem ggX3_loopSample_X2_lengthOf : GoodIn wsX3_loopSample wsX2_lengthOf := goodIn_r _ [7, 8, 9, 10, 11, 12, 6, 13, 14, 15, 20, 21, 22, 23, 24, 25] (by decide +kernel) (by decide +kernel)
set_option maxRecDepth 20000 in
theorem gX3_loopSample_X2_lengthOf : GoodIn wsX3_loopSample (wsV RX3 55 RX2 yX2_lengthOf wsX2_lengthOf) := goodIn_app (goodIn_of _ (by decide +kernel)) ggX3_loopSample_X2_lengthOf
theorem dX3_loopSample_0 : decode cX3_loopSample 0 = .ok (.iload_n 2, 1) := by decide +kernel
theorem dX3_loopSample_1 : decode cX3_loopSample 1 = .ok (.i2l, 1) := by decide +kernel
theorem dX3_loopSample_2 : decode cX3_loopSample 2 = .ok (.aload_n 0, 1) := by decide +kernel
theorem dX3_loopSample_3 : decode cX3_loopSample 3 = .ok (.getfield 19, 3) := by decide +kernel
theorem dX3_loopSample_6 : decode cX3_loopSample 6 = .ok (.iload_n 1, 1) := by decide +kernel
theorem dX3_loopSample_7 : decode cX3_loopSample 7 = .ok (.invokevirtual 55, 3) := by decide +kernel
theorem dX3_loopSample_10 : decode cX3_loopSample 10 = .ok (.i2l, 1) := by decide +kernel
theorem dX3_loopSample_11 : decode cX3_loopSample 11 = .ok (.lmul, 1) := by decide +kernel
theorem dX3_loopSample_12 : decode cX3_loopSample 12 = .ok (.lstore_n 3, 1) := by decide +kernel
theorem dX3_loopSample_13 : decode cX3_loopSample 13 = .ok (.aload_n 0, 1) := by decide +kernel
theorem dX3_loopSample_14 : decode cX3_loopSample 14 = .ok (.getfield 9, 3) := by decide +kernel
theorem dX3_loopSample_17 : decode cX3_loopSample 17 = .ok (.iload_n 1, 1) := by decide +kernel
theorem dX3_loopSample_18 : decode cX3_loopSample 18 = .ok (.iaload, 1) := by decide +kernel
theorem dX3_loopSample_19 : decode cX3_loopSample 19 = .ok (.ifCond .le 16, 3) := by decide +kernel
theorem dX3_loopSample_22 : decode cX3_loopSample 22 = .ok (.lload_n 3, 1) := by decide +kernel
theorem dX3_loopSample_23 : decode cX3_loopSample 23 = .ok (.aload_n 0, 1) := by decide +kernel
theorem dX3_loopSample_24 : decode cX3_loopSample 24 = .ok (.getfield 9, 3) := by decide +kernel
theorem dX3_loopSample_27 : decode cX3_loopSample 27 = .ok (.iload_n 1, 1) := by decide +kernel
theorem dX3_loopSample_28 : decode cX3_loopSample 28 = .ok (.iaload, 1) := by decide +kernel
theorem dX3_loopSample_29 : decode cX3_loopSample 29 = .ok (.i2l, 1) := by decide +kernel
theorem dX3_loopSample_30 : decode cX3_loopSample 30 = .ok (.ldiv, 1) := by decide +kernel
theorem dX3_loopSample_31 : decode cX3_loopSample 31 = .ok (.l2i, 1) := by decide +kernel
theorem dX3_loopSample_32 : decode cX3_loopSample 32 = .ok (.goto 4, 3) := by decide +kernel
theorem dX3_loopSample_35 : decode cX3_loopSample 35 = .ok (.iconst 0, 1) := by decide +kernel
theorem dX3_loopSample_36 : decode cX3_loopSample 36 = .ok (.ireturn, 1) := by decide +kernel
