set_option maxRecDepth 20000 in
theorem ggX5_init_X5_layLoop : GoodIn wsX5_init wsX5_layLoop := goodIn_r _ [19, 5, 20, 21, 22, 18, 23, 24, 25, 26, 27, 28, 29, 30, 31, 32, 33, 34] (by decide +kernel) (by decide +kernel)
set_option maxRecDepth 20000 in
theorem gX5_init_X5_layLoop : GoodIn wsX5_init (wsV RX5 36 RX5 yX5_layLoop wsX5_layLoop) := goodIn_app (goodIn_of _ (by decide +kernel)) ggX5_init_X5_layLoop
theorem dX5_init_0 : decode cX5_init 0 = .ok (.aload_n 0, 1) := by decide +kernel
theorem dX5_init_1 : decode cX5_init 1 = .ok (.invokespecial 1, 3) := by decide +kernel
theorem dX5_init_4 : decode cX5_init 4 = .ok (.aload_n 0, 1) := by decide +kernel
theorem dX5_init_5 : decode cX5_init 5 = .ok (.bipush 107, 2) := by decide +kernel
theorem dX5_init_7 : decode cX5_init 7 = .ok (.newarray .int, 2) := by decide +kernel
theorem dX5_init_9 : decode cX5_init 9 = .ok (.putfield 7, 3) := by decide +kernel
theorem dX5_init_12 : decode cX5_init 12 = .ok (.aload_n 0, 1) := by decide +kernel
theorem dX5_init_13 : decode cX5_init 13 = .ok (.sipush 856, 3) := by decide +kernel
theorem dX5_init_16 : decode cX5_init 16 = .ok (.newarray .int, 2) := by decide +kernel
theorem dX5_init_18 : decode cX5_init 18 = .ok (.putfield 13, 3) := by decide +kernel
theorem dX5_init_21 : decode cX5_init 21 = .ok (.aload_n 0, 1) := by decide +kernel
theorem dX5_init_22 : decode cX5_init 22 = .ok (.sipush 214, 3) := by decide +kernel
theorem dX5_init_25 : decode cX5_init 25 = .ok (.newarray .int, 2) := by decide +kernel
theorem dX5_init_27 : decode cX5_init 27 = .ok (.putfield 16, 3) := by decide +kernel
theorem dX5_init_30 : decode cX5_init 30 = .ok (.aload_n 0, 1) := by decide +kernel
theorem dX5_init_31 : decode cX5_init 31 = .ok (.bipush 16, 2) := by decide +kernel
theorem dX5_init_33 : decode cX5_init 33 = .ok (.newarray .int, 2) := by decide +kernel
theorem dX5_init_35 : decode cX5_init 35 = .ok (.putfield 19, 3) := by decide +kernel
theorem dX5_init_38 : decode cX5_init 38 = .ok (.aload_n 0, 1) := by decide +kernel
theorem dX5_init_39 : decode cX5_init 39 = .ok (.bipush 16, 2) := by decide +kernel
theorem dX5_init_41 : decode cX5_init 41 = .ok (.newarray .int, 2) := by decide +kernel
theorem dX5_init_43 : decode cX5_init 43 = .ok (.putfield 22, 3) := by decide +kernel
theorem dX5_init_46 : decode cX5_init 46 = .ok (.aload_n 0, 1) := by decide +kernel
theorem dX5_init_47 : decode cX5_init 47 = .ok (.bipush 17, 2) := by decide +kernel
theorem dX5_init_49 : decode cX5_init 49 = .ok (.newarray .int, 2) := by decide +kernel
theorem dX5_init_51 : decode cX5_init 51 = .ok (.putfield 25, 3) := by decide +kernel
theorem dX5_init_54 : decode cX5_init 54 = .ok (.aload_n 0, 1) := by decide +kernel
theorem dX5_init_55 : decode cX5_init 55 = .ok (.sipush 544, 3) := by decide +kernel
theorem dX5_init_58 : decode cX5_init 58 = .ok (.newarray .long, 2) := by decide +kernel
theorem dX5_init_60 : decode cX5_init 60 = .ok (.putfield 28, 3) := by decide +kernel
theorem dX5_init_63 : decode cX5_init 63 = .ok (.aload_n 0, 1) := by decide +kernel
theorem dX5_init_64 : decode cX5_init 64 = .ok (.bipush 16, 2) := by decide +kernel
theorem dX5_init_66 : decode cX5_init 66 = .ok (.newarray .boolean, 2) := by decide +kernel
theorem dX5_init_68 : decode cX5_init 68 = .ok (.putfield 32, 3) := by decide +kernel
theorem dX5_init_71 : decode cX5_init 71 = .ok (.aload_n 0, 1) := by decide +kernel
theorem dX5_init_72 : decode cX5_init 72 = .ok (.getfield 7, 3) := by decide +kernel
theorem dX5_init_75 : decode cX5_init 75 = .ok (.iconst 1, 1) := by decide +kernel
theorem dX5_init_76 : decode cX5_init 76 = .ok (.bipush 100, 2) := by decide +kernel
theorem dX5_init_78 : decode cX5_init 78 = .ok (.iastore, 1) := by decide +kernel
theorem dX5_init_79 : decode cX5_init 79 = .ok (.aload_n 0, 1) := by decide +kernel
theorem dX5_init_80 : decode cX5_init 80 = .ok (.getfield 7, 3) := by decide +kernel
theorem dX5_init_83 : decode cX5_init 83 = .ok (.iconst 2, 1) := by decide +kernel
theorem dX5_init_84 : decode cX5_init 84 = .ok (.bipush 100, 2) := by decide +kernel
theorem dX5_init_86 : decode cX5_init 86 = .ok (.iastore, 1) := by decide +kernel
theorem dX5_init_87 : decode cX5_init 87 = .ok (.aload_n 0, 1) := by decide +kernel
theorem dX5_init_88 : decode cX5_init 88 = .ok (.getfield 7, 3) := by decide +kernel
theorem dX5_init_91 : decode cX5_init 91 = .ok (.iconst 3, 1) := by decide +kernel
theorem dX5_init_92 : decode cX5_init 92 = .ok (.iconst 2, 1) := by decide +kernel
theorem dX5_init_93 : decode cX5_init 93 = .ok (.iastore, 1) := by decide +kernel
theorem dX5_init_94 : decode cX5_init 94 = .ok (.aload_n 0, 1) := by decide +kernel
theorem dX5_init_95 : decode cX5_init 95 = .ok (.getfield 7, 3) := by decide +kernel
theorem dX5_init_98 : decode cX5_init 98 = .ok (.iconst 4, 1) := by decide +kernel
theorem dX5_init_99 : decode cX5_init 99 = .ok (.bipush 50, 2) := by decide +kernel
theorem dX5_init_101 : decode cX5_init 101 = .ok (.iastore, 1) := by decide +kernel
theorem dX5_init_102 : decode cX5_init 102 = .ok (.aload_n 0, 1) := by decide +kernel
theorem dX5_init_103 : decode cX5_init 103 = .ok (.getfield 7, 3) := by decide +kernel
theorem dX5_init_106 : decode cX5_init 106 = .ok (.iconst 5, 1) := by decide +kernel
theorem dX5_init_107 : decode cX5_init 107 = .ok (.sipush 200, 3) := by decide +kernel
theorem dX5_init_110 : decode cX5_init 110 = .ok (.iastore, 1) := by decide +kernel
theorem dX5_init_111 : decode cX5_init 111 = .ok (.aload_n 0, 1) := by decide +kernel
theorem dX5_init_112 : decode cX5_init 112 = .ok (.getfield 7, 3) := by decide +kernel
theorem dX5_init_115 : decode cX5_init 115 = .ok (.bipush 6, 2) := by decide +kernel
theorem dX5_init_117 : decode cX5_init 117 = .ok (.sipush 1600, 3) := by decide +kernel
theorem dX5_init_120 : decode cX5_init 120 = .ok (.iastore, 1) := by decide +kernel
theorem dX5_init_121 : decode cX5_init 121 = .ok (.aload_n 0, 1) := by decide +kernel
theorem dX5_init_122 : decode cX5_init 122 = .ok (.getfield 7, 3) := by decide +kernel
theorem dX5_init_125 : decode cX5_init 125 = .ok (.bipush 7, 2) := by decide +kernel
theorem dX5_init_127 : decode cX5_init 127 = .ok (.bipush 16, 2) := by decide +kernel
theorem dX5_init_129 : decode cX5_init 129 = .ok (.iastore, 1) := by decide +kernel
theorem dX5_init_130 : decode cX5_init 130 = .ok (.aload_n 0, 1) := by decide +kernel
theorem dX5_init_131 : decode cX5_init 131 = .ok (.getfield 7, 3) := by decide +kernel
theorem dX5_init_134 : decode cX5_init 134 = .ok (.bipush 9, 2) := by decide +kernel
theorem dX5_init_136 : decode cX5_init 136 = .ok (.bipush 50, 2) := by decide +kernel
theorem dX5_init_138 : decode cX5_init 138 = .ok (.iastore, 1) := by decide +kernel
theorem dX5_init_139 : decode cX5_init 139 = .ok (.aload_n 0, 1) := by decide +kernel
theorem dX5_init_140 : decode cX5_init 140 = .ok (.bipush 16, 2) := by decide +kernel
theorem dX5_init_142 : decode cX5_init 142 = .ok (.invokevirtual 36, 3) := by decide +kernel
theorem dX5_init_145 : decode cX5_init 145 = .ok (.return_, 1) := by decide +kernel
theorem dX5_isIn_0 : decode cX5_isIn 0 = .ok (.iload_n 0, 1) := by decide +kernel
theorem dX5_isIn_1 : decode cX5_isIn 1 = .ok (.iload_n 1, 1) := by decide +kernel
theorem dX5_isIn_2 : decode cX5_isIn 2 = .ok (.if_icmp .lt 12, 3) := by decide +kernel
theorem dX5_isIn_5 : decode cX5_isIn 5 = .ok (.iload_n 0, 1) := by decide +kernel
theorem dX5_isIn_6 : decode cX5_isIn 6 = .ok (.iload_n 2, 1) := by decide +kernel
theorem dX5_isIn_7 : decode cX5_isIn 7 = .ok (.if_icmp .gt 7, 3) := by decide +kernel
theorem dX5_isIn_10 : decode cX5_isIn 10 = .ok (.iconst 1, 1) := by decide +kernel
theorem dX5_isIn_11 : decode cX5_isIn 11 = .ok (.goto 4, 3) := by decide +kernel
theorem dX5_isIn_14 : decode cX5_isIn 14 = .ok (.iconst 0, 1) := by decide +kernel
theorem dX5_isIn_15 : decode cX5_isIn 15 = .ok (.ireturn, 1) := by decide +kernel
set_option maxRecDepth 20000 in
theorem ggX5_layLoop_X5_layOrder : GoodIn wsX5_layLoop wsX5_layOrder := goodIn_r _ [6, 1, 7, 8, 9, 10, 11, 12, 13, 14, 15, 16, 17] (by decide +kernel) (by decide +kernel)
set_option maxRecDepth 20000 in
theorem gX5_layLoop_X5_layOrder : GoodIn wsX5_layLoop (wsV RX5 40 RX5 yX5_layOrder wsX5_layOrder) := goodIn_app (goodIn_of _ (by decide +kernel)) ggX5_layLoop_X5_layOrder
theorem dX5_layLoop_0 : decode cX5_layLoop 0 = .ok (.aload_n 0, 1) := by decide +kernel
theorem dX5_layLoop_1 : decode cX5_layLoop 1 = .ok (.getfield 7, 3) := by decide +kernel
theorem dX5_layLoop_4 : decode cX5_layLoop 4 = .ok (.iconst 0, 1) := by decide +kernel
theorem dX5_layLoop_5 : decode cX5_layLoop 5 = .ok (.iload_n 1, 1) := by decide +kernel
theorem dX5_layLoop_6 : decode cX5_layLoop 6 = .ok (.iastore, 1) := by decide +kernel
theorem dX5_layLoop_7 : decode cX5_layLoop 7 = .ok (.iconst 0, 1) := by decide +kernel
theorem dX5_layLoop_8 : decode cX5_layLoop 8 = .ok (.istore_n 2, 1) := by decide +kernel
theorem dX5_layLoop_9 : decode cX5_layLoop 9 = .ok (.iload_n 2, 1) := by decide +kernel
theorem dX5_layLoop_10 : decode cX5_layLoop 10 = .ok (.bipush 64, 2) := by decide +kernel
theorem dX5_layLoop_12 : decode cX5_layLoop 12 = .ok (.if_icmp .ge 19, 3) := by decide +kernel
theorem dX5_layLoop_15 : decode cX5_layLoop 15 = .ok (.aload_n 0, 1) := by decide +kernel
theorem dX5_layLoop_16 : decode cX5_layLoop 16 = .ok (.getfield 7, 3) := by decide +kernel
theorem dX5_layLoop_19 : decode cX5_layLoop 19 = .ok (.bipush 10, 2) := by decide +kernel
theorem dX5_layLoop_21 : decode cX5_layLoop 21 = .ok (.iload_n 2, 1) := by decide +kernel
theorem dX5_layLoop_22 : decode cX5_layLoop 22 = .ok (.iadd, 1) := by decide +kernel
theorem dX5_layLoop_23 : decode cX5_layLoop 23 = .ok (.iconst 0, 1) := by decide +kernel
theorem dX5_layLoop_24 : decode cX5_layLoop 24 = .ok (.iastore, 1) := by decide +kernel
theorem dX5_layLoop_25 : decode cX5_layLoop 25 = .ok (.iinc 2 1, 3) := by decide +kernel
theorem dX5_layLoop_28 : decode cX5_layLoop 28 = .ok (.goto (-19), 3) := by decide +kernel
theorem dX5_layLoop_31 : decode cX5_layLoop 31 = .ok (.aload_n 0, 1) := by decide +kernel
theorem dX5_layLoop_32 : decode cX5_layLoop 32 = .ok (.getfield 7, 3) := by decide +kernel
theorem dX5_layLoop_35 : decode cX5_layLoop 35 = .ok (.bipush 74, 2) := by decide +kernel
theorem dX5_layLoop_37 : decode cX5_layLoop 37 = .ok (.iconst 1, 1) := by decide +kernel
theorem dX5_layLoop_38 : decode cX5_layLoop 38 = .ok (.iastore, 1) := by decide +kernel
theorem dX5_layLoop_39 : decode cX5_layLoop 39 = .ok (.aload_n 0, 1) := by decide +kernel
theorem dX5_layLoop_40 : decode cX5_layLoop 40 = .ok (.getfield 7, 3) := by decide +kernel
theorem dX5_layLoop_43 : decode cX5_layLoop 43 = .ok (.bipush 75, 2) := by decide +kernel
theorem dX5_layLoop_45 : decode cX5_layLoop 45 = .ok (.iconst 0, 1) := by decide +kernel
theorem dX5_layLoop_46 : decode cX5_layLoop 46 = .ok (.iastore, 1) := by decide +kernel
theorem dX5_layLoop_47 : decode cX5_layLoop 47 = .ok (.aload_n 0, 1) := by decide +kernel
theorem dX5_layLoop_48 : decode cX5_layLoop 48 = .ok (.invokevirtual 40, 3) := by decide +kernel
theorem dX5_layLoop_51 : decode cX5_layLoop 51 = .ok (.return_, 1) := by decide +kernel
theorem dX5_layOrder_0 : decode cX5_layOrder 0 = .ok (.iconst 0, 1) := by decide +kernel
theorem dX5_layOrder_1 : decode cX5_layOrder 1 = .ok (.istore_n 1, 1) := by decide +kernel
theorem dX5_layOrder_2 : decode cX5_layOrder 2 = .ok (.iload_n 1, 1) := by decide +kernel
theorem dX5_layOrder_3 : decode cX5_layOrder 3 = .ok (.bipush 16, 2) := by decide +kernel
theorem dX5_layOrder_5 : decode cX5_layOrder 5 = .ok (.if_icmp .ge 19, 3) := by decide +kernel
theorem dX5_layOrder_8 : decode cX5_layOrder 8 = .ok (.aload_n 0, 1) := by decide +kernel
theorem dX5_layOrder_9 : decode cX5_layOrder 9 = .ok (.getfield 7, 3) := by decide +kernel
theorem dX5_layOrder_12 : decode cX5_layOrder 12 = .ok (.bipush 91, 2) := by decide +kernel
theorem dX5_layOrder_14 : decode cX5_layOrder 14 = .ok (.iload_n 1, 1) := by decide +kernel
theorem dX5_layOrder_15 : decode cX5_layOrder 15 = .ok (.iadd, 1) := by decide +kernel
theorem dX5_layOrder_16 : decode cX5_layOrder 16 = .ok (.iload_n 1, 1) := by decide +kernel
theorem dX5_layOrder_17 : decode cX5_layOrder 17 = .ok (.iastore, 1) := by decide +kernel
theorem dX5_layOrder_18 : decode cX5_layOrder 18 = .ok (.iinc 1 1, 3) := by decide +kernel
theorem dX5_layOrder_21 : decode cX5_layOrder 21 = .ok (.goto (-19), 3) := by decide +kernel
theorem dX5_layOrder_24 : decode cX5_layOrder 24 = .ok (.return_, 1) := by decide +kernel
theorem dX5_remember_0 : decode cX5_remember 0 = .ok (.aload_n 0, 1) := by decide +kernel
theorem dX5_remember_1 : decode cX5_remember 1 = .ok (.getfield 43, 3) := by decide +kernel
theorem dX5_remember_4 : decode cX5_remember 4 = .ok (.bipush 8, 2) := by decide +kernel
theorem dX5_remember_6 : decode cX5_remember 6 = .ok (.if_icmp .ne 43, 3) := by decide +kernel
theorem dX5_remember_9 : decode cX5_remember 9 = .ok (.iconst 0, 1) := by decide +kernel
theorem dX5_remember_10 : decode cX5_remember 10 = .ok (.istore_n 1, 1) := by decide +kernel
theorem dX5_remember_11 : decode cX5_remember 11 = .ok (.iload_n 1, 1) := by decide +kernel
theorem dX5_remember_12 : decode cX5_remember 12 = .ok (.sipush 749, 3) := by decide +kernel
theorem dX5_remember_15 : decode cX5_remember 15 = .ok (.if_icmp .ge 24, 3) := by decide +kernel
theorem dX5_remember_18 : decode cX5_remember 18 = .ok (.aload_n 0, 1) := by decide +kernel
theorem dX5_remember_19 : decode cX5_remember 19 = .ok (.getfield 13, 3) := by decide +kernel
theorem dX5_remember_22 : decode cX5_remember 22 = .ok (.iload_n 1, 1) := by decide +kernel
theorem dX5_remember_23 : decode cX5_remember 23 = .ok (.aload_n 0, 1) := by decide +kernel
theorem dX5_remember_24 : decode cX5_remember 24 = .ok (.getfield 13, 3) := by decide +kernel
theorem dX5_remember_27 : decode cX5_remember 27 = .ok (.iload_n 1, 1) := by decide +kernel
theorem dX5_remember_28 : decode cX5_remember 28 = .ok (.bipush 107, 2) := by decide +kernel
theorem dX5_remember_30 : decode cX5_remember 30 = .ok (.iadd, 1) := by decide +kernel
theorem dX5_remember_31 : decode cX5_remember 31 = .ok (.iaload, 1) := by decide +kernel
theorem dX5_remember_32 : decode cX5_remember 32 = .ok (.iastore, 1) := by decide +kernel
theorem dX5_remember_33 : decode cX5_remember 33 = .ok (.iinc 1 1, 3) := by decide +kernel
theorem dX5_remember_36 : decode cX5_remember 36 = .ok (.goto (-25), 3) := by decide +kernel
theorem dX5_remember_39 : decode cX5_remember 39 = .ok (.aload_n 0, 1) := by decide +kernel
theorem dX5_remember_40 : decode cX5_remember 40 = .ok (.dup, 1) := by decide +kernel
theorem dX5_remember_41 : decode cX5_remember 41 = .ok (.getfield 43, 3) := by decide +kernel
theorem dX5_remember_44 : decode cX5_remember 44 = .ok (.iconst 1, 1) := by decide +kernel
theorem dX5_remember_45 : decode cX5_remember 45 = .ok (.isub, 1) := by decide +kernel
theorem dX5_remember_46 : decode cX5_remember 46 = .ok (.putfield 43, 3) := by decide +kernel
theorem dX5_remember_49 : decode cX5_remember 49 = .ok (.iconst 0, 1) := by decide +kernel
theorem dX5_remember_50 : decode cX5_remember 50 = .ok (.istore_n 1, 1) := by decide +kernel
theorem dX5_remember_51 : decode cX5_remember 51 = .ok (.iload_n 1, 1) := by decide +kernel
theorem dX5_remember_52 : decode cX5_remember 52 = .ok (.bipush 107, 2) := by decide +kernel
theorem dX5_remember_54 : decode cX5_remember 54 = .ok (.if_icmp .ge 29, 3) := by decide +kernel
theorem dX5_remember_57 : decode cX5_remember 57 = .ok (.aload_n 0, 1) := by decide +kernel
theorem dX5_remember_58 : decode cX5_remember 58 = .ok (.getfield 13, 3) := by decide +kernel
theorem dX5_remember_61 : decode cX5_remember 61 = .ok (.bipush 107, 2) := by decide +kernel
theorem dX5_remember_63 : decode cX5_remember 63 = .ok (.aload_n 0, 1) := by decide +kernel
theorem dX5_remember_64 : decode cX5_remember 64 = .ok (.getfield 43, 3) := by decide +kernel
theorem dX5_remember_67 : decode cX5_remember 67 = .ok (.imul, 1) := by decide +kernel
theorem dX5_remember_68 : decode cX5_remember 68 = .ok (.iload_n 1, 1) := by decide +kernel
theorem dX5_remember_69 : decode cX5_remember 69 = .ok (.iadd, 1) := by decide +kernel
theorem dX5_remember_70 : decode cX5_remember 70 = .ok (.aload_n 0, 1) := by decide +kernel
theorem dX5_remember_71 : decode cX5_remember 71 = .ok (.getfield 7, 3) := by decide +kernel
theorem dX5_remember_74 : decode cX5_remember 74 = .ok (.iload_n 1, 1) := by decide +kernel
theorem dX5_remember_75 : decode cX5_remember 75 = .ok (.iaload, 1) := by decide +kernel
theorem dX5_remember_76 : decode cX5_remember 76 = .ok (.iastore, 1) := by decide +kernel
theorem dX5_remember_77 : decode cX5_remember 77 = .ok (.iinc 1 1, 3) := by decide +kernel
theorem dX5_remember_80 : decode cX5_remember 80 = .ok (.goto (-29), 3) := by decide +kernel
theorem dX5_remember_83 : decode cX5_remember 83 = .ok (.aload_n 0, 1) := by decide +kernel
theorem dX5_remember_84 : decode cX5_remember 84 = .ok (.dup, 1) := by decide +kernel
theorem dX5_remember_85 : decode cX5_remember 85 = .ok (.getfield 43, 3) := by decide +kernel
theorem dX5_remember_88 : decode cX5_remember 88 = .ok (.iconst 1, 1) := by decide +kernel
theorem dX5_remember_89 : decode cX5_remember 89 = .ok (.iadd, 1) := by decide +kernel
theorem dX5_remember_90 : decode cX5_remember 90 = .ok (.putfield 43, 3) := by decide +kernel
theorem dX5_remember_93 : decode cX5_remember 93 = .ok (.return_, 1) := by decide +kernel
set_option maxRecDepth 20000 in
theorem ggX5_isFrame_X5_isIn : GoodIn wsX5_isFrame wsX5_isIn := goodIn_r _ [5] (by decide +kernel) (by decide +kernel)
set_option maxRecDepth 20000 in
theorem gX5_isFrame_X5_isIn : GoodIn wsX5_isFrame (va_wsS RX5 47 yX5_isIn wsX5_isIn) := goodIn_app (goodIn_of _ (by decide +kernel)) ggX5_isFrame_X5_isIn
theorem dX5_isFrame_0 : decode cX5_isFrame 0 = .ok (.iload_n 1, 1) := by decide +kernel
theorem dX5_isFrame_1 : decode cX5_isFrame 1 = .ok (.iconst 0, 1) := by decide +kernel
theorem dX5_isFrame_2 : decode cX5_isFrame 2 = .ok (.aload_n 0, 1) := by decide +kernel
theorem dX5_isFrame_3 : decode cX5_isFrame 3 = .ok (.getfield 7, 3) := by decide +kernel
theorem dX5_isFrame_6 : decode cX5_isFrame 6 = .ok (.iconst 0, 1) := by decide +kernel
theorem dX5_isFrame_7 : decode cX5_isFrame 7 = .ok (.iaload, 1) := by decide +kernel
theorem dX5_isFrame_8 : decode cX5_isFrame 8 = .ok (.iconst 1, 1) := by decide +kernel
theorem dX5_isFrame_9 : decode cX5_isFrame 9 = .ok (.isub, 1) := by decide +kernel
theorem dX5_isFrame_10 : decode cX5_isFrame 10 = .ok (.invokestatic 47, 3) := by decide +kernel
theorem dX5_isFrame_13 : decode cX5_isFrame 13 = .ok (.ireturn, 1) := by decide +kernel
set_option maxRecDepth 20000 in
theorem ggX5_isSlice_X5_isIn : GoodIn wsX5_isSlice wsX5_isIn := goodIn_r _ [5] (by decide +kernel) (by decide +kernel)
set_option maxRecDepth 20000 in
theorem gX5_isSlice_X5_isIn : GoodIn wsX5_isSlice (va_wsS RX5 47 yX5_isIn wsX5_isIn) := goodIn_app (goodIn_of _ (by decide +kernel)) ggX5_isSlice_X5_isIn
theorem dX5_isSlice_0 : decode cX5_isSlice 0 = .ok (.iload_n 1, 1) := by decide +kernel
theorem dX5_isSlice_1 : decode cX5_isSlice 1 = .ok (.iconst 0, 1) := by decide +kernel
theorem dX5_isSlice_2 : decode cX5_isSlice 2 = .ok (.aload_n 0, 1) := by decide +kernel
theorem dX5_isSlice_3 : decode cX5_isSlice 3 = .ok (.getfield 7, 3) := by decide +kernel
theorem dX5_isSlice_6 : decode cX5_isSlice 6 = .ok (.bipush 74, 2) := by decide +kernel
theorem dX5_isSlice_8 : decode cX5_isSlice 8 = .ok (.iaload, 1) := by decide +kernel
theorem dX5_isSlice_9 : decode cX5_isSlice 9 = .ok (.iconst 1, 1) := by decide +kernel
theorem dX5_isSlice_10 : decode cX5_isSlice 10 = .ok (.isub, 1) := by decide +kernel
theorem dX5_isSlice_11 : decode cX5_isSlice 11 = .ok (.invokestatic 47, 3) := by decide +kernel
theorem dX5_isSlice_14 : decode cX5_isSlice 14 = .ok (.ireturn, 1) := by decide +kernel
theorem dX5_frameOf_0 : decode cX5_frameOf 0 = .ok (.iload_n 1, 1) := by decide +kernel
theorem dX5_frameOf_1 : decode cX5_frameOf 1 = .ok (.aload_n 0, 1) := by decide +kernel
theorem dX5_frameOf_2 : decode cX5_frameOf 2 = .ok (.getfield 7, 3) := by decide +kernel
theorem dX5_frameOf_5 : decode cX5_frameOf 5 = .ok (.bipush 74, 2) := by decide +kernel
theorem dX5_frameOf_7 : decode cX5_frameOf 7 = .ok (.iaload, 1) := by decide +kernel
theorem dX5_frameOf_8 : decode cX5_frameOf 8 = .ok (.if_icmp .ge 15, 3) := by decide +kernel
theorem dX5_frameOf_11 : decode cX5_frameOf 11 = .ok (.aload_n 0, 1) := by decide +kernel
theorem dX5_frameOf_12 : decode cX5_frameOf 12 = .ok (.getfield 7, 3) := by decide +kernel
theorem dX5_frameOf_15 : decode cX5_frameOf 15 = .ok (.bipush 75, 2) := by decide +kernel
theorem dX5_frameOf_17 : decode cX5_frameOf 17 = .ok (.iload_n 1, 1) := by decide +kernel
theorem dX5_frameOf_18 : decode cX5_frameOf 18 = .ok (.iadd, 1) := by decide +kernel
theorem dX5_frameOf_19 : decode cX5_frameOf 19 = .ok (.iaload, 1) := by decide +kernel
theorem dX5_frameOf_20 : decode cX5_frameOf 20 = .ok (.goto 9, 3) := by decide +kernel
theorem dX5_frameOf_23 : decode cX5_frameOf 23 = .ok (.aload_n 0, 1) := by decide +kernel
theorem dX5_frameOf_24 : decode cX5_frameOf 24 = .ok (.getfield 7, 3) := by decide +kernel
theorem dX5_frameOf_27 : decode cX5_frameOf 27 = .ok (.iconst 0, 1) := by decide +kernel
theorem dX5_frameOf_28 : decode cX5_frameOf 28 = .ok (.iaload, 1) := by decide +kernel
theorem dX5_frameOf_29 : decode cX5_frameOf 29 = .ok (.ireturn, 1) := by decide +kernel
set_option maxRecDepth 20000 in
theorem ggX5_lengthOf_X5_frameOf : GoodIn wsX5_lengthOf wsX5_frameOf := goodIn_r _ [6, 1, 7, 8, 9, 10, 11, 12, 13, 14, 15, 16, 17] (by decide +kernel) (by decide +kernel)
set_option maxRecDepth 20000 in
theorem gX5_lengthOf_X5_frameOf : GoodIn wsX5_lengthOf (wsV RX5 51 RX5 yX5_frameOf wsX5_frameOf) := goodIn_app (goodIn_of _ (by decide +kernel)) ggX5_lengthOf_X5_frameOf
theorem dX5_lengthOf_0 : decode cX5_lengthOf 0 = .ok (.aload_n 0, 1) := by decide +kernel
theorem dX5_lengthOf_1 : decode cX5_lengthOf 1 = .ok (.iload_n 1, 1) := by decide +kernel
theorem dX5_lengthOf_2 : decode cX5_lengthOf 2 = .ok (.iconst 1, 1) := by decide +kernel
theorem dX5_lengthOf_3 : decode cX5_lengthOf 3 = .ok (.iadd, 1) := by decide +kernel
theorem dX5_lengthOf_4 : decode cX5_lengthOf 4 = .ok (.invokevirtual 51, 3) := by decide +kernel
theorem dX5_lengthOf_7 : decode cX5_lengthOf 7 = .ok (.aload_n 0, 1) := by decide +kernel
theorem dX5_lengthOf_8 : decode cX5_lengthOf 8 = .ok (.iload_n 1, 1) := by decide +kernel
theorem dX5_lengthOf_9 : decode cX5_lengthOf 9 = .ok (.invokevirtual 51, 3) := by decide +kernel
theorem dX5_lengthOf_12 : decode cX5_lengthOf 12 = .ok (.isub, 1) := by decide +kernel
theorem dX5_lengthOf_13 : decode cX5_lengthOf 13 = .ok (.aload_n 0, 1) := by decide +kernel
theorem dX5_lengthOf_14 : decode cX5_lengthOf 14 = .ok (.getfield 7, 3) := by decide +kernel
theorem dX5_lengthOf_17 : decode cX5_lengthOf 17 = .ok (.iconst 1, 1) := by decide +kernel
theorem dX5_lengthOf_18 : decode cX5_lengthOf 18 = .ok (.iaload, 1) := by decide +kernel
theorem dX5_lengthOf_19 : decode cX5_lengthOf 19 = .ok (.imul, 1) := by decide +kernel
theorem dX5_lengthOf_20 : decode cX5_lengthOf 20 = .ok (.ireturn, 1) := by decide +kernel
theorem dX5_whole_0 : decode cX5_whole 0 = .ok (.aload_n 0, 1) := by decide +kernel
theorem dX5_whole_1 : decode cX5_whole 1 = .ok (.getfield 7, 3) := by decide +kernel
theorem dX5_whole_4 : decode cX5_whole 4 = .ok (.iconst 0, 1) := by decide +kernel
theorem dX5_whole_5 : decode cX5_whole 5 = .ok (.iaload, 1) := by decide +kernel
theorem dX5_whole_6 : decode cX5_whole 6 = .ok (.aload_n 0, 1) := by decide +kernel
theorem dX5_whole_7 : decode cX5_whole 7 = .ok (.getfield 7, 3) := by decide +kernel
theorem dX5_whole_10 : decode cX5_whole 10 = .ok (.iconst 1, 1) := by decide +kernel
theorem dX5_whole_11 : decode cX5_whole 11 = .ok (.iaload, 1) := by decide +kernel
theorem dX5_whole_12 : decode cX5_whole 12 = .ok (.imul, 1) := by decide +kernel
theorem dX5_whole_13 : decode cX5_whole 13 = .ok (.ireturn, 1) := by decide +kernel
theorem dX5_findBy_0 : decode cX5_findBy 0 = .ok (.iconst 1, 1) := by decide +kernel
theorem dX5_findBy_1 : decode cX5_findBy 1 = .ok (.istore_n 2, 1) := by decide +kernel
theorem dX5_findBy_2 : decode cX5_findBy 2 = .ok (.aload_n 0, 1) := by decide +kernel
theorem dX5_findBy_3 : decode cX5_findBy 3 = .ok (.getfield 19, 3) := by decide +kernel
theorem dX5_findBy_6 : decode cX5_findBy 6 = .ok (.iconst 0, 1) := by decide +kernel
theorem dX5_findBy_7 : decode cX5_findBy 7 = .ok (.iconst 0, 1) := by decide +kernel
theorem dX5_findBy_8 : decode cX5_findBy 8 = .ok (.iastore, 1) := by decide +kernel
theorem dX5_findBy_9 : decode cX5_findBy 9 = .ok (.iconst 1, 1) := by decide +kernel
theorem dX5_findBy_10 : decode cX5_findBy 10 = .ok (.istore_n 3, 1) := by decide +kernel
theorem dX5_findBy_11 : decode cX5_findBy 11 = .ok (.iload_n 3, 1) := by decide +kernel
theorem dX5_findBy_12 : decode cX5_findBy 12 = .ok (.aload_n 0, 1) := by decide +kernel
theorem dX5_findBy_13 : decode cX5_findBy 13 = .ok (.getfield 7, 3) := by decide +kernel
theorem dX5_findBy_16 : decode cX5_findBy 16 = .ok (.iconst 0, 1) := by decide +kernel
theorem dX5_findBy_17 : decode cX5_findBy 17 = .ok (.iaload, 1) := by decide +kernel
theorem dX5_findBy_18 : decode cX5_findBy 18 = .ok (.if_icmp .ge 69, 3) := by decide +kernel
theorem dX5_findBy_21 : decode cX5_findBy 21 = .ok (.iload_n 2, 1) := by decide +kernel
theorem dX5_findBy_22 : decode cX5_findBy 22 = .ok (.bipush 16, 2) := by decide +kernel
theorem dX5_findBy_24 : decode cX5_findBy 24 = .ok (.if_icmp .ge 63, 3) := by decide +kernel
theorem dX5_findBy_27 : decode cX5_findBy 27 = .ok (.aload_n 0, 1) := by decide +kernel
theorem dX5_findBy_28 : decode cX5_findBy 28 = .ok (.getfield 7, 3) := by decide +kernel
theorem dX5_findBy_31 : decode cX5_findBy 31 = .ok (.bipush 10, 2) := by decide +kernel
theorem dX5_findBy_33 : decode cX5_findBy 33 = .ok (.iload_n 3, 1) := by decide +kernel
theorem dX5_findBy_34 : decode cX5_findBy 34 = .ok (.iadd, 1) := by decide +kernel
theorem dX5_findBy_35 : decode cX5_findBy 35 = .ok (.iaload, 1) := by decide +kernel
theorem dX5_findBy_36 : decode cX5_findBy 36 = .ok (.aload_n 0, 1) := by decide +kernel
theorem dX5_findBy_37 : decode cX5_findBy 37 = .ok (.getfield 7, 3) := by decide +kernel
theorem dX5_findBy_40 : decode cX5_findBy 40 = .ok (.bipush 10, 2) := by decide +kernel
theorem dX5_findBy_42 : decode cX5_findBy 42 = .ok (.iload_n 3, 1) := by decide +kernel
theorem dX5_findBy_43 : decode cX5_findBy 43 = .ok (.iadd, 1) := by decide +kernel
theorem dX5_findBy_44 : decode cX5_findBy 44 = .ok (.iconst 1, 1) := by decide +kernel
theorem dX5_findBy_45 : decode cX5_findBy 45 = .ok (.isub, 1) := by decide +kernel
theorem dX5_findBy_46 : decode cX5_findBy 46 = .ok (.iaload, 1) := by decide +kernel
theorem dX5_findBy_47 : decode cX5_findBy 47 = .ok (.isub, 1) := by decide +kernel
theorem dX5_findBy_48 : decode cX5_findBy 48 = .ok (.iload_n 1, 1) := by decide +kernel
theorem dX5_findBy_49 : decode cX5_findBy 49 = .ok (.if_icmp .lt 32, 3) := by decide +kernel
theorem dX5_findBy_52 : decode cX5_findBy 52 = .ok (.iload_n 3, 1) := by decide +kernel
theorem dX5_findBy_53 : decode cX5_findBy 53 = .ok (.aload_n 0, 1) := by decide +kernel
theorem dX5_findBy_54 : decode cX5_findBy 54 = .ok (.getfield 19, 3) := by decide +kernel
theorem dX5_findBy_57 : decode cX5_findBy 57 = .ok (.iload_n 2, 1) := by decide +kernel
theorem dX5_findBy_58 : decode cX5_findBy 58 = .ok (.iconst 1, 1) := by decide +kernel
theorem dX5_findBy_59 : decode cX5_findBy 59 = .ok (.isub, 1) := by decide +kernel
theorem dX5_findBy_60 : decode cX5_findBy 60 = .ok (.iaload, 1) := by decide +kernel
theorem dX5_findBy_61 : decode cX5_findBy 61 = .ok (.isub, 1) := by decide +kernel
theorem dX5_findBy_62 : decode cX5_findBy 62 = .ok (.aload_n 0, 1) := by decide +kernel
theorem dX5_findBy_63 : decode cX5_findBy 63 = .ok (.getfield 7, 3) := by decide +kernel
theorem dX5_findBy_66 : decode cX5_findBy 66 = .ok (.iconst 3, 1) := by decide +kernel
theorem dX5_findBy_67 : decode cX5_findBy 67 = .ok (.iaload, 1) := by decide +kernel
theorem dX5_findBy_68 : decode cX5_findBy 68 = .ok (.if_icmp .lt 13, 3) := by decide +kernel
theorem dX5_findBy_71 : decode cX5_findBy 71 = .ok (.aload_n 0, 1) := by decide +kernel
theorem dX5_findBy_72 : decode cX5_findBy 72 = .ok (.getfield 19, 3) := by decide +kernel
theorem dX5_findBy_75 : decode cX5_findBy 75 = .ok (.iload_n 2, 1) := by decide +kernel
theorem dX5_findBy_76 : decode cX5_findBy 76 = .ok (.iload_n 3, 1) := by decide +kernel
theorem dX5_findBy_77 : decode cX5_findBy 77 = .ok (.iastore, 1) := by decide +kernel
theorem dX5_findBy_78 : decode cX5_findBy 78 = .ok (.iinc 2 1, 3) := by decide +kernel
theorem dX5_findBy_81 : decode cX5_findBy 81 = .ok (.iinc 3 1, 3) := by decide +kernel
theorem dX5_findBy_84 : decode cX5_findBy 84 = .ok (.goto (-73), 3) := by decide +kernel
theorem dX5_findBy_87 : decode cX5_findBy 87 = .ok (.iload_n 2, 1) := by decide +kernel
theorem dX5_findBy_88 : decode cX5_findBy 88 = .ok (.ireturn, 1) := by decide +kernel
set_option maxRecDepth 20000 in
theorem ggX5_layFree_X5_lengthOf : GoodIn wsX5_layFree wsX5_lengthOf := goodIn_r _ [8, 1, 9, 10, 11, 7, 12, 21, 22, 23, 24, 25, 26, 27, 28, 29, 30, 31] (by decide +kernel) (by decide +kernel)
set_option maxRecDepth 20000 in
theorem gX5_layFree_X5_lengthOf : GoodIn wsX5_layFree (wsV RX5 55 RX5 yX5_lengthOf wsX5_lengthOf) := goodIn_app (goodIn_of _ (by decide +kernel)) ggX5_layFree_X5_lengthOf
set_option maxRecDepth 20000 in
theorem ggX5_layFree_X5_whole : GoodIn wsX5_layFree wsX5_whole := goodIn_r _ [16, 1, 21, 22, 23, 24, 25, 26, 27, 28, 29, 30, 31] (by decide +kernel) (by decide +kernel)
set_option maxRecDepth 20000 in
theorem gX5_layFree_X5_whole : GoodIn wsX5_layFree (wsV RX5 58 RX5 yX5_whole wsX5_whole) := goodIn_app (goodIn_of _ (by decide +kernel)) ggX5_layFree_X5_whole
set_option maxRecDepth 20000 in
theorem ggX5_layFree_X5_remainder : GoodIn wsX5_layFree wsX5_remainder := goodIn_r _ [20, 1, 4, 5, 6, 7, 8, 9, 10, 11, 12, 13, 14, 15, 16, 21, 22, 23, 24, 25, 26, 27, 28, 29, 30, 31] (by decide +kernel) (by decide +kernel)
set_option maxRecDepth 20000 in
theorem gX5_layFree_X5_remainder : GoodIn wsX5_layFree (wsV RX5 62 RX5 yX5_remainder wsX5_remainder) := goodIn_app (goodIn_of _ (by decide +kernel)) ggX5_layFree_X5_remainder
theorem dX5_layFree_0 : decode cX5_layFree 0 = .ok (.iconst 0, 1) := by decide +kernel
theorem dX5_layFree_1 : decode cX5_layFree 1 = .ok (.istore_n 1, 1) := by decide +kernel
theorem dX5_layFree_2 : decode cX5_layFree 2 = .ok (.iconst 0, 1) := by decide +kernel
theorem dX5_layFree_3 : decode cX5_layFree 3 = .ok (.istore_n 2, 1) := by decide +kernel
theorem dX5_layFree_4 : decode cX5_layFree 4 = .ok (.iload_n 2, 1) := by decide +kernel
theorem dX5_layFree_5 : decode cX5_layFree 5 = .ok (.aload_n 0, 1) := by decide +kernel
theorem dX5_layFree_6 : decode cX5_layFree 6 = .ok (.getfield 7, 3) := by decide +kernel
theorem dX5_layFree_9 : decode cX5_layFree 9 = .ok (.bipush 74, 2) := by decide +kernel
theorem dX5_layFree_11 : decode cX5_layFree 11 = .ok (.iaload, 1) := by decide +kernel
theorem dX5_layFree_12 : decode cX5_layFree 12 = .ok (.if_icmp .ge 46, 3) := by decide +kernel
theorem dX5_layFree_15 : decode cX5_layFree 15 = .ok (.aload_n 0, 1) := by decide +kernel
theorem dX5_layFree_16 : decode cX5_layFree 16 = .ok (.getfield 22, 3) := by decide +kernel
theorem dX5_layFree_19 : decode cX5_layFree 19 = .ok (.iload_n 2, 1) := by decide +kernel
theorem dX5_layFree_20 : decode cX5_layFree 20 = .ok (.aload_n 0, 1) := by decide +kernel
theorem dX5_layFree_21 : decode cX5_layFree 21 = .ok (.iload_n 2, 1) := by decide +kernel
theorem dX5_layFree_22 : decode cX5_layFree 22 = .ok (.invokevirtual 55, 3) := by decide +kernel
theorem dX5_layFree_25 : decode cX5_layFree 25 = .ok (.i2l, 1) := by decide +kernel
theorem dX5_layFree_26 : decode cX5_layFree 26 = .ok (.aload_n 0, 1) := by decide +kernel
theorem dX5_layFree_27 : decode cX5_layFree 27 = .ok (.getfield 7, 3) := by decide +kernel
theorem dX5_layFree_30 : decode cX5_layFree 30 = .ok (.bipush 6, 2) := by decide +kernel
theorem dX5_layFree_32 : decode cX5_layFree 32 = .ok (.iaload, 1) := by decide +kernel
theorem dX5_layFree_33 : decode cX5_layFree 33 = .ok (.i2l, 1) := by decide +kernel
theorem dX5_layFree_34 : decode cX5_layFree 34 = .ok (.lmul, 1) := by decide +kernel
theorem dX5_layFree_35 : decode cX5_layFree 35 = .ok (.aload_n 0, 1) := by decide +kernel
theorem dX5_layFree_36 : decode cX5_layFree 36 = .ok (.invokevirtual 58, 3) := by decide +kernel
theorem dX5_layFree_39 : decode cX5_layFree 39 = .ok (.i2l, 1) := by decide +kernel
theorem dX5_layFree_40 : decode cX5_layFree 40 = .ok (.ldiv, 1) := by decide +kernel
theorem dX5_layFree_41 : decode cX5_layFree 41 = .ok (.l2i, 1) := by decide +kernel
theorem dX5_layFree_42 : decode cX5_layFree 42 = .ok (.iastore, 1) := by decide +kernel
theorem dX5_layFree_43 : decode cX5_layFree 43 = .ok (.iload_n 1, 1) := by decide +kernel
theorem dX5_layFree_44 : decode cX5_layFree 44 = .ok (.aload_n 0, 1) := by decide +kernel
theorem dX5_layFree_45 : decode cX5_layFree 45 = .ok (.getfield 22, 3) := by decide +kernel
theorem dX5_layFree_48 : decode cX5_layFree 48 = .ok (.iload_n 2, 1) := by decide +kernel
theorem dX5_layFree_49 : decode cX5_layFree 49 = .ok (.iaload, 1) := by decide +kernel
theorem dX5_layFree_50 : decode cX5_layFree 50 = .ok (.iadd, 1) := by decide +kernel
theorem dX5_layFree_51 : decode cX5_layFree 51 = .ok (.istore_n 1, 1) := by decide +kernel
theorem dX5_layFree_52 : decode cX5_layFree 52 = .ok (.iinc 2 1, 3) := by decide +kernel
theorem dX5_layFree_55 : decode cX5_layFree 55 = .ok (.goto (-51), 3) := by decide +kernel
theorem dX5_layFree_58 : decode cX5_layFree 58 = .ok (.iconst 0, 1) := by decide +kernel
theorem dX5_layFree_59 : decode cX5_layFree 59 = .ok (.istore_n 2, 1) := by decide +kernel
theorem dX5_layFree_60 : decode cX5_layFree 60 = .ok (.iload_n 2, 1) := by decide +kernel
theorem dX5_layFree_61 : decode cX5_layFree 61 = .ok (.bipush 16, 2) := by decide +kernel
theorem dX5_layFree_63 : decode cX5_layFree 63 = .ok (.if_icmp .ge 16, 3) := by decide +kernel
theorem dX5_layFree_66 : decode cX5_layFree 66 = .ok (.aload_n 0, 1) := by decide +kernel
theorem dX5_layFree_67 : decode cX5_layFree 67 = .ok (.getfield 32, 3) := by decide +kernel
theorem dX5_layFree_70 : decode cX5_layFree 70 = .ok (.iload_n 2, 1) := by decide +kernel
theorem dX5_layFree_71 : decode cX5_layFree 71 = .ok (.iconst 0, 1) := by decide +kernel
theorem dX5_layFree_72 : decode cX5_layFree 72 = .ok (.bastore, 1) := by decide +kernel
theorem dX5_layFree_73 : decode cX5_layFree 73 = .ok (.iinc 2 1, 3) := by decide +kernel
theorem dX5_layFree_76 : decode cX5_layFree 76 = .ok (.goto (-16), 3) := by decide +kernel
theorem dX5_layFree_79 : decode cX5_layFree 79 = .ok (.aload_n 0, 1) := by decide +kernel
theorem dX5_layFree_80 : decode cX5_layFree 80 = .ok (.getfield 7, 3) := by decide +kernel
theorem dX5_layFree_83 : decode cX5_layFree 83 = .ok (.bipush 6, 2) := by decide +kernel
theorem dX5_layFree_85 : decode cX5_layFree 85 = .ok (.iaload, 1) := by decide +kernel
theorem dX5_layFree_86 : decode cX5_layFree 86 = .ok (.iload_n 1, 1) := by decide +kernel
theorem dX5_layFree_87 : decode cX5_layFree 87 = .ok (.isub, 1) := by decide +kernel
theorem dX5_layFree_88 : decode cX5_layFree 88 = .ok (.istore_n 2, 1) := by decide +kernel
theorem dX5_layFree_89 : decode cX5_layFree 89 = .ok (.iload_n 2, 1) := by decide +kernel
theorem dX5_layFree_90 : decode cX5_layFree 90 = .ok (.ifCond .le 100, 3) := by decide +kernel
theorem dX5_layFree_93 : decode cX5_layFree 93 = .ok (.bipush (-9), 2) := by decide +kernel
theorem dX5_layFree_95 : decode cX5_layFree 95 = .ok (.istore_n 3, 1) := by decide +kernel
theorem dX5_layFree_96 : decode cX5_layFree 96 = .ok (.iconst 0, 1) := by decide +kernel
theorem dX5_layFree_97 : decode cX5_layFree 97 = .ok (.istore 4, 2) := by decide +kernel
theorem dX5_layFree_99 : decode cX5_layFree 99 = .ok (.iload 4, 2) := by decide +kernel
theorem dX5_layFree_101 : decode cX5_layFree 101 = .ok (.aload_n 0, 1) := by decide +kernel
theorem dX5_layFree_102 : decode cX5_layFree 102 = .ok (.getfield 7, 3) := by decide +kernel
theorem dX5_layFree_105 : decode cX5_layFree 105 = .ok (.bipush 74, 2) := by decide +kernel
theorem dX5_layFree_107 : decode cX5_layFree 107 = .ok (.iaload, 1) := by decide +kernel
theorem dX5_layFree_108 : decode cX5_layFree 108 = .ok (.if_icmp .ge 59, 3) := by decide +kernel
theorem dX5_layFree_111 : decode cX5_layFree 111 = .ok (.aload_n 0, 1) := by decide +kernel
theorem dX5_layFree_112 : decode cX5_layFree 112 = .ok (.getfield 32, 3) := by decide +kernel
theorem dX5_layFree_115 : decode cX5_layFree 115 = .ok (.iload 4, 2) := by decide +kernel
theorem dX5_layFree_117 : decode cX5_layFree 117 = .ok (.baload, 1) := by decide +kernel
theorem dX5_layFree_118 : decode cX5_layFree 118 = .ok (.ifCond .ne 28, 3) := by decide +kernel
theorem dX5_layFree_121 : decode cX5_layFree 121 = .ok (.iload_n 3, 1) := by decide +kernel
theorem dX5_layFree_122 : decode cX5_layFree 122 = .ok (.bipush (-9), 2) := by decide +kernel
theorem dX5_layFree_124 : decode cX5_layFree 124 = .ok (.if_icmp .eq 18, 3) := by decide +kernel
theorem dX5_layFree_127 : decode cX5_layFree 127 = .ok (.aload_n 0, 1) := by decide +kernel
theorem dX5_layFree_128 : decode cX5_layFree 128 = .ok (.iload 4, 2) := by decide +kernel
theorem dX5_layFree_130 : decode cX5_layFree 130 = .ok (.invokevirtual 62, 3) := by decide +kernel
theorem dX5_layFree_133 : decode cX5_layFree 133 = .ok (.aload_n 0, 1) := by decide +kernel
theorem dX5_layFree_134 : decode cX5_layFree 134 = .ok (.iload_n 3, 1) := by decide +kernel
theorem dX5_layFree_135 : decode cX5_layFree 135 = .ok (.invokevirtual 62, 3) := by decide +kernel
theorem dX5_layFree_138 : decode cX5_layFree 138 = .ok (.lcmp, 1) := by decide +kernel
theorem dX5_layFree_139 : decode cX5_layFree 139 = .ok (.ifCond .le 7, 3) := by decide +kernel
theorem dX5_layFree_142 : decode cX5_layFree 142 = .ok (.iconst 1, 1) := by decide +kernel
theorem dX5_layFree_143 : decode cX5_layFree 143 = .ok (.goto 4, 3) := by decide +kernel
theorem dX5_layFree_146 : decode cX5_layFree 146 = .ok (.iconst 0, 1) := by decide +kernel
theorem dX5_layFree_147 : decode cX5_layFree 147 = .ok (.istore 5, 2) := by decide +kernel
theorem dX5_layFree_149 : decode cX5_layFree 149 = .ok (.iload 5, 2) := by decide +kernel
theorem dX5_layFree_151 : decode cX5_layFree 151 = .ok (.ifCond .eq 8, 3) := by decide +kernel
theorem dX5_layFree_154 : decode cX5_layFree 154 = .ok (.iload 4, 2) := by decide +kernel
theorem dX5_layFree_156 : decode cX5_layFree 156 = .ok (.goto 4, 3) := by decide +kernel
theorem dX5_layFree_159 : decode cX5_layFree 159 = .ok (.iload_n 3, 1) := by decide +kernel
theorem dX5_layFree_160 : decode cX5_layFree 160 = .ok (.istore_n 3, 1) := by decide +kernel
theorem dX5_layFree_161 : decode cX5_layFree 161 = .ok (.iinc 4 1, 3) := by decide +kernel
theorem dX5_layFree_164 : decode cX5_layFree 164 = .ok (.goto (-65), 3) := by decide +kernel
theorem dX5_layFree_167 : decode cX5_layFree 167 = .ok (.aload_n 0, 1) := by decide +kernel
theorem dX5_layFree_168 : decode cX5_layFree 168 = .ok (.getfield 32, 3) := by decide +kernel
theorem dX5_layFree_171 : decode cX5_layFree 171 = .ok (.iload_n 3, 1) := by decide +kernel
theorem dX5_layFree_172 : decode cX5_layFree 172 = .ok (.iconst 1, 1) := by decide +kernel
theorem dX5_layFree_173 : decode cX5_layFree 173 = .ok (.bastore, 1) := by decide +kernel
theorem dX5_layFree_174 : decode cX5_layFree 174 = .ok (.aload_n 0, 1) := by decide +kernel
theorem dX5_layFree_175 : decode cX5_layFree 175 = .ok (.getfield 22, 3) := by decide +kernel
theorem dX5_layFree_178 : decode cX5_layFree 178 = .ok (.iload_n 3, 1) := by decide +kernel
theorem dX5_layFree_179 : decode cX5_layFree 179 = .ok (.dup2, 1) := by decide +kernel
theorem dX5_layFree_180 : decode cX5_layFree 180 = .ok (.iaload, 1) := by decide +kernel
theorem dX5_layFree_181 : decode cX5_layFree 181 = .ok (.iconst 1, 1) := by decide +kernel
theorem dX5_layFree_182 : decode cX5_layFree 182 = .ok (.iadd, 1) := by decide +kernel
theorem dX5_layFree_183 : decode cX5_layFree 183 = .ok (.iastore, 1) := by decide +kernel
theorem dX5_layFree_184 : decode cX5_layFree 184 = .ok (.iinc 2 (-1), 3) := by decide +kernel
theorem dX5_layFree_187 : decode cX5_layFree 187 = .ok (.goto (-98), 3) := by decide +kernel
theorem dX5_layFree_190 : decode cX5_layFree 190 = .ok (.return_, 1) := by decide +kernel
set_option maxRecDepth 20000 in
theorem ggX5_remainder_X5_lengthOf : GoodIn wsX5_remainder wsX5_lengthOf := goodIn_r _ [6, 1, 7, 8, 9, 5, 10, 15, 16, 17, 18, 19, 20, 21, 22, 23, 24, 25] (by decide +kernel) (by decide +kernel)
set_option maxRecDepth 20000 in
theorem gX5_remainder_X5_lengthOf : GoodIn wsX5_remainder (wsV RX5 55 RX5 yX5_lengthOf wsX5_lengthOf) := goodIn_app (goodIn_of _ (by decide +kernel)) ggX5_remainder_X5_lengthOf
set_option maxRecDepth 20000 in
theorem ggX5_remainder_X5_whole : GoodIn wsX5_remainder wsX5_whole := goodIn_r _ [14, 1, 15, 16, 17, 18, 19, 20, 21, 22, 23, 24, 25] (by decide +kernel) (by decide +kernel)
set_option maxRecDepth 20000 in
theorem gX5_remainder_X5_whole : GoodIn wsX5_remainder (wsV RX5 58 RX5 yX5_whole wsX5_whole) := goodIn_app (goodIn_of _ (by decide +kernel)) ggX5_remainder_X5_whole
theorem dX5_remainder_0 : decode cX5_remainder 0 = .ok (.aload_n 0, 1) := by decide +kernel
theorem dX5_remainder_1 : decode cX5_remainder 1 = .ok (.iload_n 1, 1) := by decide +kernel
theorem dX5_remainder_2 : decode cX5_remainder 2 = .ok (.invokevirtual 55, 3) := by decide +kernel
theorem dX5_remainder_5 : decode cX5_remainder 5 = .ok (.i2l, 1) := by decide +kernel
theorem dX5_remainder_6 : decode cX5_remainder 6 = .ok (.aload_n 0, 1) := by decide +kernel
theorem dX5_remainder_7 : decode cX5_remainder 7 = .ok (.getfield 7, 3) := by decide +kernel
theorem dX5_remainder_10 : decode cX5_remainder 10 = .ok (.bipush 6, 2) := by decide +kernel
theorem dX5_remainder_12 : decode cX5_remainder 12 = .ok (.iaload, 1) := by decide +kernel
theorem dX5_remainder_13 : decode cX5_remainder 13 = .ok (.i2l, 1) := by decide +kernel
theorem dX5_remainder_14 : decode cX5_remainder 14 = .ok (.lmul, 1) := by decide +kernel
theorem dX5_remainder_15 : decode cX5_remainder 15 = .ok (.aload_n 0, 1) := by decide +kernel
theorem dX5_remainder_16 : decode cX5_remainder 16 = .ok (.invokevirtual 58, 3) := by decide +kernel
theorem dX5_remainder_19 : decode cX5_remainder 19 = .ok (.i2l, 1) := by decide +kernel
theorem dX5_remainder_20 : decode cX5_remainder 20 = .ok (.lrem, 1) := by decide +kernel
theorem dX5_remainder_21 : decode cX5_remainder 21 = .ok (.lreturn, 1) := by decide +kernel
theorem dX5_sampleAt_0 : decode cX5_sampleAt 0 = .ok (.iload_n 0, 1) := by decide +kernel
theorem dX5_sampleAt_1 : decode cX5_sampleAt 1 = .ok (.i2l, 1) := by decide +kernel
theorem dX5_sampleAt_2 : decode cX5_sampleAt 2 = .ok (.iload_n 1, 1) := by decide +kernel
theorem dX5_sampleAt_3 : decode cX5_sampleAt 3 = .ok (.i2l, 1) := by decide +kernel
theorem dX5_sampleAt_4 : decode cX5_sampleAt 4 = .ok (.lmul, 1) := by decide +kernel
theorem dX5_sampleAt_5 : decode cX5_sampleAt 5 = .ok (.iload_n 2, 1) := by decide +kernel
theorem dX5_sampleAt_6 : decode cX5_sampleAt 6 = .ok (.i2l, 1) := by decide +kernel
theorem dX5_sampleAt_7 : decode cX5_sampleAt 7 = .ok (.ldiv, 1) := by decide +kernel
theorem dX5_sampleAt_8 : decode cX5_sampleAt 8 = .ok (.l2i, 1) := by decide +kernel
theorem dX5_sampleAt_9 : decode cX5_sampleAt 9 = .ok (.ireturn, 1) := by decide +kernel
set_option maxRecDepth 20000 in
theorem ggX5_fits_X5_lengthOf : GoodIn wsX5_fits wsX5_lengthOf := goodIn_r _ [7, 1, 8, 9, 10, 6, 11, 12, 13, 14, 15, 16, 17, 18, 19, 20, 21, 22] (by decide +kernel) (by decide +kernel)
set_option maxRecDepth 20000 in
theorem gX5_fits_X5_lengthOf : GoodIn wsX5_fits (wsV RX5 55 RX5 yX5_lengthOf wsX5_lengthOf) := goodIn_app (goodIn_of _ (by decide +kernel)) ggX5_fits_X5_lengthOf
theorem dX5_fits_0 : decode cX5_fits 0 = .ok (.iload_n 2, 1) := by decide +kernel
theorem dX5_fits_1 : decode cX5_fits 1 = .ok (.i2l, 1) := by decide +kernel
theorem dX5_fits_2 : decode cX5_fits 2 = .ok (.aload_n 0, 1) := by decide +kernel
theorem dX5_fits_3 : decode cX5_fits 3 = .ok (.iload_n 1, 1) := by decide +kernel
theorem dX5_fits_4 : decode cX5_fits 4 = .ok (.invokevirtual 55, 3) := by decide +kernel
theorem dX5_fits_7 : decode cX5_fits 7 = .ok (.i2l, 1) := by decide +kernel
theorem dX5_fits_8 : decode cX5_fits 8 = .ok (.aload_n 0, 1) := by decide +kernel
theorem dX5_fits_9 : decode cX5_fits 9 = .ok (.getfield 7, 3) := by decide +kernel
theorem dX5_fits_12 : decode cX5_fits 12 = .ok (.iconst 4, 1) := by decide +kernel
theorem dX5_fits_13 : decode cX5_fits 13 = .ok (.iaload, 1) := by decide +kernel
theorem dX5_fits_14 : decode cX5_fits 14 = .ok (.i2l, 1) := by decide +kernel
theorem dX5_fits_15 : decode cX5_fits 15 = .ok (.lmul, 1) := by decide +kernel
theorem dX5_fits_16 : decode cX5_fits 16 = .ok (.ldc2_w 66, 3) := by decide +kernel
theorem dX5_fits_19 : decode cX5_fits 19 = .ok (.ldiv, 1) := by decide +kernel
theorem dX5_fits_20 : decode cX5_fits 20 = .ok (.lcmp, 1) := by decide +kernel
theorem dX5_fits_21 : decode cX5_fits 21 = .ok (.ifCond .lt 31, 3) := by decide +kernel
theorem dX5_fits_24 : decode cX5_fits 24 = .ok (.iload_n 2, 1) := by decide +kernel
theorem dX5_fits_25 : decode cX5_fits 25 = .ok (.i2l, 1) := by decide +kernel
theorem dX5_fits_26 : decode cX5_fits 26 = .ok (.aload_n 0, 1) := by decide +kernel
theorem dX5_fits_27 : decode cX5_fits 27 = .ok (.iload_n 1, 1) := by decide +kernel
theorem dX5_fits_28 : decode cX5_fits 28 = .ok (.invokevirtual 55, 3) := by decide +kernel
theorem dX5_fits_31 : decode cX5_fits 31 = .ok (.i2l, 1) := by decide +kernel
theorem dX5_fits_32 : decode cX5_fits 32 = .ok (.aload_n 0, 1) := by decide +kernel
theorem dX5_fits_33 : decode cX5_fits 33 = .ok (.getfield 7, 3) := by decide +kernel
theorem dX5_fits_36 : decode cX5_fits 36 = .ok (.iconst 5, 1) := by decide +kernel
theorem dX5_fits_37 : decode cX5_fits 37 = .ok (.iaload, 1) := by decide +kernel
theorem dX5_fits_38 : decode cX5_fits 38 = .ok (.i2l, 1) := by decide +kernel
theorem dX5_fits_39 : decode cX5_fits 39 = .ok (.lmul, 1) := by decide +kernel
theorem dX5_fits_40 : decode cX5_fits 40 = .ok (.ldc2_w 66, 3) := by decide +kernel
theorem dX5_fits_43 : decode cX5_fits 43 = .ok (.ldiv, 1) := by decide +kernel
theorem dX5_fits_44 : decode cX5_fits 44 = .ok (.lcmp, 1) := by decide +kernel
theorem dX5_fits_45 : decode cX5_fits 45 = .ok (.ifCond .gt 7, 3) := by decide +kernel
theorem dX5_fits_48 : decode cX5_fits 48 = .ok (.iconst 1, 1) := by decide +kernel
theorem dX5_fits_49 : decode cX5_fits 49 = .ok (.goto 4, 3) := by decide +kernel
theorem dX5_fits_52 : decode cX5_fits 52 = .ok (.iconst 0, 1) := by decide +kernel
theorem dX5_fits_53 : decode cX5_fits 53 = .ok (.ireturn, 1) := by decide +kernel
set_option maxRecDepth 20000 in
theorem ggX5_off_X5_sampleAt : GoodIn wsX5_off wsX5_sampleAt := goodIn_r _ [5] (by decide +kernel) (by decide +kernel)
set_option maxRecDepth 20000 in
theorem gX5_off_X5_sampleAt : GoodIn wsX5_off (va_wsS RX5 68 yX5_sampleAt wsX5_sampleAt) := goodIn_app (goodIn_of _ (by decide +kernel)) ggX5_off_X5_sampleAt
set_option maxRecDepth 20000 in
theorem ggX5_off_X5_frameOf : GoodIn wsX5_off wsX5_frameOf := goodIn_r _ [9, 1, 10, 11, 12, 13, 14, 15, 16, 17, 18, 19, 20] (by decide +kernel) (by decide +kernel)
set_option maxRecDepth 20000 in
theorem gX5_off_X5_frameOf : GoodIn wsX5_off (wsV RX5 51 RX5 yX5_frameOf wsX5_frameOf) := goodIn_app (goodIn_of _ (by decide +kernel)) ggX5_off_X5_frameOf
theorem dX5_off_0 : decode cX5_off 0 = .ok (.iload_n 2, 1) := by decide +kernel
theorem dX5_off_1 : decode cX5_off 1 = .ok (.iload_n 3, 1) := by decide +kernel
theorem dX5_off_2 : decode cX5_off 2 = .ok (.iload 4, 2) := by decide +kernel
theorem dX5_off_4 : decode cX5_off 4 = .ok (.invokestatic 68, 3) := by decide +kernel
theorem dX5_off_7 : decode cX5_off 7 = .ok (.i2l, 1) := by decide +kernel
theorem dX5_off_8 : decode cX5_off 8 = .ok (.aload_n 0, 1) := by decide +kernel
theorem dX5_off_9 : decode cX5_off 9 = .ok (.getfield 7, 3) := by decide +kernel
theorem dX5_off_12 : decode cX5_off 12 = .ok (.iconst 0, 1) := by decide +kernel
theorem dX5_off_13 : decode cX5_off 13 = .ok (.iaload, 1) := by decide +kernel
theorem dX5_off_14 : decode cX5_off 14 = .ok (.i2l, 1) := by decide +kernel
theorem dX5_off_15 : decode cX5_off 15 = .ok (.lmul, 1) := by decide +kernel
theorem dX5_off_16 : decode cX5_off 16 = .ok (.aload_n 0, 1) := by decide +kernel
theorem dX5_off_17 : decode cX5_off 17 = .ok (.iload_n 1, 1) := by decide +kernel
theorem dX5_off_18 : decode cX5_off 18 = .ok (.invokevirtual 51, 3) := by decide +kernel
theorem dX5_off_21 : decode cX5_off 21 = .ok (.i2l, 1) := by decide +kernel
theorem dX5_off_22 : decode cX5_off 22 = .ok (.iload_n 3, 1) := by decide +kernel
theorem dX5_off_23 : decode cX5_off 23 = .ok (.i2l, 1) := by decide +kernel
theorem dX5_off_24 : decode cX5_off 24 = .ok (.lmul, 1) := by decide +kernel
theorem dX5_off_25 : decode cX5_off 25 = .ok (.lsub, 1) := by decide +kernel
theorem dX5_off_26 : decode cX5_off 26 = .ok (.lstore 5, 2) := by decide +kernel
theorem dX5_off_28 : decode cX5_off 28 = .ok (.lload 5, 2) := by decide +kernel
theorem dX5_off_30 : decode cX5_off 30 = .ok (.lconst 0, 1) := by decide +kernel
theorem dX5_off_31 : decode cX5_off 31 = .ok (.lcmp, 1) := by decide +kernel
theorem dX5_off_32 : decode cX5_off 32 = .ok (.ifCond .ge 9, 3) := by decide +kernel
theorem dX5_off_35 : decode cX5_off 35 = .ok (.lload 5, 2) := by decide +kernel
theorem dX5_off_37 : decode cX5_off 37 = .ok (.lneg, 1) := by decide +kernel
theorem dX5_off_38 : decode cX5_off 38 = .ok (.goto 5, 3) := by decide +kernel
theorem dX5_off_41 : decode cX5_off 41 = .ok (.lload 5, 2) := by decide +kernel
theorem dX5_off_43 : decode cX5_off 43 = .ok (.lreturn, 1) := by decide +kernel
set_option maxRecDepth 20000 in
theorem ggX5_bestFrom_X5_sampleAt : GoodIn wsX5_bestFrom wsX5_sampleAt := goodIn_r _ [7] (by decide +kernel) (by decide +kernel)
set_option maxRecDepth 20000 in
theorem gX5_bestFrom_X5_sampleAt : GoodIn wsX5_bestFrom (va_wsS RX5 68 yX5_sampleAt wsX5_sampleAt) := goodIn_app (goodIn_of _ (by decide +kernel)) ggX5_bestFrom_X5_sampleAt
set_option maxRecDepth 20000 in
theorem ggX5_bestFrom_X5_fits : GoodIn wsX5_bestFrom wsX5_fits := goodIn_r _ [11, 2, 12, 13, 14, 15, 6, 16, 17, 18, 19, 20, 25, 26, 27, 28, 29, 30, 31, 32, 33, 34, 35] (by decide +kernel) (by decide +kernel)
set_option maxRecDepth 20000 in
theorem gX5_bestFrom_X5_fits : GoodIn wsX5_bestFrom (wsV RX5 74 RX5 yX5_fits wsX5_fits) := goodIn_app (goodIn_of _ (by decide +kernel)) ggX5_bestFrom_X5_fits
set_option maxRecDepth 20000 in
theorem ggX5_bestFrom_X5_off : GoodIn wsX5_bestFrom wsX5_off := goodIn_r _ [24, 2, 4, 5, 6, 7, 17, 18, 19, 20, 25, 26, 27, 28, 29, 30, 31, 32, 33, 34, 35] (by decide +kernel) (by decide +kernel)
set_option maxRecDepth 20000 in
theorem gX5_bestFrom_X5_off : GoodIn wsX5_bestFrom (wsV RX5 78 RX5 yX5_off wsX5_off) := goodIn_app (goodIn_of _ (by decide +kernel)) ggX5_bestFrom_X5_off
theorem dX5_bestFrom_0 : decode cX5_bestFrom 0 = .ok (.iload_n 2, 1) := by decide +kernel
theorem dX5_bestFrom_1 : decode cX5_bestFrom 1 = .ok (.iload_n 3, 1) := by decide +kernel
theorem dX5_bestFrom_2 : decode cX5_bestFrom 2 = .ok (.iload 4, 2) := by decide +kernel
theorem dX5_bestFrom_4 : decode cX5_bestFrom 4 = .ok (.invokestatic 68, 3) := by decide +kernel
theorem dX5_bestFrom_7 : decode cX5_bestFrom 7 = .ok (.istore 5, 2) := by decide +kernel
theorem dX5_bestFrom_9 : decode cX5_bestFrom 9 = .ok (.ldc2_w 72, 3) := by decide +kernel
theorem dX5_bestFrom_12 : decode cX5_bestFrom 12 = .ok (.lstore 6, 2) := by decide +kernel
theorem dX5_bestFrom_14 : decode cX5_bestFrom 14 = .ok (.iload_n 1, 1) := by decide +kernel
theorem dX5_bestFrom_15 : decode cX5_bestFrom 15 = .ok (.aload_n 0, 1) := by decide +kernel
theorem dX5_bestFrom_16 : decode cX5_bestFrom 16 = .ok (.getfield 7, 3) := by decide +kernel
theorem dX5_bestFrom_19 : decode cX5_bestFrom 19 = .ok (.bipush 74, 2) := by decide +kernel
theorem dX5_bestFrom_21 : decode cX5_bestFrom 21 = .ok (.iaload, 1) := by decide +kernel
theorem dX5_bestFrom_22 : decode cX5_bestFrom 22 = .ok (.iconst 1, 1) := by decide +kernel
theorem dX5_bestFrom_23 : decode cX5_bestFrom 23 = .ok (.isub, 1) := by decide +kernel
theorem dX5_bestFrom_24 : decode cX5_bestFrom 24 = .ok (.if_icmp .ne 27, 3) := by decide +kernel
theorem dX5_bestFrom_27 : decode cX5_bestFrom 27 = .ok (.aload_n 0, 1) := by decide +kernel
theorem dX5_bestFrom_28 : decode cX5_bestFrom 28 = .ok (.iload_n 1, 1) := by decide +kernel
theorem dX5_bestFrom_29 : decode cX5_bestFrom 29 = .ok (.iload_n 3, 1) := by decide +kernel
theorem dX5_bestFrom_30 : decode cX5_bestFrom 30 = .ok (.iload 5, 2) := by decide +kernel
theorem dX5_bestFrom_32 : decode cX5_bestFrom 32 = .ok (.isub, 1) := by decide +kernel
theorem dX5_bestFrom_33 : decode cX5_bestFrom 33 = .ok (.invokevirtual 74, 3) := by decide +kernel
theorem dX5_bestFrom_36 : decode cX5_bestFrom 36 = .ok (.ifCond .eq 7, 3) := by decide +kernel
theorem dX5_bestFrom_39 : decode cX5_bestFrom 39 = .ok (.lconst 0, 1) := by decide +kernel
theorem dX5_bestFrom_40 : decode cX5_bestFrom 40 = .ok (.goto 6, 3) := by decide +kernel
theorem dX5_bestFrom_43 : decode cX5_bestFrom 43 = .ok (.ldc2_w 72, 3) := by decide +kernel
theorem dX5_bestFrom_46 : decode cX5_bestFrom 46 = .ok (.lstore 6, 2) := by decide +kernel
theorem dX5_bestFrom_48 : decode cX5_bestFrom 48 = .ok (.goto 77, 3) := by decide +kernel
theorem dX5_bestFrom_51 : decode cX5_bestFrom 51 = .ok (.iload_n 2, 1) := by decide +kernel
theorem dX5_bestFrom_52 : decode cX5_bestFrom 52 = .ok (.iconst 1, 1) := by decide +kernel
theorem dX5_bestFrom_53 : decode cX5_bestFrom 53 = .ok (.iadd, 1) := by decide +kernel
theorem dX5_bestFrom_54 : decode cX5_bestFrom 54 = .ok (.istore 8, 2) := by decide +kernel
theorem dX5_bestFrom_56 : decode cX5_bestFrom 56 = .ok (.iload 8, 2) := by decide +kernel
theorem dX5_bestFrom_58 : decode cX5_bestFrom 58 = .ok (.iload 4, 2) := by decide +kernel
theorem dX5_bestFrom_60 : decode cX5_bestFrom 60 = .ok (.if_icmp .ge 65, 3) := by decide +kernel
theorem dX5_bestFrom_63 : decode cX5_bestFrom 63 = .ok (.aload_n 0, 1) := by decide +kernel
theorem dX5_bestFrom_64 : decode cX5_bestFrom 64 = .ok (.iload_n 1, 1) := by decide +kernel
theorem dX5_bestFrom_65 : decode cX5_bestFrom 65 = .ok (.iload 8, 2) := by decide +kernel
theorem dX5_bestFrom_67 : decode cX5_bestFrom 67 = .ok (.iload_n 3, 1) := by decide +kernel
theorem dX5_bestFrom_68 : decode cX5_bestFrom 68 = .ok (.iload 4, 2) := by decide +kernel
theorem dX5_bestFrom_70 : decode cX5_bestFrom 70 = .ok (.invokestatic 68, 3) := by decide +kernel
theorem dX5_bestFrom_73 : decode cX5_bestFrom 73 = .ok (.iload 5, 2) := by decide +kernel
theorem dX5_bestFrom_75 : decode cX5_bestFrom 75 = .ok (.isub, 1) := by decide +kernel
theorem dX5_bestFrom_76 : decode cX5_bestFrom 76 = .ok (.invokevirtual 74, 3) := by decide +kernel
theorem dX5_bestFrom_79 : decode cX5_bestFrom 79 = .ok (.istore 9, 2) := by decide +kernel
theorem dX5_bestFrom_81 : decode cX5_bestFrom 81 = .ok (.aload_n 0, 1) := by decide +kernel
theorem dX5_bestFrom_82 : decode cX5_bestFrom 82 = .ok (.getfield 28, 3) := by decide +kernel
theorem dX5_bestFrom_85 : decode cX5_bestFrom 85 = .ok (.bipush 33, 2) := by decide +kernel
theorem dX5_bestFrom_87 : decode cX5_bestFrom 87 = .ok (.iload_n 1, 1) := by decide +kernel
theorem dX5_bestFrom_88 : decode cX5_bestFrom 88 = .ok (.iconst 1, 1) := by decide +kernel
theorem dX5_bestFrom_89 : decode cX5_bestFrom 89 = .ok (.iadd, 1) := by decide +kernel
theorem dX5_bestFrom_90 : decode cX5_bestFrom 90 = .ok (.imul, 1) := by decide +kernel
theorem dX5_bestFrom_91 : decode cX5_bestFrom 91 = .ok (.iload 8, 2) := by decide +kernel
theorem dX5_bestFrom_93 : decode cX5_bestFrom 93 = .ok (.iadd, 1) := by decide +kernel
theorem dX5_bestFrom_94 : decode cX5_bestFrom 94 = .ok (.laload, 1) := by decide +kernel
theorem dX5_bestFrom_95 : decode cX5_bestFrom 95 = .ok (.lstore 10, 2) := by decide +kernel
theorem dX5_bestFrom_97 : decode cX5_bestFrom 97 = .ok (.iload 9, 2) := by decide +kernel
theorem dX5_bestFrom_99 : decode cX5_bestFrom 99 = .ok (.ifCond .eq 16, 3) := by decide +kernel
theorem dX5_bestFrom_102 : decode cX5_bestFrom 102 = .ok (.lload 10, 2) := by decide +kernel
theorem dX5_bestFrom_104 : decode cX5_bestFrom 104 = .ok (.lload 6, 2) := by decide +kernel
theorem dX5_bestFrom_106 : decode cX5_bestFrom 106 = .ok (.lcmp, 1) := by decide +kernel
theorem dX5_bestFrom_107 : decode cX5_bestFrom 107 = .ok (.ifCond .ge 8, 3) := by decide +kernel
theorem dX5_bestFrom_110 : decode cX5_bestFrom 110 = .ok (.lload 10, 2) := by decide +kernel
theorem dX5_bestFrom_112 : decode cX5_bestFrom 112 = .ok (.goto 5, 3) := by decide +kernel
theorem dX5_bestFrom_115 : decode cX5_bestFrom 115 = .ok (.lload 6, 2) := by decide +kernel
theorem dX5_bestFrom_117 : decode cX5_bestFrom 117 = .ok (.lstore 6, 2) := by decide +kernel
theorem dX5_bestFrom_119 : decode cX5_bestFrom 119 = .ok (.iinc 8 1, 3) := by decide +kernel
theorem dX5_bestFrom_122 : decode cX5_bestFrom 122 = .ok (.goto (-66), 3) := by decide +kernel
theorem dX5_bestFrom_125 : decode cX5_bestFrom 125 = .ok (.lload 6, 2) := by decide +kernel
theorem dX5_bestFrom_127 : decode cX5_bestFrom 127 = .ok (.ldc2_w 72, 3) := by decide +kernel
theorem dX5_bestFrom_130 : decode cX5_bestFrom 130 = .ok (.lcmp, 1) := by decide +kernel
theorem dX5_bestFrom_131 : decode cX5_bestFrom 131 = .ok (.ifCond .ne 9, 3) := by decide +kernel
theorem dX5_bestFrom_134 : decode cX5_bestFrom 134 = .ok (.ldc2_w 72, 3) := by decide +kernel
theorem dX5_bestFrom_137 : decode cX5_bestFrom 137 = .ok (.goto 15, 3) := by decide +kernel
theorem dX5_bestFrom_140 : decode cX5_bestFrom 140 = .ok (.lload 6, 2) := by decide +kernel
theorem dX5_bestFrom_142 : decode cX5_bestFrom 142 = .ok (.aload_n 0, 1) := by decide +kernel
theorem dX5_bestFrom_143 : decode cX5_bestFrom 143 = .ok (.iload_n 1, 1) := by decide +kernel
theorem dX5_bestFrom_144 : decode cX5_bestFrom 144 = .ok (.iload_n 2, 1) := by decide +kernel
theorem dX5_bestFrom_145 : decode cX5_bestFrom 145 = .ok (.iload_n 3, 1) := by decide +kernel
theorem dX5_bestFrom_146 : decode cX5_bestFrom 146 = .ok (.iload 4, 2) := by decide +kernel
theorem dX5_bestFrom_148 : decode cX5_bestFrom 148 = .ok (.invokevirtual 78, 3) := by decide +kernel
theorem dX5_bestFrom_151 : decode cX5_bestFrom 151 = .ok (.ladd, 1) := by decide +kernel
theorem dX5_bestFrom_152 : decode cX5_bestFrom 152 = .ok (.lreturn, 1) := by decide +kernel
set_option maxRecDepth 20000 in
theorem ggX5_layGrid_X5_bestFrom : GoodIn wsX5_layGrid wsX5_bestFrom := goodIn_r _ [11, 3, 1, 2, 12, 13, 10, 14, 15, 16, 17, 18, 19, 20, 21, 22, 23, 24, 25, 26, 27, 28, 29, 30, 31, 32, 33, 34, 35, 36, 37, 38, 39, 40, 41, 42] (by decide +kernel) (by decide +kernel)
set_option maxRecDepth 20000 in
theorem gX5_layGrid_X5_bestFrom : GoodIn wsX5_layGrid (wsV RX5 82 RX5 yX5_bestFrom wsX5_bestFrom) := goodIn_app (goodIn_of _ (by decide +kernel)) ggX5_layGrid_X5_bestFrom
set_option maxRecDepth 20000 in
theorem ggX5_layGrid_X5_off : GoodIn wsX5_layGrid wsX5_off := goodIn_r _ [31, 1, 12, 13, 10, 14, 24, 25, 26, 27, 32, 33, 34, 35, 36, 37, 38, 39, 40, 41, 42] (by decide +kernel) (by decide +kernel)
set_option maxRecDepth 20000 in
theorem gX5_layGrid_X5_off : GoodIn wsX5_layGrid (wsV RX5 78 RX5 yX5_off wsX5_off) := goodIn_app (goodIn_of _ (by decide +kernel)) ggX5_layGrid_X5_off
set_option maxRecDepth 20000 in
theorem ggX5_layGrid_X5_sampleAt : GoodIn wsX5_layGrid wsX5_sampleAt := goodIn_r _ [14] (by decide +kernel) (by decide +kernel)
set_option maxRecDepth 20000 in
theorem gX5_layGrid_X5_sampleAt : GoodIn wsX5_layGrid (va_wsS RX5 68 yX5_sampleAt wsX5_sampleAt) := goodIn_app (goodIn_of _ (by decide +kernel)) ggX5_layGrid_X5_sampleAt
set_option maxRecDepth 20000 in
theorem ggX5_layGrid_X5_fits : GoodIn wsX5_layGrid wsX5_fits := goodIn_r _ [18, 1, 19, 20, 21, 22, 10, 23, 24, 25, 26, 27, 32, 33, 34, 35, 36, 37, 38, 39, 40, 41, 42] (by decide +kernel) (by decide +kernel)
set_option maxRecDepth 20000 in
theorem gX5_layGrid_X5_fits : GoodIn wsX5_layGrid (wsV RX5 74 RX5 yX5_fits wsX5_fits) := goodIn_app (goodIn_of _ (by decide +kernel)) ggX5_layGrid_X5_fits
theorem dX5_layGrid_0 : decode cX5_layGrid 0 = .ok (.aload_n 0, 1) := by decide +kernel
theorem dX5_layGrid_1 : decode cX5_layGrid 1 = .ok (.getfield 7, 3) := by decide +kernel
theorem dX5_layGrid_4 : decode cX5_layGrid 4 = .ok (.bipush 74, 2) := by decide +kernel
theorem dX5_layGrid_6 : decode cX5_layGrid 6 = .ok (.iaload, 1) := by decide +kernel
theorem dX5_layGrid_7 : decode cX5_layGrid 7 = .ok (.iconst 1, 1) := by decide +kernel
theorem dX5_layGrid_8 : decode cX5_layGrid 8 = .ok (.isub, 1) := by decide +kernel
theorem dX5_layGrid_9 : decode cX5_layGrid 9 = .ok (.istore_n 3, 1) := by decide +kernel
theorem dX5_layGrid_10 : decode cX5_layGrid 10 = .ok (.iload_n 3, 1) := by decide +kernel
theorem dX5_layGrid_11 : decode cX5_layGrid 11 = .ok (.ifCond .lt 60, 3) := by decide +kernel
theorem dX5_layGrid_14 : decode cX5_layGrid 14 = .ok (.iconst 0, 1) := by decide +kernel
theorem dX5_layGrid_15 : decode cX5_layGrid 15 = .ok (.istore 4, 2) := by decide +kernel
theorem dX5_layGrid_17 : decode cX5_layGrid 17 = .ok (.iload 4, 2) := by decide +kernel
theorem dX5_layGrid_19 : decode cX5_layGrid 19 = .ok (.iload_n 2, 1) := by decide +kernel
theorem dX5_layGrid_20 : decode cX5_layGrid 20 = .ok (.if_icmp .ge 45, 3) := by decide +kernel
theorem dX5_layGrid_23 : decode cX5_layGrid 23 = .ok (.aload_n 0, 1) := by decide +kernel
theorem dX5_layGrid_24 : decode cX5_layGrid 24 = .ok (.getfield 28, 3) := by decide +kernel
theorem dX5_layGrid_27 : decode cX5_layGrid 27 = .ok (.bipush 33, 2) := by decide +kernel
theorem dX5_layGrid_29 : decode cX5_layGrid 29 = .ok (.iload_n 3, 1) := by decide +kernel
theorem dX5_layGrid_30 : decode cX5_layGrid 30 = .ok (.imul, 1) := by decide +kernel
theorem dX5_layGrid_31 : decode cX5_layGrid 31 = .ok (.iload 4, 2) := by decide +kernel
theorem dX5_layGrid_33 : decode cX5_layGrid 33 = .ok (.iadd, 1) := by decide +kernel
theorem dX5_layGrid_34 : decode cX5_layGrid 34 = .ok (.iload_n 3, 1) := by decide +kernel
theorem dX5_layGrid_35 : decode cX5_layGrid 35 = .ok (.ifCond .ne 14, 3) := by decide +kernel
theorem dX5_layGrid_38 : decode cX5_layGrid 38 = .ok (.iload 4, 2) := by decide +kernel
theorem dX5_layGrid_40 : decode cX5_layGrid 40 = .ok (.ifCond .le 9, 3) := by decide +kernel
theorem dX5_layGrid_43 : decode cX5_layGrid 43 = .ok (.ldc2_w 72, 3) := by decide +kernel
theorem dX5_layGrid_46 : decode cX5_layGrid 46 = .ok (.goto 12, 3) := by decide +kernel
theorem dX5_layGrid_49 : decode cX5_layGrid 49 = .ok (.aload_n 0, 1) := by decide +kernel
theorem dX5_layGrid_50 : decode cX5_layGrid 50 = .ok (.iload_n 3, 1) := by decide +kernel
theorem dX5_layGrid_51 : decode cX5_layGrid 51 = .ok (.iload 4, 2) := by decide +kernel
theorem dX5_layGrid_53 : decode cX5_layGrid 53 = .ok (.iload_n 1, 1) := by decide +kernel
theorem dX5_layGrid_54 : decode cX5_layGrid 54 = .ok (.iload_n 2, 1) := by decide +kernel
theorem dX5_layGrid_55 : decode cX5_layGrid 55 = .ok (.invokevirtual 82, 3) := by decide +kernel
theorem dX5_layGrid_58 : decode cX5_layGrid 58 = .ok (.lastore, 1) := by decide +kernel
theorem dX5_layGrid_59 : decode cX5_layGrid 59 = .ok (.iinc 4 1, 3) := by decide +kernel
theorem dX5_layGrid_62 : decode cX5_layGrid 62 = .ok (.goto (-45), 3) := by decide +kernel
theorem dX5_layGrid_65 : decode cX5_layGrid 65 = .ok (.iinc 3 (-1), 3) := by decide +kernel
theorem dX5_layGrid_68 : decode cX5_layGrid 68 = .ok (.goto (-58), 3) := by decide +kernel
theorem dX5_layGrid_71 : decode cX5_layGrid 71 = .ok (.aload_n 0, 1) := by decide +kernel
theorem dX5_layGrid_72 : decode cX5_layGrid 72 = .ok (.aload_n 0, 1) := by decide +kernel
theorem dX5_layGrid_73 : decode cX5_layGrid 73 = .ok (.getfield 28, 3) := by decide +kernel
theorem dX5_layGrid_76 : decode cX5_layGrid 76 = .ok (.iconst 0, 1) := by decide +kernel
theorem dX5_layGrid_77 : decode cX5_layGrid 77 = .ok (.laload, 1) := by decide +kernel
theorem dX5_layGrid_78 : decode cX5_layGrid 78 = .ok (.putfield 85, 3) := by decide +kernel
theorem dX5_layGrid_81 : decode cX5_layGrid 81 = .ok (.aload_n 0, 1) := by decide +kernel
theorem dX5_layGrid_82 : decode cX5_layGrid 82 = .ok (.getfield 85, 3) := by decide +kernel
theorem dX5_layGrid_85 : decode cX5_layGrid 85 = .ok (.ldc2_w 72, 3) := by decide +kernel
theorem dX5_layGrid_88 : decode cX5_layGrid 88 = .ok (.lcmp, 1) := by decide +kernel
theorem dX5_layGrid_89 : decode cX5_layGrid 89 = .ok (.ifCond .ne 5, 3) := by decide +kernel
theorem dX5_layGrid_92 : decode cX5_layGrid 92 = .ok (.iconst 0, 1) := by decide +kernel
theorem dX5_layGrid_93 : decode cX5_layGrid 93 = .ok (.ireturn, 1) := by decide +kernel
theorem dX5_layGrid_94 : decode cX5_layGrid 94 = .ok (.aload_n 0, 1) := by decide +kernel
theorem dX5_layGrid_95 : decode cX5_layGrid 95 = .ok (.getfield 25, 3) := by decide +kernel
theorem dX5_layGrid_98 : decode cX5_layGrid 98 = .ok (.iconst 0, 1) := by decide +kernel
theorem dX5_layGrid_99 : decode cX5_layGrid 99 = .ok (.iconst 0, 1) := by decide +kernel
theorem dX5_layGrid_100 : decode cX5_layGrid 100 = .ok (.iastore, 1) := by decide +kernel
theorem dX5_layGrid_101 : decode cX5_layGrid 101 = .ok (.iconst 0, 1) := by decide +kernel
theorem dX5_layGrid_102 : decode cX5_layGrid 102 = .ok (.istore_n 3, 1) := by decide +kernel
theorem dX5_layGrid_103 : decode cX5_layGrid 103 = .ok (.iload_n 3, 1) := by decide +kernel
theorem dX5_layGrid_104 : decode cX5_layGrid 104 = .ok (.aload_n 0, 1) := by decide +kernel
theorem dX5_layGrid_105 : decode cX5_layGrid 105 = .ok (.getfield 7, 3) := by decide +kernel
theorem dX5_layGrid_108 : decode cX5_layGrid 108 = .ok (.bipush 74, 2) := by decide +kernel
theorem dX5_layGrid_110 : decode cX5_layGrid 110 = .ok (.iaload, 1) := by decide +kernel
theorem dX5_layGrid_111 : decode cX5_layGrid 111 = .ok (.iconst 1, 1) := by decide +kernel
theorem dX5_layGrid_112 : decode cX5_layGrid 112 = .ok (.isub, 1) := by decide +kernel
theorem dX5_layGrid_113 : decode cX5_layGrid 113 = .ok (.if_icmp .ge 114, 3) := by decide +kernel
theorem dX5_layGrid_116 : decode cX5_layGrid 116 = .ok (.aload_n 0, 1) := by decide +kernel
theorem dX5_layGrid_117 : decode cX5_layGrid 117 = .ok (.getfield 25, 3) := by decide +kernel
theorem dX5_layGrid_120 : decode cX5_layGrid 120 = .ok (.iload_n 3, 1) := by decide +kernel
theorem dX5_layGrid_121 : decode cX5_layGrid 121 = .ok (.iaload, 1) := by decide +kernel
theorem dX5_layGrid_122 : decode cX5_layGrid 122 = .ok (.iconst 1, 1) := by decide +kernel
theorem dX5_layGrid_123 : decode cX5_layGrid 123 = .ok (.iadd, 1) := by decide +kernel
theorem dX5_layGrid_124 : decode cX5_layGrid 124 = .ok (.istore 4, 2) := by decide +kernel
theorem dX5_layGrid_126 : decode cX5_layGrid 126 = .ok (.aload_n 0, 1) := by decide +kernel
theorem dX5_layGrid_127 : decode cX5_layGrid 127 = .ok (.getfield 28, 3) := by decide +kernel
theorem dX5_layGrid_130 : decode cX5_layGrid 130 = .ok (.bipush 33, 2) := by decide +kernel
theorem dX5_layGrid_132 : decode cX5_layGrid 132 = .ok (.iload_n 3, 1) := by decide +kernel
theorem dX5_layGrid_133 : decode cX5_layGrid 133 = .ok (.imul, 1) := by decide +kernel
theorem dX5_layGrid_134 : decode cX5_layGrid 134 = .ok (.aload_n 0, 1) := by decide +kernel
theorem dX5_layGrid_135 : decode cX5_layGrid 135 = .ok (.getfield 25, 3) := by decide +kernel
theorem dX5_layGrid_138 : decode cX5_layGrid 138 = .ok (.iload_n 3, 1) := by decide +kernel
theorem dX5_layGrid_139 : decode cX5_layGrid 139 = .ok (.iaload, 1) := by decide +kernel
theorem dX5_layGrid_140 : decode cX5_layGrid 140 = .ok (.iadd, 1) := by decide +kernel
theorem dX5_layGrid_141 : decode cX5_layGrid 141 = .ok (.laload, 1) := by decide +kernel
theorem dX5_layGrid_142 : decode cX5_layGrid 142 = .ok (.aload_n 0, 1) := by decide +kernel
theorem dX5_layGrid_143 : decode cX5_layGrid 143 = .ok (.iload_n 3, 1) := by decide +kernel
theorem dX5_layGrid_144 : decode cX5_layGrid 144 = .ok (.aload_n 0, 1) := by decide +kernel
theorem dX5_layGrid_145 : decode cX5_layGrid 145 = .ok (.getfield 25, 3) := by decide +kernel
theorem dX5_layGrid_148 : decode cX5_layGrid 148 = .ok (.iload_n 3, 1) := by decide +kernel
theorem dX5_layGrid_149 : decode cX5_layGrid 149 = .ok (.iaload, 1) := by decide +kernel
theorem dX5_layGrid_150 : decode cX5_layGrid 150 = .ok (.iload_n 1, 1) := by decide +kernel
theorem dX5_layGrid_151 : decode cX5_layGrid 151 = .ok (.iload_n 2, 1) := by decide +kernel
theorem dX5_layGrid_152 : decode cX5_layGrid 152 = .ok (.invokevirtual 78, 3) := by decide +kernel
theorem dX5_layGrid_155 : decode cX5_layGrid 155 = .ok (.lsub, 1) := by decide +kernel
theorem dX5_layGrid_156 : decode cX5_layGrid 156 = .ok (.lstore 5, 2) := by decide +kernel
theorem dX5_layGrid_158 : decode cX5_layGrid 158 = .ok (.aload_n 0, 1) := by decide +kernel
theorem dX5_layGrid_159 : decode cX5_layGrid 159 = .ok (.getfield 28, 3) := by decide +kernel
theorem dX5_layGrid_162 : decode cX5_layGrid 162 = .ok (.bipush 33, 2) := by decide +kernel
theorem dX5_layGrid_164 : decode cX5_layGrid 164 = .ok (.iload_n 3, 1) := by decide +kernel
theorem dX5_layGrid_165 : decode cX5_layGrid 165 = .ok (.iconst 1, 1) := by decide +kernel
theorem dX5_layGrid_166 : decode cX5_layGrid 166 = .ok (.iadd, 1) := by decide +kernel
theorem dX5_layGrid_167 : decode cX5_layGrid 167 = .ok (.imul, 1) := by decide +kernel
theorem dX5_layGrid_168 : decode cX5_layGrid 168 = .ok (.iload 4, 2) := by decide +kernel
theorem dX5_layGrid_170 : decode cX5_layGrid 170 = .ok (.iadd, 1) := by decide +kernel
theorem dX5_layGrid_171 : decode cX5_layGrid 171 = .ok (.laload, 1) := by decide +kernel
theorem dX5_layGrid_172 : decode cX5_layGrid 172 = .ok (.lload 5, 2) := by decide +kernel
theorem dX5_layGrid_174 : decode cX5_layGrid 174 = .ok (.lcmp, 1) := by decide +kernel
theorem dX5_layGrid_175 : decode cX5_layGrid 175 = .ok (.ifCond .ne 30, 3) := by decide +kernel
theorem dX5_layGrid_178 : decode cX5_layGrid 178 = .ok (.aload_n 0, 1) := by decide +kernel
theorem dX5_layGrid_179 : decode cX5_layGrid 179 = .ok (.iload_n 3, 1) := by decide +kernel
theorem dX5_layGrid_180 : decode cX5_layGrid 180 = .ok (.iload 4, 2) := by decide +kernel
theorem dX5_layGrid_182 : decode cX5_layGrid 182 = .ok (.iload_n 1, 1) := by decide +kernel
theorem dX5_layGrid_183 : decode cX5_layGrid 183 = .ok (.iload_n 2, 1) := by decide +kernel
theorem dX5_layGrid_184 : decode cX5_layGrid 184 = .ok (.invokestatic 68, 3) := by decide +kernel
theorem dX5_layGrid_187 : decode cX5_layGrid 187 = .ok (.aload_n 0, 1) := by decide +kernel
theorem dX5_layGrid_188 : decode cX5_layGrid 188 = .ok (.getfield 25, 3) := by decide +kernel
theorem dX5_layGrid_191 : decode cX5_layGrid 191 = .ok (.iload_n 3, 1) := by decide +kernel
theorem dX5_layGrid_192 : decode cX5_layGrid 192 = .ok (.iaload, 1) := by decide +kernel
theorem dX5_layGrid_193 : decode cX5_layGrid 193 = .ok (.iload_n 1, 1) := by decide +kernel
theorem dX5_layGrid_194 : decode cX5_layGrid 194 = .ok (.iload_n 2, 1) := by decide +kernel
theorem dX5_layGrid_195 : decode cX5_layGrid 195 = .ok (.invokestatic 68, 3) := by decide +kernel
theorem dX5_layGrid_198 : decode cX5_layGrid 198 = .ok (.isub, 1) := by decide +kernel
theorem dX5_layGrid_199 : decode cX5_layGrid 199 = .ok (.invokevirtual 74, 3) := by decide +kernel
theorem dX5_layGrid_202 : decode cX5_layGrid 202 = .ok (.ifCond .ne 9, 3) := by decide +kernel
theorem dX5_layGrid_205 : decode cX5_layGrid 205 = .ok (.iinc 4 1, 3) := by decide +kernel
theorem dX5_layGrid_208 : decode cX5_layGrid 208 = .ok (.goto (-50), 3) := by decide +kernel
theorem dX5_layGrid_211 : decode cX5_layGrid 211 = .ok (.aload_n 0, 1) := by decide +kernel
theorem dX5_layGrid_212 : decode cX5_layGrid 212 = .ok (.getfield 25, 3) := by decide +kernel
theorem dX5_layGrid_215 : decode cX5_layGrid 215 = .ok (.iload_n 3, 1) := by decide +kernel
theorem dX5_layGrid_216 : decode cX5_layGrid 216 = .ok (.iconst 1, 1) := by decide +kernel
theorem dX5_layGrid_217 : decode cX5_layGrid 217 = .ok (.iadd, 1) := by decide +kernel
theorem dX5_layGrid_218 : decode cX5_layGrid 218 = .ok (.iload 4, 2) := by decide +kernel
theorem dX5_layGrid_220 : decode cX5_layGrid 220 = .ok (.iastore, 1) := by decide +kernel
theorem dX5_layGrid_221 : decode cX5_layGrid 221 = .ok (.iinc 3 1, 3) := by decide +kernel
theorem dX5_layGrid_224 : decode cX5_layGrid 224 = .ok (.goto (-121), 3) := by decide +kernel
theorem dX5_layGrid_227 : decode cX5_layGrid 227 = .ok (.aload_n 0, 1) := by decide +kernel
theorem dX5_layGrid_228 : decode cX5_layGrid 228 = .ok (.getfield 25, 3) := by decide +kernel
theorem dX5_layGrid_231 : decode cX5_layGrid 231 = .ok (.aload_n 0, 1) := by decide +kernel
theorem dX5_layGrid_232 : decode cX5_layGrid 232 = .ok (.getfield 7, 3) := by decide +kernel
theorem dX5_layGrid_235 : decode cX5_layGrid 235 = .ok (.bipush 74, 2) := by decide +kernel
theorem dX5_layGrid_237 : decode cX5_layGrid 237 = .ok (.iaload, 1) := by decide +kernel
theorem dX5_layGrid_238 : decode cX5_layGrid 238 = .ok (.iload_n 2, 1) := by decide +kernel
theorem dX5_layGrid_239 : decode cX5_layGrid 239 = .ok (.iastore, 1) := by decide +kernel
theorem dX5_layGrid_240 : decode cX5_layGrid 240 = .ok (.iconst 0, 1) := by decide +kernel
theorem dX5_layGrid_241 : decode cX5_layGrid 241 = .ok (.istore_n 3, 1) := by decide +kernel
theorem dX5_layGrid_242 : decode cX5_layGrid 242 = .ok (.iload_n 3, 1) := by decide +kernel
theorem dX5_layGrid_243 : decode cX5_layGrid 243 = .ok (.aload_n 0, 1) := by decide +kernel
theorem dX5_layGrid_244 : decode cX5_layGrid 244 = .ok (.getfield 7, 3) := by decide +kernel
theorem dX5_layGrid_247 : decode cX5_layGrid 247 = .ok (.bipush 74, 2) := by decide +kernel
theorem dX5_layGrid_249 : decode cX5_layGrid 249 = .ok (.iaload, 1) := by decide +kernel
theorem dX5_layGrid_250 : decode cX5_layGrid 250 = .ok (.if_icmp .ge 40, 3) := by decide +kernel
theorem dX5_layGrid_253 : decode cX5_layGrid 253 = .ok (.aload_n 0, 1) := by decide +kernel
theorem dX5_layGrid_254 : decode cX5_layGrid 254 = .ok (.getfield 22, 3) := by decide +kernel
theorem dX5_layGrid_257 : decode cX5_layGrid 257 = .ok (.iload_n 3, 1) := by decide +kernel
theorem dX5_layGrid_258 : decode cX5_layGrid 258 = .ok (.aload_n 0, 1) := by decide +kernel
theorem dX5_layGrid_259 : decode cX5_layGrid 259 = .ok (.getfield 25, 3) := by decide +kernel
theorem dX5_layGrid_262 : decode cX5_layGrid 262 = .ok (.iload_n 3, 1) := by decide +kernel
theorem dX5_layGrid_263 : decode cX5_layGrid 263 = .ok (.iconst 1, 1) := by decide +kernel
theorem dX5_layGrid_264 : decode cX5_layGrid 264 = .ok (.iadd, 1) := by decide +kernel
theorem dX5_layGrid_265 : decode cX5_layGrid 265 = .ok (.iaload, 1) := by decide +kernel
theorem dX5_layGrid_266 : decode cX5_layGrid 266 = .ok (.iload_n 1, 1) := by decide +kernel
theorem dX5_layGrid_267 : decode cX5_layGrid 267 = .ok (.iload_n 2, 1) := by decide +kernel
theorem dX5_layGrid_268 : decode cX5_layGrid 268 = .ok (.invokestatic 68, 3) := by decide +kernel
theorem dX5_layGrid_271 : decode cX5_layGrid 271 = .ok (.aload_n 0, 1) := by decide +kernel
theorem dX5_layGrid_272 : decode cX5_layGrid 272 = .ok (.getfield 25, 3) := by decide +kernel
theorem dX5_layGrid_275 : decode cX5_layGrid 275 = .ok (.iload_n 3, 1) := by decide +kernel
theorem dX5_layGrid_276 : decode cX5_layGrid 276 = .ok (.iaload, 1) := by decide +kernel
theorem dX5_layGrid_277 : decode cX5_layGrid 277 = .ok (.iload_n 1, 1) := by decide +kernel
theorem dX5_layGrid_278 : decode cX5_layGrid 278 = .ok (.iload_n 2, 1) := by decide +kernel
theorem dX5_layGrid_279 : decode cX5_layGrid 279 = .ok (.invokestatic 68, 3) := by decide +kernel
theorem dX5_layGrid_282 : decode cX5_layGrid 282 = .ok (.isub, 1) := by decide +kernel
theorem dX5_layGrid_283 : decode cX5_layGrid 283 = .ok (.iastore, 1) := by decide +kernel
theorem dX5_layGrid_284 : decode cX5_layGrid 284 = .ok (.iinc 3 1, 3) := by decide +kernel
theorem dX5_layGrid_287 : decode cX5_layGrid 287 = .ok (.goto (-45), 3) := by decide +kernel
theorem dX5_layGrid_290 : decode cX5_layGrid 290 = .ok (.iconst 1, 1) := by decide +kernel
theorem dX5_layGrid_291 : decode cX5_layGrid 291 = .ok (.ireturn, 1) := by decide +kernel
set_option maxRecDepth 20000 in
theorem ggX5_isLaid_X5_layGrid : GoodIn wsX5_isLaid wsX5_layGrid := goodIn_r _ [6, 1, 7, 8, 9, 10, 11, 12, 13, 14, 5, 15, 16, 17, 18, 19, 20, 21, 22, 23, 24, 25, 26, 27, 28, 29, 30, 31, 32, 33, 34, 35, 49, 50, 51, 52, 53, 54, 55, 56, 57, 58, 59] (by decide +kernel) (by decide +kernel)
set_option maxRecDepth 20000 in
theorem gX5_isLaid_X5_layGrid : GoodIn wsX5_isLaid (wsV RX5 89 RX5 yX5_layGrid wsX5_layGrid) := goodIn_app (goodIn_of _ (by decide +kernel)) ggX5_isLaid_X5_layGrid
set_option maxRecDepth 20000 in
theorem ggX5_isLaid_X5_layFree : GoodIn wsX5_isLaid wsX5_layFree := goodIn_r _ [39, 1, 11, 40, 24, 25, 26, 5, 27, 28, 29, 30, 31, 41, 42, 43, 44, 45, 46, 47, 48, 49, 50, 51, 52, 53, 54, 55, 56, 57, 58, 59] (by decide +kernel) (by decide +kernel)
set_option maxRecDepth 20000 in
theorem gX5_isLaid_X5_layFree : GoodIn wsX5_isLaid (wsV RX5 92 RX5 yX5_layFree wsX5_layFree) := goodIn_app (goodIn_of _ (by decide +kernel)) ggX5_isLaid_X5_layFree
theorem dX5_isLaid_0 : decode cX5_isLaid 0 = .ok (.aload_n 0, 1) := by decide +kernel
theorem dX5_isLaid_1 : decode cX5_isLaid 1 = .ok (.getfield 7, 3) := by decide +kernel
theorem dX5_isLaid_4 : decode cX5_isLaid 4 = .ok (.bipush 8, 2) := by decide +kernel
theorem dX5_isLaid_6 : decode cX5_isLaid 6 = .ok (.iaload, 1) := by decide +kernel
theorem dX5_isLaid_7 : decode cX5_isLaid 7 = .ok (.iconst 1, 1) := by decide +kernel
theorem dX5_isLaid_8 : decode cX5_isLaid 8 = .ok (.if_icmp .ne 22, 3) := by decide +kernel
theorem dX5_isLaid_11 : decode cX5_isLaid 11 = .ok (.aload_n 0, 1) := by decide +kernel
theorem dX5_isLaid_12 : decode cX5_isLaid 12 = .ok (.aload_n 0, 1) := by decide +kernel
theorem dX5_isLaid_13 : decode cX5_isLaid 13 = .ok (.getfield 7, 3) := by decide +kernel
theorem dX5_isLaid_16 : decode cX5_isLaid 16 = .ok (.bipush 6, 2) := by decide +kernel
theorem dX5_isLaid_18 : decode cX5_isLaid 18 = .ok (.iaload, 1) := by decide +kernel
theorem dX5_isLaid_19 : decode cX5_isLaid 19 = .ok (.aload_n 0, 1) := by decide +kernel
theorem dX5_isLaid_20 : decode cX5_isLaid 20 = .ok (.getfield 7, 3) := by decide +kernel
theorem dX5_isLaid_23 : decode cX5_isLaid 23 = .ok (.bipush 7, 2) := by decide +kernel
theorem dX5_isLaid_25 : decode cX5_isLaid 25 = .ok (.iaload, 1) := by decide +kernel
theorem dX5_isLaid_26 : decode cX5_isLaid 26 = .ok (.invokevirtual 89, 3) := by decide +kernel
theorem dX5_isLaid_29 : decode cX5_isLaid 29 = .ok (.ireturn, 1) := by decide +kernel
theorem dX5_isLaid_30 : decode cX5_isLaid 30 = .ok (.aload_n 0, 1) := by decide +kernel
theorem dX5_isLaid_31 : decode cX5_isLaid 31 = .ok (.invokevirtual 92, 3) := by decide +kernel
theorem dX5_isLaid_34 : decode cX5_isLaid 34 = .ok (.iconst 1, 1) := by decide +kernel
theorem dX5_isLaid_35 : decode cX5_isLaid 35 = .ok (.ireturn, 1) := by decide +kernel
theorem dX5_placeOf_0 : decode cX5_placeOf 0 = .ok (.iconst 0, 1) := by decide +kernel
theorem dX5_placeOf_1 : decode cX5_placeOf 1 = .ok (.istore_n 2, 1) := by decide +kernel
theorem dX5_placeOf_2 : decode cX5_placeOf 2 = .ok (.aload_n 0, 1) := by decide +kernel
theorem dX5_placeOf_3 : decode cX5_placeOf 3 = .ok (.getfield 7, 3) := by decide +kernel
theorem dX5_placeOf_6 : decode cX5_placeOf 6 = .ok (.bipush 91, 2) := by decide +kernel
theorem dX5_placeOf_8 : decode cX5_placeOf 8 = .ok (.iload_n 2, 1) := by decide +kernel
theorem dX5_placeOf_9 : decode cX5_placeOf 9 = .ok (.iadd, 1) := by decide +kernel
theorem dX5_placeOf_10 : decode cX5_placeOf 10 = .ok (.iaload, 1) := by decide +kernel
theorem dX5_placeOf_11 : decode cX5_placeOf 11 = .ok (.iload_n 1, 1) := by decide +kernel
theorem dX5_placeOf_12 : decode cX5_placeOf 12 = .ok (.if_icmp .eq 9, 3) := by decide +kernel
theorem dX5_placeOf_15 : decode cX5_placeOf 15 = .ok (.iinc 2 1, 3) := by decide +kernel
theorem dX5_placeOf_18 : decode cX5_placeOf 18 = .ok (.goto (-16), 3) := by decide +kernel
theorem dX5_placeOf_21 : decode cX5_placeOf 21 = .ok (.iload_n 2, 1) := by decide +kernel
theorem dX5_placeOf_22 : decode cX5_placeOf 22 = .ok (.ireturn, 1) := by decide +kernel
set_option maxRecDepth 20000 in
theorem ggX5_fadeOf_X5_placeOf : GoodIn wsX5_fadeOf wsX5_placeOf := goodIn_r _ [7, 1, 8, 9, 10, 11, 12, 13, 14, 15, 16, 17, 18] (by decide +kernel) (by decide +kernel)
set_option maxRecDepth 20000 in
theorem gX5_fadeOf_X5_placeOf : GoodIn wsX5_fadeOf (wsV RX5 95 RX5 yX5_placeOf wsX5_placeOf) := goodIn_app (goodIn_of _ (by decide +kernel)) ggX5_fadeOf_X5_placeOf
theorem dX5_fadeOf_0 : decode cX5_fadeOf 0 = .ok (.aload_n 0, 1) := by decide +kernel
theorem dX5_fadeOf_1 : decode cX5_fadeOf 1 = .ok (.getfield 7, 3) := by decide +kernel
theorem dX5_fadeOf_4 : decode cX5_fadeOf 4 = .ok (.bipush 91, 2) := by decide +kernel
theorem dX5_fadeOf_6 : decode cX5_fadeOf 6 = .ok (.aload_n 0, 1) := by decide +kernel
theorem dX5_fadeOf_7 : decode cX5_fadeOf 7 = .ok (.iload_n 1, 1) := by decide +kernel
theorem dX5_fadeOf_8 : decode cX5_fadeOf 8 = .ok (.invokevirtual 95, 3) := by decide +kernel
theorem dX5_fadeOf_11 : decode cX5_fadeOf 11 = .ok (.iconst 1, 1) := by decide +kernel
theorem dX5_fadeOf_12 : decode cX5_fadeOf 12 = .ok (.iadd, 1) := by decide +kernel
theorem dX5_fadeOf_13 : decode cX5_fadeOf 13 = .ok (.aload_n 0, 1) := by decide +kernel
theorem dX5_fadeOf_14 : decode cX5_fadeOf 14 = .ok (.getfield 7, 3) := by decide +kernel
theorem dX5_fadeOf_17 : decode cX5_fadeOf 17 = .ok (.bipush 74, 2) := by decide +kernel
theorem dX5_fadeOf_19 : decode cX5_fadeOf 19 = .ok (.iaload, 1) := by decide +kernel
theorem dX5_fadeOf_20 : decode cX5_fadeOf 20 = .ok (.irem, 1) := by decide +kernel
theorem dX5_fadeOf_21 : decode cX5_fadeOf 21 = .ok (.iadd, 1) := by decide +kernel
theorem dX5_fadeOf_22 : decode cX5_fadeOf 22 = .ok (.iaload, 1) := by decide +kernel
theorem dX5_fadeOf_23 : decode cX5_fadeOf 23 = .ok (.istore_n 2, 1) := by decide +kernel
theorem dX5_fadeOf_24 : decode cX5_fadeOf 24 = .ok (.aload_n 0, 1) := by decide +kernel
theorem dX5_fadeOf_25 : decode cX5_fadeOf 25 = .ok (.getfield 7, 3) := by decide +kernel
theorem dX5_fadeOf_28 : decode cX5_fadeOf 28 = .ok (.bipush 9, 2) := by decide +kernel
theorem dX5_fadeOf_30 : decode cX5_fadeOf 30 = .ok (.iaload, 1) := by decide +kernel
theorem dX5_fadeOf_31 : decode cX5_fadeOf 31 = .ok (.istore_n 3, 1) := by decide +kernel
theorem dX5_fadeOf_32 : decode cX5_fadeOf 32 = .ok (.aload_n 0, 1) := by decide +kernel
theorem dX5_fadeOf_33 : decode cX5_fadeOf 33 = .ok (.getfield 22, 3) := by decide +kernel
theorem dX5_fadeOf_36 : decode cX5_fadeOf 36 = .ok (.iload_n 1, 1) := by decide +kernel
theorem dX5_fadeOf_37 : decode cX5_fadeOf 37 = .ok (.iaload, 1) := by decide +kernel
theorem dX5_fadeOf_38 : decode cX5_fadeOf 38 = .ok (.iconst 4, 1) := by decide +kernel
theorem dX5_fadeOf_39 : decode cX5_fadeOf 39 = .ok (.idiv, 1) := by decide +kernel
theorem dX5_fadeOf_40 : decode cX5_fadeOf 40 = .ok (.iload_n 3, 1) := by decide +kernel
theorem dX5_fadeOf_41 : decode cX5_fadeOf 41 = .ok (.if_icmp .ge 14, 3) := by decide +kernel
theorem dX5_fadeOf_44 : decode cX5_fadeOf 44 = .ok (.aload_n 0, 1) := by decide +kernel
theorem dX5_fadeOf_45 : decode cX5_fadeOf 45 = .ok (.getfield 22, 3) := by decide +kernel
theorem dX5_fadeOf_48 : decode cX5_fadeOf 48 = .ok (.iload_n 1, 1) := by decide +kernel
theorem dX5_fadeOf_49 : decode cX5_fadeOf 49 = .ok (.iaload, 1) := by decide +kernel
theorem dX5_fadeOf_50 : decode cX5_fadeOf 50 = .ok (.iconst 4, 1) := by decide +kernel
theorem dX5_fadeOf_51 : decode cX5_fadeOf 51 = .ok (.idiv, 1) := by decide +kernel
theorem dX5_fadeOf_52 : decode cX5_fadeOf 52 = .ok (.goto 4, 3) := by decide +kernel
theorem dX5_fadeOf_55 : decode cX5_fadeOf 55 = .ok (.iload_n 3, 1) := by decide +kernel
theorem dX5_fadeOf_56 : decode cX5_fadeOf 56 = .ok (.istore_n 3, 1) := by decide +kernel
theorem dX5_fadeOf_57 : decode cX5_fadeOf 57 = .ok (.aload_n 0, 1) := by decide +kernel
theorem dX5_fadeOf_58 : decode cX5_fadeOf 58 = .ok (.getfield 22, 3) := by decide +kernel
theorem dX5_fadeOf_61 : decode cX5_fadeOf 61 = .ok (.iload_n 2, 1) := by decide +kernel
theorem dX5_fadeOf_62 : decode cX5_fadeOf 62 = .ok (.iaload, 1) := by decide +kernel
theorem dX5_fadeOf_63 : decode cX5_fadeOf 63 = .ok (.iconst 4, 1) := by decide +kernel
theorem dX5_fadeOf_64 : decode cX5_fadeOf 64 = .ok (.idiv, 1) := by decide +kernel
theorem dX5_fadeOf_65 : decode cX5_fadeOf 65 = .ok (.iload_n 3, 1) := by decide +kernel
theorem dX5_fadeOf_66 : decode cX5_fadeOf 66 = .ok (.if_icmp .ge 14, 3) := by decide +kernel
theorem dX5_fadeOf_69 : decode cX5_fadeOf 69 = .ok (.aload_n 0, 1) := by decide +kernel
theorem dX5_fadeOf_70 : decode cX5_fadeOf 70 = .ok (.getfield 22, 3) := by decide +kernel
theorem dX5_fadeOf_73 : decode cX5_fadeOf 73 = .ok (.iload_n 2, 1) := by decide +kernel
theorem dX5_fadeOf_74 : decode cX5_fadeOf 74 = .ok (.iaload, 1) := by decide +kernel
theorem dX5_fadeOf_75 : decode cX5_fadeOf 75 = .ok (.iconst 4, 1) := by decide +kernel
theorem dX5_fadeOf_76 : decode cX5_fadeOf 76 = .ok (.idiv, 1) := by decide +kernel
theorem dX5_fadeOf_77 : decode cX5_fadeOf 77 = .ok (.goto 4, 3) := by decide +kernel
theorem dX5_fadeOf_80 : decode cX5_fadeOf 80 = .ok (.iload_n 3, 1) := by decide +kernel
theorem dX5_fadeOf_81 : decode cX5_fadeOf 81 = .ok (.ireturn, 1) := by decide +kernel
set_option maxRecDepth 20000 in
theorem ggX5_begin_X5_isIn : GoodIn wsX5_begin wsX5_isIn := goodIn_r _ [5] (by decide +kernel) (by decide +kernel)
set_option maxRecDepth 20000 in
theorem gX5_begin_X5_isIn : GoodIn wsX5_begin (va_wsS RX5 47 yX5_isIn wsX5_isIn) := goodIn_app (goodIn_of _ (by decide +kernel)) ggX5_begin_X5_isIn
set_option maxRecDepth 20000 in
theorem ggX5_begin_X5_remember : GoodIn wsX5_begin wsX5_remember := goodIn_r _ [9, 10, 11, 1, 20, 21, 22, 23, 24, 25, 26, 27, 28, 29, 30] (by decide +kernel) (by decide +kernel)
set_option maxRecDepth 20000 in
theorem gX5_begin_X5_remember : GoodIn wsX5_begin (wsV RX5 98 RX5 yX5_remember wsX5_remember) := goodIn_app (goodIn_of _ (by decide +kernel)) ggX5_begin_X5_remember
set_option maxRecDepth 20000 in
theorem ggX5_begin_X5_layLoop : GoodIn wsX5_begin wsX5_layLoop := goodIn_r _ [15, 1, 16, 17, 18, 4, 19, 20, 21, 22, 23, 24, 25, 26, 27, 28, 29, 30] (by decide +kernel) (by decide +kernel)
set_option maxRecDepth 20000 in
theorem gX5_begin_X5_layLoop : GoodIn wsX5_begin (wsV RX5 36 RX5 yX5_layLoop wsX5_layLoop) := goodIn_app (goodIn_of _ (by decide +kernel)) ggX5_begin_X5_layLoop
theorem dX5_begin_0 : decode cX5_begin 0 = .ok (.iload_n 1, 1) := by decide +kernel
theorem dX5_begin_1 : decode cX5_begin 1 = .ok (.iconst 1, 1) := by decide +kernel
theorem dX5_begin_2 : decode cX5_begin 2 = .ok (.bipush 64, 2) := by decide +kernel
theorem dX5_begin_4 : decode cX5_begin 4 = .ok (.invokestatic 47, 3) := by decide +kernel
theorem dX5_begin_7 : decode cX5_begin 7 = .ok (.ifCond .ne 5, 3) := by decide +kernel
theorem dX5_begin_10 : decode cX5_begin 10 = .ok (.iconst (-1), 1) := by decide +kernel
theorem dX5_begin_11 : decode cX5_begin 11 = .ok (.ireturn, 1) := by decide +kernel
theorem dX5_begin_12 : decode cX5_begin 12 = .ok (.aload_n 0, 1) := by decide +kernel
theorem dX5_begin_13 : decode cX5_begin 13 = .ok (.invokevirtual 98, 3) := by decide +kernel
theorem dX5_begin_16 : decode cX5_begin 16 = .ok (.aload_n 0, 1) := by decide +kernel
theorem dX5_begin_17 : decode cX5_begin 17 = .ok (.getfield 7, 3) := by decide +kernel
theorem dX5_begin_20 : decode cX5_begin 20 = .ok (.iconst 0, 1) := by decide +kernel
theorem dX5_begin_21 : decode cX5_begin 21 = .ok (.iaload, 1) := by decide +kernel
theorem dX5_begin_22 : decode cX5_begin 22 = .ok (.istore_n 2, 1) := by decide +kernel
theorem dX5_begin_23 : decode cX5_begin 23 = .ok (.aload_n 0, 1) := by decide +kernel
theorem dX5_begin_24 : decode cX5_begin 24 = .ok (.iload_n 1, 1) := by decide +kernel
theorem dX5_begin_25 : decode cX5_begin 25 = .ok (.invokevirtual 36, 3) := by decide +kernel
theorem dX5_begin_28 : decode cX5_begin 28 = .ok (.iload_n 2, 1) := by decide +kernel
theorem dX5_begin_29 : decode cX5_begin 29 = .ok (.ireturn, 1) := by decide +kernel
set_option maxRecDepth 20000 in
theorem ggX5_sound_X5_isFrame : GoodIn wsX5_sound wsX5_isFrame := goodIn_r _ [6, 1, 7, 8, 5, 9, 16, 17, 18, 19, 20, 21, 22, 23, 24, 25, 26] (by decide +kernel) (by decide +kernel)
set_option maxRecDepth 20000 in
theorem gX5_sound_X5_isFrame : GoodIn wsX5_sound (wsV RX5 101 RX5 yX5_isFrame wsX5_isFrame) := goodIn_app (goodIn_of _ (by decide +kernel)) ggX5_sound_X5_isFrame
set_option maxRecDepth 20000 in
theorem ggX5_sound_X5_isIn : GoodIn wsX5_sound wsX5_isIn := goodIn_r _ [9] (by decide +kernel) (by decide +kernel)
set_option maxRecDepth 20000 in
theorem gX5_sound_X5_isIn : GoodIn wsX5_sound (va_wsS RX5 47 yX5_isIn wsX5_isIn) := goodIn_app (goodIn_of _ (by decide +kernel)) ggX5_sound_X5_isIn
set_option maxRecDepth 20000 in
theorem ggX5_sound_X5_remember : GoodIn wsX5_sound wsX5_remember := goodIn_r _ [13, 14, 15, 1, 16, 17, 18, 19, 20, 21, 22, 23, 24, 25, 26] (by decide +kernel) (by decide +kernel)
set_option maxRecDepth 20000 in
theorem gX5_sound_X5_remember : GoodIn wsX5_sound (wsV RX5 98 RX5 yX5_remember wsX5_remember) := goodIn_app (goodIn_of _ (by decide +kernel)) ggX5_sound_X5_remember
theorem dX5_sound_0 : decode cX5_sound 0 = .ok (.aload_n 0, 1) := by decide +kernel
theorem dX5_sound_1 : decode cX5_sound 1 = .ok (.iload_n 1, 1) := by decide +kernel
theorem dX5_sound_2 : decode cX5_sound 2 = .ok (.invokevirtual 101, 3) := by decide +kernel
theorem dX5_sound_5 : decode cX5_sound 5 = .ok (.ifCond .eq 27, 3) := by decide +kernel
theorem dX5_sound_8 : decode cX5_sound 8 = .ok (.aload_n 0, 1) := by decide +kernel
theorem dX5_sound_9 : decode cX5_sound 9 = .ok (.iload_n 2, 1) := by decide +kernel
theorem dX5_sound_10 : decode cX5_sound 10 = .ok (.invokevirtual 101, 3) := by decide +kernel
theorem dX5_sound_13 : decode cX5_sound 13 = .ok (.ifCond .eq 19, 3) := by decide +kernel
theorem dX5_sound_16 : decode cX5_sound 16 = .ok (.iload_n 2, 1) := by decide +kernel
theorem dX5_sound_17 : decode cX5_sound 17 = .ok (.iload_n 1, 1) := by decide +kernel
theorem dX5_sound_18 : decode cX5_sound 18 = .ok (.if_icmp .lt 14, 3) := by decide +kernel
theorem dX5_sound_21 : decode cX5_sound 21 = .ok (.iload_n 3, 1) := by decide +kernel
theorem dX5_sound_22 : decode cX5_sound 22 = .ok (.iconst 0, 1) := by decide +kernel
theorem dX5_sound_23 : decode cX5_sound 23 = .ok (.sipush 999, 3) := by decide +kernel
theorem dX5_sound_26 : decode cX5_sound 26 = .ok (.invokestatic 47, 3) := by decide +kernel
theorem dX5_sound_29 : decode cX5_sound 29 = .ok (.ifCond .ne 5, 3) := by decide +kernel
theorem dX5_sound_32 : decode cX5_sound 32 = .ok (.iconst (-1), 1) := by decide +kernel
theorem dX5_sound_33 : decode cX5_sound 33 = .ok (.ireturn, 1) := by decide +kernel
theorem dX5_sound_34 : decode cX5_sound 34 = .ok (.aload_n 0, 1) := by decide +kernel
theorem dX5_sound_35 : decode cX5_sound 35 = .ok (.invokevirtual 98, 3) := by decide +kernel
theorem dX5_sound_38 : decode cX5_sound 38 = .ok (.iconst 0, 1) := by decide +kernel
theorem dX5_sound_39 : decode cX5_sound 39 = .ok (.istore 4, 2) := by decide +kernel
theorem dX5_sound_41 : decode cX5_sound 41 = .ok (.iload_n 1, 1) := by decide +kernel
theorem dX5_sound_42 : decode cX5_sound 42 = .ok (.istore 5, 2) := by decide +kernel
theorem dX5_sound_44 : decode cX5_sound 44 = .ok (.iload 5, 2) := by decide +kernel
theorem dX5_sound_46 : decode cX5_sound 46 = .ok (.iload_n 2, 1) := by decide +kernel
theorem dX5_sound_47 : decode cX5_sound 47 = .ok (.if_icmp .gt 35, 3) := by decide +kernel
theorem dX5_sound_50 : decode cX5_sound 50 = .ok (.iload 4, 2) := by decide +kernel
theorem dX5_sound_52 : decode cX5_sound 52 = .ok (.aload_n 0, 1) := by decide +kernel
theorem dX5_sound_53 : decode cX5_sound 53 = .ok (.getfield 7, 3) := by decide +kernel
theorem dX5_sound_56 : decode cX5_sound 56 = .ok (.bipush 10, 2) := by decide +kernel
theorem dX5_sound_58 : decode cX5_sound 58 = .ok (.iload 5, 2) := by decide +kernel
theorem dX5_sound_60 : decode cX5_sound 60 = .ok (.iadd, 1) := by decide +kernel
theorem dX5_sound_61 : decode cX5_sound 61 = .ok (.iaload, 1) := by decide +kernel
theorem dX5_sound_62 : decode cX5_sound 62 = .ok (.iadd, 1) := by decide +kernel
theorem dX5_sound_63 : decode cX5_sound 63 = .ok (.istore 4, 2) := by decide +kernel
theorem dX5_sound_65 : decode cX5_sound 65 = .ok (.aload_n 0, 1) := by decide +kernel
theorem dX5_sound_66 : decode cX5_sound 66 = .ok (.getfield 7, 3) := by decide +kernel
theorem dX5_sound_69 : decode cX5_sound 69 = .ok (.bipush 10, 2) := by decide +kernel
theorem dX5_sound_71 : decode cX5_sound 71 = .ok (.iload 5, 2) := by decide +kernel
theorem dX5_sound_73 : decode cX5_sound 73 = .ok (.iadd, 1) := by decide +kernel
theorem dX5_sound_74 : decode cX5_sound 74 = .ok (.iload_n 3, 1) := by decide +kernel
theorem dX5_sound_75 : decode cX5_sound 75 = .ok (.iastore, 1) := by decide +kernel
theorem dX5_sound_76 : decode cX5_sound 76 = .ok (.iinc 5 1, 3) := by decide +kernel
theorem dX5_sound_79 : decode cX5_sound 79 = .ok (.goto (-35), 3) := by decide +kernel
theorem dX5_sound_82 : decode cX5_sound 82 = .ok (.iload 4, 2) := by decide +kernel
theorem dX5_sound_84 : decode cX5_sound 84 = .ok (.ireturn, 1) := by decide +kernel
set_option maxRecDepth 20000 in
theorem ggX5_isOf_X5_isIn : GoodIn wsX5_isOf wsX5_isIn := goodIn_r _ [5] (by decide +kernel) (by decide +kernel)
set_option maxRecDepth 20000 in
theorem gX5_isOf_X5_isIn : GoodIn wsX5_isOf (va_wsS RX5 47 yX5_isIn wsX5_isIn) := goodIn_app (goodIn_of _ (by decide +kernel)) ggX5_isOf_X5_isIn
theorem dX5_isOf_0 : decode cX5_isOf 0 = .ok (.iload_n 0, 1) := by decide +kernel
theorem dX5_isOf_1 : decode cX5_isOf 1 = .ok (.tableswitch 115 0 7 #[47, 56, 65, 73, 82, 92, 100, 108], 47) := by decide +kernel
theorem dX5_isOf_48 : decode cX5_isOf 48 = .ok (.iload_n 1, 1) := by decide +kernel
theorem dX5_isOf_49 : decode cX5_isOf 49 = .ok (.iconst 1, 1) := by decide +kernel
theorem dX5_isOf_50 : decode cX5_isOf 50 = .ok (.sipush 1000, 3) := by decide +kernel
theorem dX5_isOf_53 : decode cX5_isOf 53 = .ok (.invokestatic 47, 3) := by decide +kernel
theorem dX5_isOf_56 : decode cX5_isOf 56 = .ok (.ireturn, 1) := by decide +kernel
theorem dX5_isOf_57 : decode cX5_isOf 57 = .ok (.iload_n 1, 1) := by decide +kernel
theorem dX5_isOf_58 : decode cX5_isOf 58 = .ok (.iconst 1, 1) := by decide +kernel
theorem dX5_isOf_59 : decode cX5_isOf 59 = .ok (.sipush 999, 3) := by decide +kernel
theorem dX5_isOf_62 : decode cX5_isOf 62 = .ok (.invokestatic 47, 3) := by decide +kernel
theorem dX5_isOf_65 : decode cX5_isOf 65 = .ok (.ireturn, 1) := by decide +kernel
theorem dX5_isOf_66 : decode cX5_isOf 66 = .ok (.iload_n 1, 1) := by decide +kernel
theorem dX5_isOf_67 : decode cX5_isOf 67 = .ok (.iconst 1, 1) := by decide +kernel
theorem dX5_isOf_68 : decode cX5_isOf 68 = .ok (.bipush 16, 2) := by decide +kernel
theorem dX5_isOf_70 : decode cX5_isOf 70 = .ok (.invokestatic 47, 3) := by decide +kernel
theorem dX5_isOf_73 : decode cX5_isOf 73 = .ok (.ireturn, 1) := by decide +kernel
theorem dX5_isOf_74 : decode cX5_isOf 74 = .ok (.iload_n 1, 1) := by decide +kernel
theorem dX5_isOf_75 : decode cX5_isOf 75 = .ok (.bipush 10, 2) := by decide +kernel
theorem dX5_isOf_77 : decode cX5_isOf 77 = .ok (.bipush 100, 2) := by decide +kernel
theorem dX5_isOf_79 : decode cX5_isOf 79 = .ok (.invokestatic 47, 3) := by decide +kernel
theorem dX5_isOf_82 : decode cX5_isOf 82 = .ok (.ireturn, 1) := by decide +kernel
theorem dX5_isOf_83 : decode cX5_isOf 83 = .ok (.iload_n 1, 1) := by decide +kernel
theorem dX5_isOf_84 : decode cX5_isOf 84 = .ok (.bipush 100, 2) := by decide +kernel
theorem dX5_isOf_86 : decode cX5_isOf 86 = .ok (.sipush 1000, 3) := by decide +kernel
theorem dX5_isOf_89 : decode cX5_isOf 89 = .ok (.invokestatic 47, 3) := by decide +kernel
theorem dX5_isOf_92 : decode cX5_isOf 92 = .ok (.ireturn, 1) := by decide +kernel
theorem dX5_isOf_93 : decode cX5_isOf 93 = .ok (.iload_n 1, 1) := by decide +kernel
theorem dX5_isOf_94 : decode cX5_isOf 94 = .ok (.iconst 1, 1) := by decide +kernel
theorem dX5_isOf_95 : decode cX5_isOf 95 = .ok (.ldc 105, 2) := by decide +kernel
theorem dX5_isOf_97 : decode cX5_isOf 97 = .ok (.invokestatic 47, 3) := by decide +kernel
theorem dX5_isOf_100 : decode cX5_isOf 100 = .ok (.ireturn, 1) := by decide +kernel
theorem dX5_isOf_101 : decode cX5_isOf 101 = .ok (.iload_n 1, 1) := by decide +kernel
theorem dX5_isOf_102 : decode cX5_isOf 102 = .ok (.iconst 1, 1) := by decide +kernel
theorem dX5_isOf_103 : decode cX5_isOf 103 = .ok (.bipush 32, 2) := by decide +kernel
theorem dX5_isOf_105 : decode cX5_isOf 105 = .ok (.invokestatic 47, 3) := by decide +kernel
theorem dX5_isOf_108 : decode cX5_isOf 108 = .ok (.ireturn, 1) := by decide +kernel
theorem dX5_isOf_109 : decode cX5_isOf 109 = .ok (.iload_n 1, 1) := by decide +kernel
theorem dX5_isOf_110 : decode cX5_isOf 110 = .ok (.iconst 0, 1) := by decide +kernel
theorem dX5_isOf_111 : decode cX5_isOf 111 = .ok (.iconst 1, 1) := by decide +kernel
theorem dX5_isOf_112 : decode cX5_isOf 112 = .ok (.invokestatic 47, 3) := by decide +kernel
theorem dX5_isOf_115 : decode cX5_isOf 115 = .ok (.ireturn, 1) := by decide +kernel
theorem dX5_isOf_116 : decode cX5_isOf 116 = .ok (.iload_n 0, 1) := by decide +kernel
theorem dX5_isOf_117 : decode cX5_isOf 117 = .ok (.bipush 8, 2) := by decide +kernel
theorem dX5_isOf_119 : decode cX5_isOf 119 = .ok (.if_icmp .ne 18, 3) := by decide +kernel
theorem dX5_isOf_122 : decode cX5_isOf 122 = .ok (.iload_n 1, 1) := by decide +kernel
theorem dX5_isOf_123 : decode cX5_isOf 123 = .ok (.iconst 0, 1) := by decide +kernel
theorem dX5_isOf_124 : decode cX5_isOf 124 = .ok (.sipush 500, 3) := by decide +kernel
theorem dX5_isOf_127 : decode cX5_isOf 127 = .ok (.invokestatic 47, 3) := by decide +kernel
theorem dX5_isOf_130 : decode cX5_isOf 130 = .ok (.ifCond .eq 7, 3) := by decide +kernel
theorem dX5_isOf_133 : decode cX5_isOf 133 = .ok (.iconst 1, 1) := by decide +kernel
theorem dX5_isOf_134 : decode cX5_isOf 134 = .ok (.goto 4, 3) := by decide +kernel
theorem dX5_isOf_137 : decode cX5_isOf 137 = .ok (.iconst 0, 1) := by decide +kernel
theorem dX5_isOf_138 : decode cX5_isOf 138 = .ok (.ireturn, 1) := by decide +kernel
set_option maxRecDepth 20000 in
theorem ggX5_set_X5_isOf : GoodIn wsX5_set wsX5_isOf := goodIn_r _ [5, 6, 7, 8, 4, 9] (by decide +kernel) (by decide +kernel)
set_option maxRecDepth 20000 in
theorem gX5_set_X5_isOf : GoodIn wsX5_set (va_wsS RX5 106 yX5_isOf wsX5_isOf) := goodIn_app (goodIn_of _ (by decide +kernel)) ggX5_set_X5_isOf
set_option maxRecDepth 20000 in
theorem ggX5_set_X5_remember : GoodIn wsX5_set wsX5_remember := goodIn_r _ [13, 14, 15, 1, 16, 17, 18, 19, 20, 21, 22, 23, 24, 25, 26] (by decide +kernel) (by decide +kernel)
set_option maxRecDepth 20000 in
theorem gX5_set_X5_remember : GoodIn wsX5_set (wsV RX5 98 RX5 yX5_remember wsX5_remember) := goodIn_app (goodIn_of _ (by decide +kernel)) ggX5_set_X5_remember
theorem dX5_set_0 : decode cX5_set 0 = .ok (.iload_n 1, 1) := by decide +kernel
theorem dX5_set_1 : decode cX5_set 1 = .ok (.iload_n 2, 1) := by decide +kernel
theorem dX5_set_2 : decode cX5_set 2 = .ok (.invokestatic 106, 3) := by decide +kernel
theorem dX5_set_5 : decode cX5_set 5 = .ok (.ifCond .ne 5, 3) := by decide +kernel
theorem dX5_set_8 : decode cX5_set 8 = .ok (.iconst (-1), 1) := by decide +kernel
theorem dX5_set_9 : decode cX5_set 9 = .ok (.ireturn, 1) := by decide +kernel
theorem dX5_set_10 : decode cX5_set 10 = .ok (.aload_n 0, 1) := by decide +kernel
theorem dX5_set_11 : decode cX5_set 11 = .ok (.invokevirtual 98, 3) := by decide +kernel
theorem dX5_set_14 : decode cX5_set 14 = .ok (.aload_n 0, 1) := by decide +kernel
theorem dX5_set_15 : decode cX5_set 15 = .ok (.getfield 7, 3) := by decide +kernel
theorem dX5_set_18 : decode cX5_set 18 = .ok (.iconst 1, 1) := by decide +kernel
theorem dX5_set_19 : decode cX5_set 19 = .ok (.iload_n 1, 1) := by decide +kernel
theorem dX5_set_20 : decode cX5_set 20 = .ok (.iadd, 1) := by decide +kernel
theorem dX5_set_21 : decode cX5_set 21 = .ok (.iaload, 1) := by decide +kernel
theorem dX5_set_22 : decode cX5_set 22 = .ok (.istore_n 3, 1) := by decide +kernel
theorem dX5_set_23 : decode cX5_set 23 = .ok (.aload_n 0, 1) := by decide +kernel
theorem dX5_set_24 : decode cX5_set 24 = .ok (.getfield 7, 3) := by decide +kernel
theorem dX5_set_27 : decode cX5_set 27 = .ok (.iconst 1, 1) := by decide +kernel
theorem dX5_set_28 : decode cX5_set 28 = .ok (.iload_n 1, 1) := by decide +kernel
theorem dX5_set_29 : decode cX5_set 29 = .ok (.iadd, 1) := by decide +kernel
theorem dX5_set_30 : decode cX5_set 30 = .ok (.iload_n 2, 1) := by decide +kernel
theorem dX5_set_31 : decode cX5_set 31 = .ok (.iastore, 1) := by decide +kernel
theorem dX5_set_32 : decode cX5_set 32 = .ok (.iload_n 3, 1) := by decide +kernel
theorem dX5_set_33 : decode cX5_set 33 = .ok (.ireturn, 1) := by decide +kernel
set_option maxRecDepth 20000 in
theorem ggX5_find_X5_remember : GoodIn wsX5_find wsX5_remember := goodIn_r _ [7, 8, 9, 1, 18, 19, 20, 21, 22, 23, 24, 25, 26, 27, 28] (by decide +kernel) (by decide +kernel)
set_option maxRecDepth 20000 in
theorem gX5_find_X5_remember : GoodIn wsX5_find (wsV RX5 98 RX5 yX5_remember wsX5_remember) := goodIn_app (goodIn_of _ (by decide +kernel)) ggX5_find_X5_remember
set_option maxRecDepth 20000 in
theorem ggX5_find_X5_findBy : GoodIn wsX5_find wsX5_findBy := goodIn_r _ [13, 2, 1, 18, 19, 20, 21, 22, 23, 24, 25, 26, 27, 28] (by decide +kernel) (by decide +kernel)
set_option maxRecDepth 20000 in
theorem gX5_find_X5_findBy : GoodIn wsX5_find (wsV RX5 109 RX5 yX5_findBy wsX5_findBy) := goodIn_app (goodIn_of _ (by decide +kernel)) ggX5_find_X5_findBy
set_option maxRecDepth 20000 in
theorem ggX5_find_X5_layOrder : GoodIn wsX5_find wsX5_layOrder := goodIn_r _ [17, 1, 18, 19, 20, 21, 22, 23, 24, 25, 26, 27, 28] (by decide +kernel) (by decide +kernel)
set_option maxRecDepth 20000 in
theorem gX5_find_X5_layOrder : GoodIn wsX5_find (wsV RX5 40 RX5 yX5_layOrder wsX5_layOrder) := goodIn_app (goodIn_of _ (by decide +kernel)) ggX5_find_X5_layOrder
theorem dX5_find_0 : decode cX5_find 0 = .ok (.aload_n 0, 1) := by decide +kernel
theorem dX5_find_1 : decode cX5_find 1 = .ok (.invokevirtual 98, 3) := by decide +kernel
theorem dX5_find_4 : decode cX5_find 4 = .ok (.aload_n 0, 1) := by decide +kernel
theorem dX5_find_5 : decode cX5_find 5 = .ok (.getfield 7, 3) := by decide +kernel
theorem dX5_find_8 : decode cX5_find 8 = .ok (.bipush 74, 2) := by decide +kernel
theorem dX5_find_10 : decode cX5_find 10 = .ok (.aload_n 0, 1) := by decide +kernel
theorem dX5_find_11 : decode cX5_find 11 = .ok (.aload_n 0, 1) := by decide +kernel
theorem dX5_find_12 : decode cX5_find 12 = .ok (.getfield 7, 3) := by decide +kernel
theorem dX5_find_15 : decode cX5_find 15 = .ok (.iconst 2, 1) := by decide +kernel
theorem dX5_find_16 : decode cX5_find 16 = .ok (.iaload, 1) := by decide +kernel
theorem dX5_find_17 : decode cX5_find 17 = .ok (.invokevirtual 109, 3) := by decide +kernel
theorem dX5_find_20 : decode cX5_find 20 = .ok (.iastore, 1) := by decide +kernel
theorem dX5_find_21 : decode cX5_find 21 = .ok (.iconst 0, 1) := by decide +kernel
theorem dX5_find_22 : decode cX5_find 22 = .ok (.istore_n 1, 1) := by decide +kernel
theorem dX5_find_23 : decode cX5_find 23 = .ok (.iload_n 1, 1) := by decide +kernel
theorem dX5_find_24 : decode cX5_find 24 = .ok (.aload_n 0, 1) := by decide +kernel
theorem dX5_find_25 : decode cX5_find 25 = .ok (.getfield 7, 3) := by decide +kernel
theorem dX5_find_28 : decode cX5_find 28 = .ok (.bipush 74, 2) := by decide +kernel
theorem dX5_find_30 : decode cX5_find 30 = .ok (.iaload, 1) := by decide +kernel
theorem dX5_find_31 : decode cX5_find 31 = .ok (.if_icmp .ge 24, 3) := by decide +kernel
theorem dX5_find_34 : decode cX5_find 34 = .ok (.aload_n 0, 1) := by decide +kernel
theorem dX5_find_35 : decode cX5_find 35 = .ok (.getfield 7, 3) := by decide +kernel
theorem dX5_find_38 : decode cX5_find 38 = .ok (.bipush 75, 2) := by decide +kernel
theorem dX5_find_40 : decode cX5_find 40 = .ok (.iload_n 1, 1) := by decide +kernel
theorem dX5_find_41 : decode cX5_find 41 = .ok (.iadd, 1) := by decide +kernel
theorem dX5_find_42 : decode cX5_find 42 = .ok (.aload_n 0, 1) := by decide +kernel
theorem dX5_find_43 : decode cX5_find 43 = .ok (.getfield 19, 3) := by decide +kernel
theorem dX5_find_46 : decode cX5_find 46 = .ok (.iload_n 1, 1) := by decide +kernel
theorem dX5_find_47 : decode cX5_find 47 = .ok (.iaload, 1) := by decide +kernel
theorem dX5_find_48 : decode cX5_find 48 = .ok (.iastore, 1) := by decide +kernel
theorem dX5_find_49 : decode cX5_find 49 = .ok (.iinc 1 1, 3) := by decide +kernel
theorem dX5_find_52 : decode cX5_find 52 = .ok (.goto (-29), 3) := by decide +kernel
theorem dX5_find_55 : decode cX5_find 55 = .ok (.aload_n 0, 1) := by decide +kernel
theorem dX5_find_56 : decode cX5_find 56 = .ok (.invokevirtual 40, 3) := by decide +kernel
theorem dX5_find_59 : decode cX5_find 59 = .ok (.aload_n 0, 1) := by decide +kernel
theorem dX5_find_60 : decode cX5_find 60 = .ok (.getfield 7, 3) := by decide +kernel
theorem dX5_find_63 : decode cX5_find 63 = .ok (.bipush 74, 2) := by decide +kernel
theorem dX5_find_65 : decode cX5_find 65 = .ok (.iaload, 1) := by decide +kernel
theorem dX5_find_66 : decode cX5_find 66 = .ok (.ireturn, 1) := by decide +kernel
set_option maxRecDepth 20000 in
theorem ggX5_mark_X5_isFrame : GoodIn wsX5_mark wsX5_isFrame := goodIn_r _ [6, 1, 7, 8, 5, 9, 20, 21, 22, 23, 24, 25, 26, 27, 28, 29, 30] (by decide +kernel) (by decide +kernel)
set_option maxRecDepth 20000 in
theorem gX5_mark_X5_isFrame : GoodIn wsX5_mark (wsV RX5 101 RX5 yX5_isFrame wsX5_isFrame) := goodIn_app (goodIn_of _ (by decide +kernel)) ggX5_mark_X5_isFrame
set_option maxRecDepth 20000 in
theorem ggX5_mark_X5_remember : GoodIn wsX5_mark wsX5_remember := goodIn_r _ [13, 14, 15, 1, 20, 21, 22, 23, 24, 25, 26, 27, 28, 29, 30] (by decide +kernel) (by decide +kernel)
set_option maxRecDepth 20000 in
theorem gX5_mark_X5_remember : GoodIn wsX5_mark (wsV RX5 98 RX5 yX5_remember wsX5_remember) := goodIn_app (goodIn_of _ (by decide +kernel)) ggX5_mark_X5_remember
set_option maxRecDepth 20000 in
theorem ggX5_mark_X5_layOrder : GoodIn wsX5_mark wsX5_layOrder := goodIn_r _ [19, 1, 20, 21, 22, 23, 24, 25, 26, 27, 28, 29, 30] (by decide +kernel) (by decide +kernel)
set_option maxRecDepth 20000 in
theorem gX5_mark_X5_layOrder : GoodIn wsX5_mark (wsV RX5 40 RX5 yX5_layOrder wsX5_layOrder) := goodIn_app (goodIn_of _ (by decide +kernel)) ggX5_mark_X5_layOrder
theorem dX5_mark_0 : decode cX5_mark 0 = .ok (.aload_n 0, 1) := by decide +kernel
theorem dX5_mark_1 : decode cX5_mark 1 = .ok (.iload_n 1, 1) := by decide +kernel
theorem dX5_mark_2 : decode cX5_mark 2 = .ok (.invokevirtual 101, 3) := by decide +kernel
theorem dX5_mark_5 : decode cX5_mark 5 = .ok (.ifCond .ne 5, 3) := by decide +kernel
theorem dX5_mark_8 : decode cX5_mark 8 = .ok (.iconst (-1), 1) := by decide +kernel
theorem dX5_mark_9 : decode cX5_mark 9 = .ok (.ireturn, 1) := by decide +kernel
theorem dX5_mark_10 : decode cX5_mark 10 = .ok (.iconst 0, 1) := by decide +kernel
theorem dX5_mark_11 : decode cX5_mark 11 = .ok (.istore_n 2, 1) := by decide +kernel
theorem dX5_mark_12 : decode cX5_mark 12 = .ok (.iload_n 2, 1) := by decide +kernel
theorem dX5_mark_13 : decode cX5_mark 13 = .ok (.aload_n 0, 1) := by decide +kernel
theorem dX5_mark_14 : decode cX5_mark 14 = .ok (.getfield 7, 3) := by decide +kernel
theorem dX5_mark_17 : decode cX5_mark 17 = .ok (.bipush 74, 2) := by decide +kernel
theorem dX5_mark_19 : decode cX5_mark 19 = .ok (.iaload, 1) := by decide +kernel
theorem dX5_mark_20 : decode cX5_mark 20 = .ok (.if_icmp .ge 22, 3) := by decide +kernel
theorem dX5_mark_23 : decode cX5_mark 23 = .ok (.aload_n 0, 1) := by decide +kernel
theorem dX5_mark_24 : decode cX5_mark 24 = .ok (.getfield 7, 3) := by decide +kernel
theorem dX5_mark_27 : decode cX5_mark 27 = .ok (.bipush 75, 2) := by decide +kernel
theorem dX5_mark_29 : decode cX5_mark 29 = .ok (.iload_n 2, 1) := by decide +kernel
theorem dX5_mark_30 : decode cX5_mark 30 = .ok (.iadd, 1) := by decide +kernel
theorem dX5_mark_31 : decode cX5_mark 31 = .ok (.iaload, 1) := by decide +kernel
theorem dX5_mark_32 : decode cX5_mark 32 = .ok (.iload_n 1, 1) := by decide +kernel
theorem dX5_mark_33 : decode cX5_mark 33 = .ok (.if_icmp .ge 9, 3) := by decide +kernel
theorem dX5_mark_36 : decode cX5_mark 36 = .ok (.iinc 2 1, 3) := by decide +kernel
theorem dX5_mark_39 : decode cX5_mark 39 = .ok (.goto (-27), 3) := by decide +kernel
theorem dX5_mark_42 : decode cX5_mark 42 = .ok (.iload_n 2, 1) := by decide +kernel
theorem dX5_mark_43 : decode cX5_mark 43 = .ok (.aload_n 0, 1) := by decide +kernel
theorem dX5_mark_44 : decode cX5_mark 44 = .ok (.getfield 7, 3) := by decide +kernel
theorem dX5_mark_47 : decode cX5_mark 47 = .ok (.bipush 74, 2) := by decide +kernel
theorem dX5_mark_49 : decode cX5_mark 49 = .ok (.iaload, 1) := by decide +kernel
theorem dX5_mark_50 : decode cX5_mark 50 = .ok (.if_icmp .ge 19, 3) := by decide +kernel
theorem dX5_mark_53 : decode cX5_mark 53 = .ok (.aload_n 0, 1) := by decide +kernel
theorem dX5_mark_54 : decode cX5_mark 54 = .ok (.getfield 7, 3) := by decide +kernel
theorem dX5_mark_57 : decode cX5_mark 57 = .ok (.bipush 75, 2) := by decide +kernel
theorem dX5_mark_59 : decode cX5_mark 59 = .ok (.iload_n 2, 1) := by decide +kernel
theorem dX5_mark_60 : decode cX5_mark 60 = .ok (.iadd, 1) := by decide +kernel
theorem dX5_mark_61 : decode cX5_mark 61 = .ok (.iaload, 1) := by decide +kernel
theorem dX5_mark_62 : decode cX5_mark 62 = .ok (.iload_n 1, 1) := by decide +kernel
theorem dX5_mark_63 : decode cX5_mark 63 = .ok (.if_icmp .ne 6, 3) := by decide +kernel
theorem dX5_mark_66 : decode cX5_mark 66 = .ok (.bipush (-2), 2) := by decide +kernel
theorem dX5_mark_68 : decode cX5_mark 68 = .ok (.ireturn, 1) := by decide +kernel
theorem dX5_mark_69 : decode cX5_mark 69 = .ok (.aload_n 0, 1) := by decide +kernel
theorem dX5_mark_70 : decode cX5_mark 70 = .ok (.getfield 7, 3) := by decide +kernel
theorem dX5_mark_73 : decode cX5_mark 73 = .ok (.bipush 74, 2) := by decide +kernel
theorem dX5_mark_75 : decode cX5_mark 75 = .ok (.iaload, 1) := by decide +kernel
theorem dX5_mark_76 : decode cX5_mark 76 = .ok (.bipush 16, 2) := by decide +kernel
theorem dX5_mark_78 : decode cX5_mark 78 = .ok (.if_icmp .ne 6, 3) := by decide +kernel
theorem dX5_mark_81 : decode cX5_mark 81 = .ok (.bipush (-3), 2) := by decide +kernel
theorem dX5_mark_83 : decode cX5_mark 83 = .ok (.ireturn, 1) := by decide +kernel
theorem dX5_mark_84 : decode cX5_mark 84 = .ok (.aload_n 0, 1) := by decide +kernel
theorem dX5_mark_85 : decode cX5_mark 85 = .ok (.invokevirtual 98, 3) := by decide +kernel
theorem dX5_mark_88 : decode cX5_mark 88 = .ok (.aload_n 0, 1) := by decide +kernel
theorem dX5_mark_89 : decode cX5_mark 89 = .ok (.getfield 7, 3) := by decide +kernel
theorem dX5_mark_92 : decode cX5_mark 92 = .ok (.bipush 74, 2) := by decide +kernel
theorem dX5_mark_94 : decode cX5_mark 94 = .ok (.iaload, 1) := by decide +kernel
theorem dX5_mark_95 : decode cX5_mark 95 = .ok (.istore_n 3, 1) := by decide +kernel
theorem dX5_mark_96 : decode cX5_mark 96 = .ok (.iload_n 3, 1) := by decide +kernel
theorem dX5_mark_97 : decode cX5_mark 97 = .ok (.iload_n 2, 1) := by decide +kernel
theorem dX5_mark_98 : decode cX5_mark 98 = .ok (.if_icmp .le 29, 3) := by decide +kernel
theorem dX5_mark_101 : decode cX5_mark 101 = .ok (.aload_n 0, 1) := by decide +kernel
theorem dX5_mark_102 : decode cX5_mark 102 = .ok (.getfield 7, 3) := by decide +kernel
theorem dX5_mark_105 : decode cX5_mark 105 = .ok (.bipush 75, 2) := by decide +kernel
theorem dX5_mark_107 : decode cX5_mark 107 = .ok (.iload_n 3, 1) := by decide +kernel
theorem dX5_mark_108 : decode cX5_mark 108 = .ok (.iadd, 1) := by decide +kernel
theorem dX5_mark_109 : decode cX5_mark 109 = .ok (.aload_n 0, 1) := by decide +kernel
theorem dX5_mark_110 : decode cX5_mark 110 = .ok (.getfield 7, 3) := by decide +kernel
theorem dX5_mark_113 : decode cX5_mark 113 = .ok (.bipush 75, 2) := by decide +kernel
theorem dX5_mark_115 : decode cX5_mark 115 = .ok (.iload_n 3, 1) := by decide +kernel
theorem dX5_mark_116 : decode cX5_mark 116 = .ok (.iadd, 1) := by decide +kernel
theorem dX5_mark_117 : decode cX5_mark 117 = .ok (.iconst 1, 1) := by decide +kernel
theorem dX5_mark_118 : decode cX5_mark 118 = .ok (.isub, 1) := by decide +kernel
theorem dX5_mark_119 : decode cX5_mark 119 = .ok (.iaload, 1) := by decide +kernel
theorem dX5_mark_120 : decode cX5_mark 120 = .ok (.iastore, 1) := by decide +kernel
theorem dX5_mark_121 : decode cX5_mark 121 = .ok (.iinc 3 (-1), 3) := by decide +kernel
theorem dX5_mark_124 : decode cX5_mark 124 = .ok (.goto (-28), 3) := by decide +kernel
theorem dX5_mark_127 : decode cX5_mark 127 = .ok (.aload_n 0, 1) := by decide +kernel
theorem dX5_mark_128 : decode cX5_mark 128 = .ok (.getfield 7, 3) := by decide +kernel
theorem dX5_mark_131 : decode cX5_mark 131 = .ok (.bipush 75, 2) := by decide +kernel
theorem dX5_mark_133 : decode cX5_mark 133 = .ok (.iload_n 2, 1) := by decide +kernel
theorem dX5_mark_134 : decode cX5_mark 134 = .ok (.iadd, 1) := by decide +kernel
theorem dX5_mark_135 : decode cX5_mark 135 = .ok (.iload_n 1, 1) := by decide +kernel
theorem dX5_mark_136 : decode cX5_mark 136 = .ok (.iastore, 1) := by decide +kernel
theorem dX5_mark_137 : decode cX5_mark 137 = .ok (.aload_n 0, 1) := by decide +kernel
theorem dX5_mark_138 : decode cX5_mark 138 = .ok (.getfield 7, 3) := by decide +kernel
theorem dX5_mark_141 : decode cX5_mark 141 = .ok (.bipush 74, 2) := by decide +kernel
theorem dX5_mark_143 : decode cX5_mark 143 = .ok (.dup2, 1) := by decide +kernel
theorem dX5_mark_144 : decode cX5_mark 144 = .ok (.iaload, 1) := by decide +kernel
theorem dX5_mark_145 : decode cX5_mark 145 = .ok (.iconst 1, 1) := by decide +kernel
theorem dX5_mark_146 : decode cX5_mark 146 = .ok (.iadd, 1) := by decide +kernel
theorem dX5_mark_147 : decode cX5_mark 147 = .ok (.iastore, 1) := by decide +kernel
theorem dX5_mark_148 : decode cX5_mark 148 = .ok (.aload_n 0, 1) := by decide +kernel
theorem dX5_mark_149 : decode cX5_mark 149 = .ok (.invokevirtual 40, 3) := by decide +kernel
theorem dX5_mark_152 : decode cX5_mark 152 = .ok (.iload_n 2, 1) := by decide +kernel
theorem dX5_mark_153 : decode cX5_mark 153 = .ok (.ireturn, 1) := by decide +kernel
set_option maxRecDepth 20000 in
theorem ggX5_isFurther_X5_isIn : GoodIn wsX5_isFurther wsX5_isIn := goodIn_r _ [5] (by decide +kernel) (by decide +kernel)
set_option maxRecDepth 20000 in
theorem gX5_isFurther_X5_isIn : GoodIn wsX5_isFurther (va_wsS RX5 47 yX5_isIn wsX5_isIn) := goodIn_app (goodIn_of _ (by decide +kernel)) ggX5_isFurther_X5_isIn
theorem dX5_isFurther_0 : decode cX5_isFurther 0 = .ok (.iload_n 1, 1) := by decide +kernel
theorem dX5_isFurther_1 : decode cX5_isFurther 1 = .ok (.iconst 1, 1) := by decide +kernel
theorem dX5_isFurther_2 : decode cX5_isFurther 2 = .ok (.aload_n 0, 1) := by decide +kernel
theorem dX5_isFurther_3 : decode cX5_isFurther 3 = .ok (.getfield 7, 3) := by decide +kernel
theorem dX5_isFurther_6 : decode cX5_isFurther 6 = .ok (.bipush 74, 2) := by decide +kernel
theorem dX5_isFurther_8 : decode cX5_isFurther 8 = .ok (.iaload, 1) := by decide +kernel
theorem dX5_isFurther_9 : decode cX5_isFurther 9 = .ok (.iconst 1, 1) := by decide +kernel
theorem dX5_isFurther_10 : decode cX5_isFurther 10 = .ok (.isub, 1) := by decide +kernel
theorem dX5_isFurther_11 : decode cX5_isFurther 11 = .ok (.invokestatic 47, 3) := by decide +kernel
theorem dX5_isFurther_14 : decode cX5_isFurther 14 = .ok (.ireturn, 1) := by decide +kernel
set_option maxRecDepth 20000 in
theorem ggX5_unmark_X5_isFurther : GoodIn wsX5_unmark wsX5_isFurther := goodIn_r _ [6, 1, 7, 8, 5, 9, 20, 21, 22, 23, 24, 25, 26, 27, 28, 29, 30] (by decide +kernel) (by decide +kernel)
set_option maxRecDepth 20000 in
theorem gX5_unmark_X5_isFurther : GoodIn wsX5_unmark (wsV RX5 112 RX5 yX5_isFurther wsX5_isFurther) := goodIn_app (goodIn_of _ (by decide +kernel)) ggX5_unmark_X5_isFurther
set_option maxRecDepth 20000 in
theorem ggX5_unmark_X5_remember : GoodIn wsX5_unmark wsX5_remember := goodIn_r _ [13, 14, 15, 1, 20, 21, 22, 23, 24, 25, 26, 27, 28, 29, 30] (by decide +kernel) (by decide +kernel)
set_option maxRecDepth 20000 in
theorem gX5_unmark_X5_remember : GoodIn wsX5_unmark (wsV RX5 98 RX5 yX5_remember wsX5_remember) := goodIn_app (goodIn_of _ (by decide +kernel)) ggX5_unmark_X5_remember
set_option maxRecDepth 20000 in
theorem ggX5_unmark_X5_layOrder : GoodIn wsX5_unmark wsX5_layOrder := goodIn_r _ [19, 1, 20, 21, 22, 23, 24, 25, 26, 27, 28, 29, 30] (by decide +kernel) (by decide +kernel)
set_option maxRecDepth 20000 in
theorem gX5_unmark_X5_layOrder : GoodIn wsX5_unmark (wsV RX5 40 RX5 yX5_layOrder wsX5_layOrder) := goodIn_app (goodIn_of _ (by decide +kernel)) ggX5_unmark_X5_layOrder
theorem dX5_unmark_0 : decode cX5_unmark 0 = .ok (.aload_n 0, 1) := by decide +kernel
theorem dX5_unmark_1 : decode cX5_unmark 1 = .ok (.iload_n 1, 1) := by decide +kernel
theorem dX5_unmark_2 : decode cX5_unmark 2 = .ok (.invokevirtual 112, 3) := by decide +kernel
theorem dX5_unmark_5 : decode cX5_unmark 5 = .ok (.ifCond .ne 5, 3) := by decide +kernel
theorem dX5_unmark_8 : decode cX5_unmark 8 = .ok (.iconst (-1), 1) := by decide +kernel
theorem dX5_unmark_9 : decode cX5_unmark 9 = .ok (.ireturn, 1) := by decide +kernel
theorem dX5_unmark_10 : decode cX5_unmark 10 = .ok (.aload_n 0, 1) := by decide +kernel
theorem dX5_unmark_11 : decode cX5_unmark 11 = .ok (.invokevirtual 98, 3) := by decide +kernel
theorem dX5_unmark_14 : decode cX5_unmark 14 = .ok (.iload_n 1, 1) := by decide +kernel
theorem dX5_unmark_15 : decode cX5_unmark 15 = .ok (.istore_n 2, 1) := by decide +kernel
theorem dX5_unmark_16 : decode cX5_unmark 16 = .ok (.iload_n 2, 1) := by decide +kernel
theorem dX5_unmark_17 : decode cX5_unmark 17 = .ok (.iconst 1, 1) := by decide +kernel
theorem dX5_unmark_18 : decode cX5_unmark 18 = .ok (.iadd, 1) := by decide +kernel
theorem dX5_unmark_19 : decode cX5_unmark 19 = .ok (.aload_n 0, 1) := by decide +kernel
theorem dX5_unmark_20 : decode cX5_unmark 20 = .ok (.getfield 7, 3) := by decide +kernel
theorem dX5_unmark_23 : decode cX5_unmark 23 = .ok (.bipush 74, 2) := by decide +kernel
theorem dX5_unmark_25 : decode cX5_unmark 25 = .ok (.iaload, 1) := by decide +kernel
theorem dX5_unmark_26 : decode cX5_unmark 26 = .ok (.if_icmp .ge 29, 3) := by decide +kernel
theorem dX5_unmark_29 : decode cX5_unmark 29 = .ok (.aload_n 0, 1) := by decide +kernel
theorem dX5_unmark_30 : decode cX5_unmark 30 = .ok (.getfield 7, 3) := by decide +kernel
theorem dX5_unmark_33 : decode cX5_unmark 33 = .ok (.bipush 75, 2) := by decide +kernel
theorem dX5_unmark_35 : decode cX5_unmark 35 = .ok (.iload_n 2, 1) := by decide +kernel
theorem dX5_unmark_36 : decode cX5_unmark 36 = .ok (.iadd, 1) := by decide +kernel
theorem dX5_unmark_37 : decode cX5_unmark 37 = .ok (.aload_n 0, 1) := by decide +kernel
theorem dX5_unmark_38 : decode cX5_unmark 38 = .ok (.getfield 7, 3) := by decide +kernel
theorem dX5_unmark_41 : decode cX5_unmark 41 = .ok (.bipush 75, 2) := by decide +kernel
theorem dX5_unmark_43 : decode cX5_unmark 43 = .ok (.iload_n 2, 1) := by decide +kernel
theorem dX5_unmark_44 : decode cX5_unmark 44 = .ok (.iadd, 1) := by decide +kernel
theorem dX5_unmark_45 : decode cX5_unmark 45 = .ok (.iconst 1, 1) := by decide +kernel
theorem dX5_unmark_46 : decode cX5_unmark 46 = .ok (.iadd, 1) := by decide +kernel
theorem dX5_unmark_47 : decode cX5_unmark 47 = .ok (.iaload, 1) := by decide +kernel
theorem dX5_unmark_48 : decode cX5_unmark 48 = .ok (.iastore, 1) := by decide +kernel
theorem dX5_unmark_49 : decode cX5_unmark 49 = .ok (.iinc 2 1, 3) := by decide +kernel
theorem dX5_unmark_52 : decode cX5_unmark 52 = .ok (.goto (-36), 3) := by decide +kernel
theorem dX5_unmark_55 : decode cX5_unmark 55 = .ok (.aload_n 0, 1) := by decide +kernel
theorem dX5_unmark_56 : decode cX5_unmark 56 = .ok (.getfield 7, 3) := by decide +kernel
theorem dX5_unmark_59 : decode cX5_unmark 59 = .ok (.bipush 74, 2) := by decide +kernel
theorem dX5_unmark_61 : decode cX5_unmark 61 = .ok (.dup2, 1) := by decide +kernel
theorem dX5_unmark_62 : decode cX5_unmark 62 = .ok (.iaload, 1) := by decide +kernel
theorem dX5_unmark_63 : decode cX5_unmark 63 = .ok (.iconst 1, 1) := by decide +kernel
theorem dX5_unmark_64 : decode cX5_unmark 64 = .ok (.isub, 1) := by decide +kernel
theorem dX5_unmark_65 : decode cX5_unmark 65 = .ok (.iastore, 1) := by decide +kernel
theorem dX5_unmark_66 : decode cX5_unmark 66 = .ok (.aload_n 0, 1) := by decide +kernel
theorem dX5_unmark_67 : decode cX5_unmark 67 = .ok (.invokevirtual 40, 3) := by decide +kernel
theorem dX5_unmark_70 : decode cX5_unmark 70 = .ok (.aload_n 0, 1) := by decide +kernel
theorem dX5_unmark_71 : decode cX5_unmark 71 = .ok (.getfield 7, 3) := by decide +kernel
theorem dX5_unmark_74 : decode cX5_unmark 74 = .ok (.bipush 74, 2) := by decide +kernel
theorem dX5_unmark_76 : decode cX5_unmark 76 = .ok (.iaload, 1) := by decide +kernel
theorem dX5_unmark_77 : decode cX5_unmark 77 = .ok (.ireturn, 1) := by decide +kernel
set_option maxRecDepth 20000 in
theorem ggX5_moveMark_X5_isFurther : GoodIn wsX5_moveMark wsX5_isFurther := goodIn_r _ [6, 1, 7, 8, 5, 9, 24, 25, 26, 27, 28, 29, 30, 31, 32, 33, 34] (by decide +kernel) (by decide +kernel)
set_option maxRecDepth 20000 in
theorem gX5_moveMark_X5_isFurther : GoodIn wsX5_moveMark (wsV RX5 112 RX5 yX5_isFurther wsX5_isFurther) := goodIn_app (goodIn_of _ (by decide +kernel)) ggX5_moveMark_X5_isFurther
set_option maxRecDepth 20000 in
theorem ggX5_moveMark_X5_isFrame : GoodIn wsX5_moveMark wsX5_isFrame := goodIn_r _ [13, 1, 7, 8, 5, 9, 24, 25, 26, 27, 28, 29, 30, 31, 32, 33, 34] (by decide +kernel) (by decide +kernel)
set_option maxRecDepth 20000 in
theorem gX5_moveMark_X5_isFrame : GoodIn wsX5_moveMark (wsV RX5 101 RX5 yX5_isFrame wsX5_isFrame) := goodIn_app (goodIn_of _ (by decide +kernel)) ggX5_moveMark_X5_isFrame
set_option maxRecDepth 20000 in
theorem ggX5_moveMark_X5_frameOf : GoodIn wsX5_moveMark wsX5_frameOf := goodIn_r _ [17, 1, 24, 25, 26, 27, 28, 29, 30, 31, 32, 33, 34] (by decide +kernel) (by decide +kernel)
set_option maxRecDepth 20000 in
theorem gX5_moveMark_X5_frameOf : GoodIn wsX5_moveMark (wsV RX5 51 RX5 yX5_frameOf wsX5_frameOf) := goodIn_app (goodIn_of _ (by decide +kernel)) ggX5_moveMark_X5_frameOf
set_option maxRecDepth 20000 in
theorem ggX5_moveMark_X5_remember : GoodIn wsX5_moveMark wsX5_remember := goodIn_r _ [21, 22, 23, 1, 24, 25, 26, 27, 28, 29, 30, 31, 32, 33, 34] (by decide +kernel) (by decide +kernel)
set_option maxRecDepth 20000 in
theorem gX5_moveMark_X5_remember : GoodIn wsX5_moveMark (wsV RX5 98 RX5 yX5_remember wsX5_remember) := goodIn_app (goodIn_of _ (by decide +kernel)) ggX5_moveMark_X5_remember
theorem dX5_moveMark_0 : decode cX5_moveMark 0 = .ok (.aload_n 0, 1) := by decide +kernel
theorem dX5_moveMark_1 : decode cX5_moveMark 1 = .ok (.iload_n 1, 1) := by decide +kernel
theorem dX5_moveMark_2 : decode cX5_moveMark 2 = .ok (.invokevirtual 112, 3) := by decide +kernel
theorem dX5_moveMark_5 : decode cX5_moveMark 5 = .ok (.ifCond .eq 11, 3) := by decide +kernel
theorem dX5_moveMark_8 : decode cX5_moveMark 8 = .ok (.aload_n 0, 1) := by decide +kernel
theorem dX5_moveMark_9 : decode cX5_moveMark 9 = .ok (.iload_n 2, 1) := by decide +kernel
theorem dX5_moveMark_10 : decode cX5_moveMark 10 = .ok (.invokevirtual 101, 3) := by decide +kernel
theorem dX5_moveMark_13 : decode cX5_moveMark 13 = .ok (.ifCond .ne 5, 3) := by decide +kernel
theorem dX5_moveMark_16 : decode cX5_moveMark 16 = .ok (.iconst (-1), 1) := by decide +kernel
theorem dX5_moveMark_17 : decode cX5_moveMark 17 = .ok (.ireturn, 1) := by decide +kernel
theorem dX5_moveMark_18 : decode cX5_moveMark 18 = .ok (.iload_n 2, 1) := by decide +kernel
theorem dX5_moveMark_19 : decode cX5_moveMark 19 = .ok (.aload_n 0, 1) := by decide +kernel
theorem dX5_moveMark_20 : decode cX5_moveMark 20 = .ok (.iload_n 1, 1) := by decide +kernel
theorem dX5_moveMark_21 : decode cX5_moveMark 21 = .ok (.iconst 1, 1) := by decide +kernel
theorem dX5_moveMark_22 : decode cX5_moveMark 22 = .ok (.isub, 1) := by decide +kernel
theorem dX5_moveMark_23 : decode cX5_moveMark 23 = .ok (.invokevirtual 51, 3) := by decide +kernel
theorem dX5_moveMark_26 : decode cX5_moveMark 26 = .ok (.if_icmp .le 14, 3) := by decide +kernel
theorem dX5_moveMark_29 : decode cX5_moveMark 29 = .ok (.iload_n 2, 1) := by decide +kernel
theorem dX5_moveMark_30 : decode cX5_moveMark 30 = .ok (.aload_n 0, 1) := by decide +kernel
theorem dX5_moveMark_31 : decode cX5_moveMark 31 = .ok (.iload_n 1, 1) := by decide +kernel
theorem dX5_moveMark_32 : decode cX5_moveMark 32 = .ok (.iconst 1, 1) := by decide +kernel
theorem dX5_moveMark_33 : decode cX5_moveMark 33 = .ok (.iadd, 1) := by decide +kernel
theorem dX5_moveMark_34 : decode cX5_moveMark 34 = .ok (.invokevirtual 51, 3) := by decide +kernel
theorem dX5_moveMark_37 : decode cX5_moveMark 37 = .ok (.if_icmp .lt 6, 3) := by decide +kernel
theorem dX5_moveMark_40 : decode cX5_moveMark 40 = .ok (.bipush (-2), 2) := by decide +kernel
theorem dX5_moveMark_42 : decode cX5_moveMark 42 = .ok (.ireturn, 1) := by decide +kernel
theorem dX5_moveMark_43 : decode cX5_moveMark 43 = .ok (.aload_n 0, 1) := by decide +kernel
theorem dX5_moveMark_44 : decode cX5_moveMark 44 = .ok (.invokevirtual 98, 3) := by decide +kernel
theorem dX5_moveMark_47 : decode cX5_moveMark 47 = .ok (.aload_n 0, 1) := by decide +kernel
theorem dX5_moveMark_48 : decode cX5_moveMark 48 = .ok (.getfield 7, 3) := by decide +kernel
theorem dX5_moveMark_51 : decode cX5_moveMark 51 = .ok (.bipush 75, 2) := by decide +kernel
theorem dX5_moveMark_53 : decode cX5_moveMark 53 = .ok (.iload_n 1, 1) := by decide +kernel
theorem dX5_moveMark_54 : decode cX5_moveMark 54 = .ok (.iadd, 1) := by decide +kernel
theorem dX5_moveMark_55 : decode cX5_moveMark 55 = .ok (.iaload, 1) := by decide +kernel
theorem dX5_moveMark_56 : decode cX5_moveMark 56 = .ok (.istore_n 3, 1) := by decide +kernel
theorem dX5_moveMark_57 : decode cX5_moveMark 57 = .ok (.aload_n 0, 1) := by decide +kernel
theorem dX5_moveMark_58 : decode cX5_moveMark 58 = .ok (.getfield 7, 3) := by decide +kernel
theorem dX5_moveMark_61 : decode cX5_moveMark 61 = .ok (.bipush 75, 2) := by decide +kernel
theorem dX5_moveMark_63 : decode cX5_moveMark 63 = .ok (.iload_n 1, 1) := by decide +kernel
theorem dX5_moveMark_64 : decode cX5_moveMark 64 = .ok (.iadd, 1) := by decide +kernel
theorem dX5_moveMark_65 : decode cX5_moveMark 65 = .ok (.iload_n 2, 1) := by decide +kernel
theorem dX5_moveMark_66 : decode cX5_moveMark 66 = .ok (.iastore, 1) := by decide +kernel
theorem dX5_moveMark_67 : decode cX5_moveMark 67 = .ok (.iload_n 3, 1) := by decide +kernel
theorem dX5_moveMark_68 : decode cX5_moveMark 68 = .ok (.ireturn, 1) := by decide +kernel
set_option maxRecDepth 20000 in
theorem ggX5_swap_X5_isSlice : GoodIn wsX5_swap wsX5_isSlice := goodIn_r _ [6, 1, 7, 8, 5, 9, 16, 17, 18, 19, 20, 21, 22, 23, 24, 25, 26] (by decide +kernel) (by decide +kernel)
set_option maxRecDepth 20000 in
theorem gX5_swap_X5_isSlice : GoodIn wsX5_swap (wsV RX5 115 RX5 yX5_isSlice wsX5_isSlice) := goodIn_app (goodIn_of _ (by decide +kernel)) ggX5_swap_X5_isSlice
set_option maxRecDepth 20000 in
theorem ggX5_swap_X5_remember : GoodIn wsX5_swap wsX5_remember := goodIn_r _ [13, 14, 15, 1, 16, 17, 18, 19, 20, 21, 22, 23, 24, 25, 26] (by decide +kernel) (by decide +kernel)
set_option maxRecDepth 20000 in
theorem gX5_swap_X5_remember : GoodIn wsX5_swap (wsV RX5 98 RX5 yX5_remember wsX5_remember) := goodIn_app (goodIn_of _ (by decide +kernel)) ggX5_swap_X5_remember
theorem dX5_swap_0 : decode cX5_swap 0 = .ok (.aload_n 0, 1) := by decide +kernel
theorem dX5_swap_1 : decode cX5_swap 1 = .ok (.iload_n 1, 1) := by decide +kernel
theorem dX5_swap_2 : decode cX5_swap 2 = .ok (.invokevirtual 115, 3) := by decide +kernel
theorem dX5_swap_5 : decode cX5_swap 5 = .ok (.ifCond .eq 11, 3) := by decide +kernel
theorem dX5_swap_8 : decode cX5_swap 8 = .ok (.aload_n 0, 1) := by decide +kernel
theorem dX5_swap_9 : decode cX5_swap 9 = .ok (.iload_n 2, 1) := by decide +kernel
theorem dX5_swap_10 : decode cX5_swap 10 = .ok (.invokevirtual 115, 3) := by decide +kernel
theorem dX5_swap_13 : decode cX5_swap 13 = .ok (.ifCond .ne 5, 3) := by decide +kernel
theorem dX5_swap_16 : decode cX5_swap 16 = .ok (.iconst (-1), 1) := by decide +kernel
theorem dX5_swap_17 : decode cX5_swap 17 = .ok (.ireturn, 1) := by decide +kernel
theorem dX5_swap_18 : decode cX5_swap 18 = .ok (.aload_n 0, 1) := by decide +kernel
theorem dX5_swap_19 : decode cX5_swap 19 = .ok (.invokevirtual 98, 3) := by decide +kernel
theorem dX5_swap_22 : decode cX5_swap 22 = .ok (.aload_n 0, 1) := by decide +kernel
theorem dX5_swap_23 : decode cX5_swap 23 = .ok (.getfield 7, 3) := by decide +kernel
theorem dX5_swap_26 : decode cX5_swap 26 = .ok (.bipush 91, 2) := by decide +kernel
theorem dX5_swap_28 : decode cX5_swap 28 = .ok (.iload_n 1, 1) := by decide +kernel
theorem dX5_swap_29 : decode cX5_swap 29 = .ok (.iadd, 1) := by decide +kernel
theorem dX5_swap_30 : decode cX5_swap 30 = .ok (.iaload, 1) := by decide +kernel
theorem dX5_swap_31 : decode cX5_swap 31 = .ok (.istore_n 3, 1) := by decide +kernel
theorem dX5_swap_32 : decode cX5_swap 32 = .ok (.aload_n 0, 1) := by decide +kernel
theorem dX5_swap_33 : decode cX5_swap 33 = .ok (.getfield 7, 3) := by decide +kernel
theorem dX5_swap_36 : decode cX5_swap 36 = .ok (.bipush 91, 2) := by decide +kernel
theorem dX5_swap_38 : decode cX5_swap 38 = .ok (.iload_n 1, 1) := by decide +kernel
theorem dX5_swap_39 : decode cX5_swap 39 = .ok (.iadd, 1) := by decide +kernel
theorem dX5_swap_40 : decode cX5_swap 40 = .ok (.aload_n 0, 1) := by decide +kernel
theorem dX5_swap_41 : decode cX5_swap 41 = .ok (.getfield 7, 3) := by decide +kernel
theorem dX5_swap_44 : decode cX5_swap 44 = .ok (.bipush 91, 2) := by decide +kernel
theorem dX5_swap_46 : decode cX5_swap 46 = .ok (.iload_n 2, 1) := by decide +kernel
theorem dX5_swap_47 : decode cX5_swap 47 = .ok (.iadd, 1) := by decide +kernel
theorem dX5_swap_48 : decode cX5_swap 48 = .ok (.iaload, 1) := by decide +kernel
theorem dX5_swap_49 : decode cX5_swap 49 = .ok (.iastore, 1) := by decide +kernel
theorem dX5_swap_50 : decode cX5_swap 50 = .ok (.aload_n 0, 1) := by decide +kernel
theorem dX5_swap_51 : decode cX5_swap 51 = .ok (.getfield 7, 3) := by decide +kernel
theorem dX5_swap_54 : decode cX5_swap 54 = .ok (.bipush 91, 2) := by decide +kernel
theorem dX5_swap_56 : decode cX5_swap 56 = .ok (.iload_n 2, 1) := by decide +kernel
theorem dX5_swap_57 : decode cX5_swap 57 = .ok (.iadd, 1) := by decide +kernel
theorem dX5_swap_58 : decode cX5_swap 58 = .ok (.iload_n 3, 1) := by decide +kernel
theorem dX5_swap_59 : decode cX5_swap 59 = .ok (.iastore, 1) := by decide +kernel
theorem dX5_swap_60 : decode cX5_swap 60 = .ok (.aload_n 0, 1) := by decide +kernel
theorem dX5_swap_61 : decode cX5_swap 61 = .ok (.getfield 7, 3) := by decide +kernel
theorem dX5_swap_64 : decode cX5_swap 64 = .ok (.bipush 91, 2) := by decide +kernel
theorem dX5_swap_66 : decode cX5_swap 66 = .ok (.iload_n 1, 1) := by decide +kernel
theorem dX5_swap_67 : decode cX5_swap 67 = .ok (.iadd, 1) := by decide +kernel
theorem dX5_swap_68 : decode cX5_swap 68 = .ok (.iaload, 1) := by decide +kernel
theorem dX5_swap_69 : decode cX5_swap 69 = .ok (.ireturn, 1) := by decide +kernel
set_option maxRecDepth 20000 in
theorem ggX5_reverse_X5_remember : GoodIn wsX5_reverse wsX5_remember := goodIn_r _ [6, 7, 8, 1, 9, 10, 11, 12, 13, 14, 15, 16, 17, 18, 19] (by decide +kernel) (by decide +kernel)
set_option maxRecDepth 20000 in
theorem gX5_reverse_X5_remember : GoodIn wsX5_reverse (wsV RX5 98 RX5 yX5_remember wsX5_remember) := goodIn_app (goodIn_of _ (by decide +kernel)) ggX5_reverse_X5_remember
theorem dX5_reverse_0 : decode cX5_reverse 0 = .ok (.aload_n 0, 1) := by decide +kernel
theorem dX5_reverse_1 : decode cX5_reverse 1 = .ok (.invokevirtual 98, 3) := by decide +kernel
theorem dX5_reverse_4 : decode cX5_reverse 4 = .ok (.aload_n 0, 1) := by decide +kernel
theorem dX5_reverse_5 : decode cX5_reverse 5 = .ok (.getfield 7, 3) := by decide +kernel
theorem dX5_reverse_8 : decode cX5_reverse 8 = .ok (.bipush 74, 2) := by decide +kernel
theorem dX5_reverse_10 : decode cX5_reverse 10 = .ok (.iaload, 1) := by decide +kernel
theorem dX5_reverse_11 : decode cX5_reverse 11 = .ok (.istore_n 1, 1) := by decide +kernel
theorem dX5_reverse_12 : decode cX5_reverse 12 = .ok (.iconst 0, 1) := by decide +kernel
theorem dX5_reverse_13 : decode cX5_reverse 13 = .ok (.istore_n 2, 1) := by decide +kernel
theorem dX5_reverse_14 : decode cX5_reverse 14 = .ok (.iload_n 2, 1) := by decide +kernel
theorem dX5_reverse_15 : decode cX5_reverse 15 = .ok (.iload_n 1, 1) := by decide +kernel
theorem dX5_reverse_16 : decode cX5_reverse 16 = .ok (.iconst 2, 1) := by decide +kernel
theorem dX5_reverse_17 : decode cX5_reverse 17 = .ok (.idiv, 1) := by decide +kernel
theorem dX5_reverse_18 : decode cX5_reverse 18 = .ok (.if_icmp .ge 55, 3) := by decide +kernel
theorem dX5_reverse_21 : decode cX5_reverse 21 = .ok (.aload_n 0, 1) := by decide +kernel
theorem dX5_reverse_22 : decode cX5_reverse 22 = .ok (.getfield 7, 3) := by decide +kernel
theorem dX5_reverse_25 : decode cX5_reverse 25 = .ok (.bipush 91, 2) := by decide +kernel
theorem dX5_reverse_27 : decode cX5_reverse 27 = .ok (.iload_n 2, 1) := by decide +kernel
theorem dX5_reverse_28 : decode cX5_reverse 28 = .ok (.iadd, 1) := by decide +kernel
theorem dX5_reverse_29 : decode cX5_reverse 29 = .ok (.iaload, 1) := by decide +kernel
theorem dX5_reverse_30 : decode cX5_reverse 30 = .ok (.istore_n 3, 1) := by decide +kernel
theorem dX5_reverse_31 : decode cX5_reverse 31 = .ok (.aload_n 0, 1) := by decide +kernel
theorem dX5_reverse_32 : decode cX5_reverse 32 = .ok (.getfield 7, 3) := by decide +kernel
theorem dX5_reverse_35 : decode cX5_reverse 35 = .ok (.bipush 91, 2) := by decide +kernel
theorem dX5_reverse_37 : decode cX5_reverse 37 = .ok (.iload_n 2, 1) := by decide +kernel
theorem dX5_reverse_38 : decode cX5_reverse 38 = .ok (.iadd, 1) := by decide +kernel
theorem dX5_reverse_39 : decode cX5_reverse 39 = .ok (.aload_n 0, 1) := by decide +kernel
theorem dX5_reverse_40 : decode cX5_reverse 40 = .ok (.getfield 7, 3) := by decide +kernel
theorem dX5_reverse_43 : decode cX5_reverse 43 = .ok (.bipush 91, 2) := by decide +kernel
theorem dX5_reverse_45 : decode cX5_reverse 45 = .ok (.iload_n 1, 1) := by decide +kernel
theorem dX5_reverse_46 : decode cX5_reverse 46 = .ok (.iadd, 1) := by decide +kernel
theorem dX5_reverse_47 : decode cX5_reverse 47 = .ok (.iconst 1, 1) := by decide +kernel
theorem dX5_reverse_48 : decode cX5_reverse 48 = .ok (.isub, 1) := by decide +kernel
theorem dX5_reverse_49 : decode cX5_reverse 49 = .ok (.iload_n 2, 1) := by decide +kernel
theorem dX5_reverse_50 : decode cX5_reverse 50 = .ok (.isub, 1) := by decide +kernel
theorem dX5_reverse_51 : decode cX5_reverse 51 = .ok (.iaload, 1) := by decide +kernel
theorem dX5_reverse_52 : decode cX5_reverse 52 = .ok (.iastore, 1) := by decide +kernel
theorem dX5_reverse_53 : decode cX5_reverse 53 = .ok (.aload_n 0, 1) := by decide +kernel
theorem dX5_reverse_54 : decode cX5_reverse 54 = .ok (.getfield 7, 3) := by decide +kernel
theorem dX5_reverse_57 : decode cX5_reverse 57 = .ok (.bipush 91, 2) := by decide +kernel
theorem dX5_reverse_59 : decode cX5_reverse 59 = .ok (.iload_n 1, 1) := by decide +kernel
theorem dX5_reverse_60 : decode cX5_reverse 60 = .ok (.iadd, 1) := by decide +kernel
theorem dX5_reverse_61 : decode cX5_reverse 61 = .ok (.iconst 1, 1) := by decide +kernel
theorem dX5_reverse_62 : decode cX5_reverse 62 = .ok (.isub, 1) := by decide +kernel
theorem dX5_reverse_63 : decode cX5_reverse 63 = .ok (.iload_n 2, 1) := by decide +kernel
theorem dX5_reverse_64 : decode cX5_reverse 64 = .ok (.isub, 1) := by decide +kernel
theorem dX5_reverse_65 : decode cX5_reverse 65 = .ok (.iload_n 3, 1) := by decide +kernel
theorem dX5_reverse_66 : decode cX5_reverse 66 = .ok (.iastore, 1) := by decide +kernel
theorem dX5_reverse_67 : decode cX5_reverse 67 = .ok (.iinc 2 1, 3) := by decide +kernel
theorem dX5_reverse_70 : decode cX5_reverse 70 = .ok (.goto (-56), 3) := by decide +kernel
theorem dX5_reverse_73 : decode cX5_reverse 73 = .ok (.aload_n 0, 1) := by decide +kernel
theorem dX5_reverse_74 : decode cX5_reverse 74 = .ok (.getfield 7, 3) := by decide +kernel
theorem dX5_reverse_77 : decode cX5_reverse 77 = .ok (.bipush 91, 2) := by decide +kernel
theorem dX5_reverse_79 : decode cX5_reverse 79 = .ok (.iaload, 1) := by decide +kernel
theorem dX5_reverse_80 : decode cX5_reverse 80 = .ok (.ireturn, 1) := by decide +kernel
theorem dX5_undo_0 : decode cX5_undo 0 = .ok (.aload_n 0, 1) := by decide +kernel
theorem dX5_undo_1 : decode cX5_undo 1 = .ok (.getfield 43, 3) := by decide +kernel
theorem dX5_undo_4 : decode cX5_undo 4 = .ok (.ifCond .ne 6, 3) := by decide +kernel
theorem dX5_undo_7 : decode cX5_undo 7 = .ok (.bipush (-2), 2) := by decide +kernel
theorem dX5_undo_9 : decode cX5_undo 9 = .ok (.ireturn, 1) := by decide +kernel
theorem dX5_undo_10 : decode cX5_undo 10 = .ok (.aload_n 0, 1) := by decide +kernel
theorem dX5_undo_11 : decode cX5_undo 11 = .ok (.dup, 1) := by decide +kernel
theorem dX5_undo_12 : decode cX5_undo 12 = .ok (.getfield 43, 3) := by decide +kernel
theorem dX5_undo_15 : decode cX5_undo 15 = .ok (.iconst 1, 1) := by decide +kernel
theorem dX5_undo_16 : decode cX5_undo 16 = .ok (.isub, 1) := by decide +kernel
theorem dX5_undo_17 : decode cX5_undo 17 = .ok (.putfield 43, 3) := by decide +kernel
theorem dX5_undo_20 : decode cX5_undo 20 = .ok (.iconst 0, 1) := by decide +kernel
theorem dX5_undo_21 : decode cX5_undo 21 = .ok (.istore_n 1, 1) := by decide +kernel
theorem dX5_undo_22 : decode cX5_undo 22 = .ok (.iload_n 1, 1) := by decide +kernel
theorem dX5_undo_23 : decode cX5_undo 23 = .ok (.bipush 107, 2) := by decide +kernel
theorem dX5_undo_25 : decode cX5_undo 25 = .ok (.if_icmp .ge 29, 3) := by decide +kernel
theorem dX5_undo_28 : decode cX5_undo 28 = .ok (.aload_n 0, 1) := by decide +kernel
theorem dX5_undo_29 : decode cX5_undo 29 = .ok (.getfield 7, 3) := by decide +kernel
theorem dX5_undo_32 : decode cX5_undo 32 = .ok (.iload_n 1, 1) := by decide +kernel
theorem dX5_undo_33 : decode cX5_undo 33 = .ok (.aload_n 0, 1) := by decide +kernel
theorem dX5_undo_34 : decode cX5_undo 34 = .ok (.getfield 13, 3) := by decide +kernel
theorem dX5_undo_37 : decode cX5_undo 37 = .ok (.bipush 107, 2) := by decide +kernel
theorem dX5_undo_39 : decode cX5_undo 39 = .ok (.aload_n 0, 1) := by decide +kernel
theorem dX5_undo_40 : decode cX5_undo 40 = .ok (.getfield 43, 3) := by decide +kernel
theorem dX5_undo_43 : decode cX5_undo 43 = .ok (.imul, 1) := by decide +kernel
theorem dX5_undo_44 : decode cX5_undo 44 = .ok (.iload_n 1, 1) := by decide +kernel
theorem dX5_undo_45 : decode cX5_undo 45 = .ok (.iadd, 1) := by decide +kernel
theorem dX5_undo_46 : decode cX5_undo 46 = .ok (.iaload, 1) := by decide +kernel
theorem dX5_undo_47 : decode cX5_undo 47 = .ok (.iastore, 1) := by decide +kernel
theorem dX5_undo_48 : decode cX5_undo 48 = .ok (.iinc 1 1, 3) := by decide +kernel
theorem dX5_undo_51 : decode cX5_undo 51 = .ok (.goto (-29), 3) := by decide +kernel
theorem dX5_undo_54 : decode cX5_undo 54 = .ok (.aload_n 0, 1) := by decide +kernel
theorem dX5_undo_55 : decode cX5_undo 55 = .ok (.getfield 43, 3) := by decide +kernel
theorem dX5_undo_58 : decode cX5_undo 58 = .ok (.ireturn, 1) := by decide +kernel
set_option maxRecDepth 20000 in
theorem ggX5_beyond_X5_isLaid : GoodIn wsX5_beyond wsX5_isLaid := goodIn_r _ [7, 1, 8, 9, 10, 6, 11, 12, 13, 14, 15, 2, 16, 17, 18, 19, 20, 21, 22, 23, 24, 25, 26, 27, 28, 29, 30, 31, 32, 33, 34, 35, 36, 37, 38, 39, 40, 41, 42, 43, 44, 45, 46, 47, 48, 49, 50, 51, 52, 53, 54, 55, 56, 57, 58, 59, 60, 61, 62, 63] (by decide +kernel) (by decide +kernel)
set_option maxRecDepth 20000 in
theorem gX5_beyond_X5_isLaid : GoodIn wsX5_beyond (wsV RX5 118 RX5 yX5_isLaid wsX5_isLaid) := goodIn_app (goodIn_of _ (by decide +kernel)) ggX5_beyond_X5_isLaid
set_option maxRecDepth 20000 in
theorem ggX5_beyond_X5_fits : GoodIn wsX5_beyond wsX5_fits := goodIn_r _ [26, 1, 27, 28, 29, 30, 6, 31, 32, 33, 34, 35, 53, 54, 55, 56, 57, 58, 59, 60, 61, 62, 63] (by decide +kernel) (by decide +kernel)
set_option maxRecDepth 20000 in
theorem gX5_beyond_X5_fits : GoodIn wsX5_beyond (wsV RX5 74 RX5 yX5_fits wsX5_fits) := goodIn_app (goodIn_of _ (by decide +kernel)) ggX5_beyond_X5_fits
theorem dX5_beyond_0 : decode cX5_beyond 0 = .ok (.aload_n 0, 1) := by decide +kernel
theorem dX5_beyond_1 : decode cX5_beyond 1 = .ok (.invokevirtual 118, 3) := by decide +kernel
theorem dX5_beyond_4 : decode cX5_beyond 4 = .ok (.ifCond .ne 6, 3) := by decide +kernel
theorem dX5_beyond_7 : decode cX5_beyond 7 = .ok (.bipush (-9), 2) := by decide +kernel
theorem dX5_beyond_9 : decode cX5_beyond 9 = .ok (.ireturn, 1) := by decide +kernel
theorem dX5_beyond_10 : decode cX5_beyond 10 = .ok (.iconst 0, 1) := by decide +kernel
theorem dX5_beyond_11 : decode cX5_beyond 11 = .ok (.istore_n 1, 1) := by decide +kernel
theorem dX5_beyond_12 : decode cX5_beyond 12 = .ok (.iconst 0, 1) := by decide +kernel
theorem dX5_beyond_13 : decode cX5_beyond 13 = .ok (.istore_n 2, 1) := by decide +kernel
theorem dX5_beyond_14 : decode cX5_beyond 14 = .ok (.iload_n 2, 1) := by decide +kernel
theorem dX5_beyond_15 : decode cX5_beyond 15 = .ok (.aload_n 0, 1) := by decide +kernel
theorem dX5_beyond_16 : decode cX5_beyond 16 = .ok (.getfield 7, 3) := by decide +kernel
theorem dX5_beyond_19 : decode cX5_beyond 19 = .ok (.bipush 74, 2) := by decide +kernel
theorem dX5_beyond_21 : decode cX5_beyond 21 = .ok (.iaload, 1) := by decide +kernel
theorem dX5_beyond_22 : decode cX5_beyond 22 = .ok (.if_icmp .ge 31, 3) := by decide +kernel
theorem dX5_beyond_25 : decode cX5_beyond 25 = .ok (.iload_n 1, 1) := by decide +kernel
theorem dX5_beyond_26 : decode cX5_beyond 26 = .ok (.aload_n 0, 1) := by decide +kernel
theorem dX5_beyond_27 : decode cX5_beyond 27 = .ok (.iload_n 2, 1) := by decide +kernel
theorem dX5_beyond_28 : decode cX5_beyond 28 = .ok (.aload_n 0, 1) := by decide +kernel
theorem dX5_beyond_29 : decode cX5_beyond 29 = .ok (.getfield 22, 3) := by decide +kernel
theorem dX5_beyond_32 : decode cX5_beyond 32 = .ok (.iload_n 2, 1) := by decide +kernel
theorem dX5_beyond_33 : decode cX5_beyond 33 = .ok (.iaload, 1) := by decide +kernel
theorem dX5_beyond_34 : decode cX5_beyond 34 = .ok (.invokevirtual 74, 3) := by decide +kernel
theorem dX5_beyond_37 : decode cX5_beyond 37 = .ok (.ifCond .eq 7, 3) := by decide +kernel
theorem dX5_beyond_40 : decode cX5_beyond 40 = .ok (.iconst 0, 1) := by decide +kernel
theorem dX5_beyond_41 : decode cX5_beyond 41 = .ok (.goto 4, 3) := by decide +kernel
theorem dX5_beyond_44 : decode cX5_beyond 44 = .ok (.iconst 1, 1) := by decide +kernel
theorem dX5_beyond_45 : decode cX5_beyond 45 = .ok (.iadd, 1) := by decide +kernel
theorem dX5_beyond_46 : decode cX5_beyond 46 = .ok (.istore_n 1, 1) := by decide +kernel
theorem dX5_beyond_47 : decode cX5_beyond 47 = .ok (.iinc 2 1, 3) := by decide +kernel
theorem dX5_beyond_50 : decode cX5_beyond 50 = .ok (.goto (-36), 3) := by decide +kernel
theorem dX5_beyond_53 : decode cX5_beyond 53 = .ok (.iload_n 1, 1) := by decide +kernel
theorem dX5_beyond_54 : decode cX5_beyond 54 = .ok (.ireturn, 1) := by decide +kernel
set_option maxRecDepth 20000 in
theorem ggX5_fades_X5_isLaid : GoodIn wsX5_fades wsX5_isLaid := goodIn_r _ [6, 1, 7, 8, 9, 5, 10, 11, 12, 13, 14, 15, 16, 17, 18, 19, 20, 21, 22, 23, 24, 25, 26, 27, 28, 29, 30, 31, 32, 33, 34, 35, 36, 37, 38, 39, 40, 41, 42, 43, 44, 45, 46, 47, 48, 49, 50, 51, 52, 61, 62, 63, 64, 65, 66, 67, 68, 69, 70, 71] (by decide +kernel) (by decide +kernel)
set_option maxRecDepth 20000 in
theorem gX5_fades_X5_isLaid : GoodIn wsX5_fades (wsV RX5 118 RX5 yX5_isLaid wsX5_isLaid) := goodIn_app (goodIn_of _ (by decide +kernel)) ggX5_fades_X5_isLaid
set_option maxRecDepth 20000 in
theorem ggX5_fades_X5_fadeOf : GoodIn wsX5_fades wsX5_fadeOf := goodIn_r _ [56, 1, 15, 57, 58, 59, 5, 60, 61, 62, 63, 64, 65, 66, 67, 68, 69, 70, 71] (by decide +kernel) (by decide +kernel)
set_option maxRecDepth 20000 in
theorem gX5_fades_X5_fadeOf : GoodIn wsX5_fades (wsV RX5 122 RX5 yX5_fadeOf wsX5_fadeOf) := goodIn_app (goodIn_of _ (by decide +kernel)) ggX5_fades_X5_fadeOf
theorem dX5_fades_0 : decode cX5_fades 0 = .ok (.aload_n 0, 1) := by decide +kernel
theorem dX5_fades_1 : decode cX5_fades 1 = .ok (.invokevirtual 118, 3) := by decide +kernel
theorem dX5_fades_4 : decode cX5_fades 4 = .ok (.ifCond .ne 6, 3) := by decide +kernel
theorem dX5_fades_7 : decode cX5_fades 7 = .ok (.bipush (-9), 2) := by decide +kernel
theorem dX5_fades_9 : decode cX5_fades 9 = .ok (.ireturn, 1) := by decide +kernel
theorem dX5_fades_10 : decode cX5_fades 10 = .ok (.iconst 0, 1) := by decide +kernel
theorem dX5_fades_11 : decode cX5_fades 11 = .ok (.istore_n 1, 1) := by decide +kernel
theorem dX5_fades_12 : decode cX5_fades 12 = .ok (.iconst 0, 1) := by decide +kernel
theorem dX5_fades_13 : decode cX5_fades 13 = .ok (.istore_n 2, 1) := by decide +kernel
theorem dX5_fades_14 : decode cX5_fades 14 = .ok (.iload_n 2, 1) := by decide +kernel
theorem dX5_fades_15 : decode cX5_fades 15 = .ok (.aload_n 0, 1) := by decide +kernel
theorem dX5_fades_16 : decode cX5_fades 16 = .ok (.getfield 7, 3) := by decide +kernel
theorem dX5_fades_19 : decode cX5_fades 19 = .ok (.bipush 74, 2) := by decide +kernel
theorem dX5_fades_21 : decode cX5_fades 21 = .ok (.iaload, 1) := by decide +kernel
theorem dX5_fades_22 : decode cX5_fades 22 = .ok (.if_icmp .ge 17, 3) := by decide +kernel
theorem dX5_fades_25 : decode cX5_fades 25 = .ok (.iload_n 1, 1) := by decide +kernel
theorem dX5_fades_26 : decode cX5_fades 26 = .ok (.aload_n 0, 1) := by decide +kernel
theorem dX5_fades_27 : decode cX5_fades 27 = .ok (.iload_n 2, 1) := by decide +kernel
theorem dX5_fades_28 : decode cX5_fades 28 = .ok (.invokevirtual 122, 3) := by decide +kernel
theorem dX5_fades_31 : decode cX5_fades 31 = .ok (.iadd, 1) := by decide +kernel
theorem dX5_fades_32 : decode cX5_fades 32 = .ok (.istore_n 1, 1) := by decide +kernel
theorem dX5_fades_33 : decode cX5_fades 33 = .ok (.iinc 2 1, 3) := by decide +kernel
theorem dX5_fades_36 : decode cX5_fades 36 = .ok (.goto (-22), 3) := by decide +kernel
theorem dX5_fades_39 : decode cX5_fades 39 = .ok (.iload_n 1, 1) := by decide +kernel
theorem dX5_fades_40 : decode cX5_fades 40 = .ok (.ireturn, 1) := by decide +kernel
set_option maxRecDepth 20000 in
theorem ggX5_told_X5_whole : GoodIn wsX5_told wsX5_whole := goodIn_r _ [7, 1, 70, 71, 72, 73, 74, 75, 76, 77, 78, 79, 80] (by decide +kernel) (by decide +kernel)
set_option maxRecDepth 20000 in
theorem gX5_told_X5_whole : GoodIn wsX5_told (wsV RX5 58 RX5 yX5_whole wsX5_whole) := goodIn_app (goodIn_of _ (by decide +kernel)) ggX5_told_X5_whole
set_option maxRecDepth 20000 in
theorem ggX5_told_X5_isLaid : GoodIn wsX5_told wsX5_isLaid := goodIn_r _ [11, 1, 12, 13, 14, 6, 15, 16, 17, 18, 19, 20, 21, 22, 23, 24, 25, 26, 27, 28, 29, 30, 31, 32, 33, 34, 35, 36, 37, 38, 39, 40, 41, 42, 43, 44, 45, 46, 47, 48, 49, 3, 4, 5, 7, 50, 51, 52, 53, 70, 71, 72, 73, 74, 75, 76, 77, 78, 79, 80] (by decide +kernel) (by decide +kernel)
set_option maxRecDepth 20000 in
theorem gX5_told_X5_isLaid : GoodIn wsX5_told (wsV RX5 118 RX5 yX5_isLaid wsX5_isLaid) := goodIn_app (goodIn_of _ (by decide +kernel)) ggX5_told_X5_isLaid
set_option maxRecDepth 20000 in
theorem ggX5_told_X5_beyond : GoodIn wsX5_told wsX5_beyond := goodIn_r _ [57, 1, 20, 8, 9, 10, 6, 11, 12, 13, 14, 15, 16, 17, 18, 19, 21, 22, 23, 24, 25, 26, 27, 28, 29, 30, 31, 32, 33, 34, 35, 36, 37, 38, 39, 40, 41, 42, 43, 44, 45, 46, 47, 48, 49, 3, 4, 5, 7, 50, 51, 52, 53, 70, 71, 72, 73, 74, 75, 76, 77, 78, 79, 80] (by decide +kernel) (by decide +kernel)
set_option maxRecDepth 20000 in
theorem gX5_told_X5_beyond : GoodIn wsX5_told (wsV RX5 125 RX5 yX5_beyond wsX5_beyond) := goodIn_app (goodIn_of _ (by decide +kernel)) ggX5_told_X5_beyond
set_option maxRecDepth 20000 in
theorem ggX5_told_X5_fades : GoodIn wsX5_told wsX5_fades := goodIn_r _ [61, 1, 8, 9, 10, 6, 11, 12, 13, 14, 15, 16, 17, 18, 19, 20, 21, 22, 23, 24, 25, 26, 27, 28, 29, 30, 31, 32, 33, 34, 35, 36, 37, 38, 39, 40, 41, 42, 43, 44, 45, 46, 47, 48, 49, 3, 4, 5, 7, 50, 51, 52, 53, 62, 63, 64, 65, 66, 67, 68, 69, 70, 71, 72, 73, 74, 75, 76, 77, 78, 79, 80] (by decide +kernel) (by decide +kernel)
set_option maxRecDepth 20000 in
theorem gX5_told_X5_fades : GoodIn wsX5_told (wsV RX5 128 RX5 yX5_fades wsX5_fades) := goodIn_app (goodIn_of _ (by decide +kernel)) ggX5_told_X5_fades
theorem dX5_told_0 : decode cX5_told 0 = .ok (.iload_n 1, 1) := by decide +kernel
theorem dX5_told_1 : decode cX5_told 1 = .ok (.tableswitch 91 0 6 #[43, 50, 55, 63, 76, 81, 86], 43) := by decide +kernel
theorem dX5_told_44 : decode cX5_told 44 = .ok (.aload_n 0, 1) := by decide +kernel
theorem dX5_told_45 : decode cX5_told 45 = .ok (.getfield 7, 3) := by decide +kernel
theorem dX5_told_48 : decode cX5_told 48 = .ok (.iconst 0, 1) := by decide +kernel
theorem dX5_told_49 : decode cX5_told 49 = .ok (.iaload, 1) := by decide +kernel
theorem dX5_told_50 : decode cX5_told 50 = .ok (.ireturn, 1) := by decide +kernel
theorem dX5_told_51 : decode cX5_told 51 = .ok (.aload_n 0, 1) := by decide +kernel
theorem dX5_told_52 : decode cX5_told 52 = .ok (.invokevirtual 58, 3) := by decide +kernel
theorem dX5_told_55 : decode cX5_told 55 = .ok (.ireturn, 1) := by decide +kernel
theorem dX5_told_56 : decode cX5_told 56 = .ok (.aload_n 0, 1) := by decide +kernel
theorem dX5_told_57 : decode cX5_told 57 = .ok (.getfield 7, 3) := by decide +kernel
theorem dX5_told_60 : decode cX5_told 60 = .ok (.bipush 74, 2) := by decide +kernel
theorem dX5_told_62 : decode cX5_told 62 = .ok (.iaload, 1) := by decide +kernel
theorem dX5_told_63 : decode cX5_told 63 = .ok (.ireturn, 1) := by decide +kernel
theorem dX5_told_64 : decode cX5_told 64 = .ok (.aload_n 0, 1) := by decide +kernel
theorem dX5_told_65 : decode cX5_told 65 = .ok (.invokevirtual 118, 3) := by decide +kernel
theorem dX5_told_68 : decode cX5_told 68 = .ok (.ifCond .eq 7, 3) := by decide +kernel
theorem dX5_told_71 : decode cX5_told 71 = .ok (.iconst 1, 1) := by decide +kernel
theorem dX5_told_72 : decode cX5_told 72 = .ok (.goto 4, 3) := by decide +kernel
theorem dX5_told_75 : decode cX5_told 75 = .ok (.iconst 0, 1) := by decide +kernel
theorem dX5_told_76 : decode cX5_told 76 = .ok (.ireturn, 1) := by decide +kernel
theorem dX5_told_77 : decode cX5_told 77 = .ok (.aload_n 0, 1) := by decide +kernel
theorem dX5_told_78 : decode cX5_told 78 = .ok (.invokevirtual 125, 3) := by decide +kernel
theorem dX5_told_81 : decode cX5_told 81 = .ok (.ireturn, 1) := by decide +kernel
theorem dX5_told_82 : decode cX5_told 82 = .ok (.aload_n 0, 1) := by decide +kernel
theorem dX5_told_83 : decode cX5_told 83 = .ok (.invokevirtual 128, 3) := by decide +kernel
theorem dX5_told_86 : decode cX5_told 86 = .ok (.ireturn, 1) := by decide +kernel
theorem dX5_told_87 : decode cX5_told 87 = .ok (.aload_n 0, 1) := by decide +kernel
theorem dX5_told_88 : decode cX5_told 88 = .ok (.getfield 43, 3) := by decide +kernel
theorem dX5_told_91 : decode cX5_told 91 = .ok (.ireturn, 1) := by decide +kernel
theorem dX5_told_92 : decode cX5_told 92 = .ok (.iconst (-1), 1) := by decide +kernel
theorem dX5_told_93 : decode cX5_told 93 = .ok (.ireturn, 1) := by decide +kernel
set_option maxRecDepth 20000 in
theorem ggX5_setting_X5_isIn : GoodIn wsX5_setting wsX5_isIn := goodIn_r _ [5] (by decide +kernel) (by decide +kernel)
set_option maxRecDepth 20000 in
theorem gX5_setting_X5_isIn : GoodIn wsX5_setting (va_wsS RX5 47 yX5_isIn wsX5_isIn) := goodIn_app (goodIn_of _ (by decide +kernel)) ggX5_setting_X5_isIn
theorem dX5_setting_0 : decode cX5_setting 0 = .ok (.iload_n 1, 1) := by decide +kernel
theorem dX5_setting_1 : decode cX5_setting 1 = .ok (.iconst 0, 1) := by decide +kernel
theorem dX5_setting_2 : decode cX5_setting 2 = .ok (.bipush 8, 2) := by decide +kernel
theorem dX5_setting_4 : decode cX5_setting 4 = .ok (.invokestatic 47, 3) := by decide +kernel
theorem dX5_setting_7 : decode cX5_setting 7 = .ok (.ifCond .eq 14, 3) := by decide +kernel
theorem dX5_setting_10 : decode cX5_setting 10 = .ok (.aload_n 0, 1) := by decide +kernel
theorem dX5_setting_11 : decode cX5_setting 11 = .ok (.getfield 7, 3) := by decide +kernel
theorem dX5_setting_14 : decode cX5_setting 14 = .ok (.iconst 1, 1) := by decide +kernel
theorem dX5_setting_15 : decode cX5_setting 15 = .ok (.iload_n 1, 1) := by decide +kernel
theorem dX5_setting_16 : decode cX5_setting 16 = .ok (.iadd, 1) := by decide +kernel
theorem dX5_setting_17 : decode cX5_setting 17 = .ok (.iaload, 1) := by decide +kernel
theorem dX5_setting_18 : decode cX5_setting 18 = .ok (.goto 4, 3) := by decide +kernel
theorem dX5_setting_21 : decode cX5_setting 21 = .ok (.iconst (-1), 1) := by decide +kernel
theorem dX5_setting_22 : decode cX5_setting 22 = .ok (.ireturn, 1) := by decide +kernel
set_option maxRecDepth 20000 in
theorem ggX5_energy_X5_isFrame : GoodIn wsX5_energy wsX5_isFrame := goodIn_r _ [6, 1, 7, 8, 5, 9, 10, 11, 12, 13, 14, 15, 16, 17, 18, 19, 20] (by decide +kernel) (by decide +kernel)
set_option maxRecDepth 20000 in
theorem gX5_energy_X5_isFrame : GoodIn wsX5_energy (wsV RX5 101 RX5 yX5_isFrame wsX5_isFrame) := goodIn_app (goodIn_of _ (by decide +kernel)) ggX5_energy_X5_isFrame
theorem dX5_energy_0 : decode cX5_energy 0 = .ok (.aload_n 0, 1) := by decide +kernel
theorem dX5_energy_1 : decode cX5_energy 1 = .ok (.iload_n 1, 1) := by decide +kernel
theorem dX5_energy_2 : decode cX5_energy 2 = .ok (.invokevirtual 101, 3) := by decide +kernel
theorem dX5_energy_5 : decode cX5_energy 5 = .ok (.ifCond .eq 15, 3) := by decide +kernel
theorem dX5_energy_8 : decode cX5_energy 8 = .ok (.aload_n 0, 1) := by decide +kernel
theorem dX5_energy_9 : decode cX5_energy 9 = .ok (.getfield 7, 3) := by decide +kernel
theorem dX5_energy_12 : decode cX5_energy 12 = .ok (.bipush 10, 2) := by decide +kernel
theorem dX5_energy_14 : decode cX5_energy 14 = .ok (.iload_n 1, 1) := by decide +kernel
theorem dX5_energy_15 : decode cX5_energy 15 = .ok (.iadd, 1) := by decide +kernel
theorem dX5_energy_16 : decode cX5_energy 16 = .ok (.iaload, 1) := by decide +kernel
theorem dX5_energy_17 : decode cX5_energy 17 = .ok (.goto 4, 3) := by decide +kernel
theorem dX5_energy_20 : decode cX5_energy 20 = .ok (.iconst (-1), 1) := by decide +kernel
theorem dX5_energy_21 : decode cX5_energy 21 = .ok (.ireturn, 1) := by decide +kernel
set_option maxRecDepth 20000 in
theorem ggX5_loudest_X5_frameOf : GoodIn wsX5_loudest wsX5_frameOf := goodIn_r _ [6, 1, 7, 8, 9, 10, 11, 12, 13, 14, 15, 16, 17] (by decide +kernel) (by decide +kernel)
set_option maxRecDepth 20000 in
theorem gX5_loudest_X5_frameOf : GoodIn wsX5_loudest (wsV RX5 51 RX5 yX5_frameOf wsX5_frameOf) := goodIn_app (goodIn_of _ (by decide +kernel)) ggX5_loudest_X5_frameOf
theorem dX5_loudest_0 : decode cX5_loudest 0 = .ok (.aload_n 0, 1) := by decide +kernel
theorem dX5_loudest_1 : decode cX5_loudest 1 = .ok (.iload_n 1, 1) := by decide +kernel
theorem dX5_loudest_2 : decode cX5_loudest 2 = .ok (.invokevirtual 51, 3) := by decide +kernel
theorem dX5_loudest_5 : decode cX5_loudest 5 = .ok (.istore_n 2, 1) := by decide +kernel
theorem dX5_loudest_6 : decode cX5_loudest 6 = .ok (.iload_n 2, 1) := by decide +kernel
theorem dX5_loudest_7 : decode cX5_loudest 7 = .ok (.iconst 1, 1) := by decide +kernel
theorem dX5_loudest_8 : decode cX5_loudest 8 = .ok (.iadd, 1) := by decide +kernel
theorem dX5_loudest_9 : decode cX5_loudest 9 = .ok (.istore_n 3, 1) := by decide +kernel
theorem dX5_loudest_10 : decode cX5_loudest 10 = .ok (.iload_n 3, 1) := by decide +kernel
theorem dX5_loudest_11 : decode cX5_loudest 11 = .ok (.aload_n 0, 1) := by decide +kernel
theorem dX5_loudest_12 : decode cX5_loudest 12 = .ok (.iload_n 1, 1) := by decide +kernel
theorem dX5_loudest_13 : decode cX5_loudest 13 = .ok (.iconst 1, 1) := by decide +kernel
theorem dX5_loudest_14 : decode cX5_loudest 14 = .ok (.iadd, 1) := by decide +kernel
theorem dX5_loudest_15 : decode cX5_loudest 15 = .ok (.invokevirtual 51, 3) := by decide +kernel
theorem dX5_loudest_18 : decode cX5_loudest 18 = .ok (.if_icmp .ge 36, 3) := by decide +kernel
theorem dX5_loudest_21 : decode cX5_loudest 21 = .ok (.aload_n 0, 1) := by decide +kernel
theorem dX5_loudest_22 : decode cX5_loudest 22 = .ok (.getfield 7, 3) := by decide +kernel
theorem dX5_loudest_25 : decode cX5_loudest 25 = .ok (.bipush 10, 2) := by decide +kernel
theorem dX5_loudest_27 : decode cX5_loudest 27 = .ok (.iload_n 3, 1) := by decide +kernel
theorem dX5_loudest_28 : decode cX5_loudest 28 = .ok (.iadd, 1) := by decide +kernel
theorem dX5_loudest_29 : decode cX5_loudest 29 = .ok (.iaload, 1) := by decide +kernel
theorem dX5_loudest_30 : decode cX5_loudest 30 = .ok (.aload_n 0, 1) := by decide +kernel
theorem dX5_loudest_31 : decode cX5_loudest 31 = .ok (.getfield 7, 3) := by decide +kernel
theorem dX5_loudest_34 : decode cX5_loudest 34 = .ok (.bipush 10, 2) := by decide +kernel
theorem dX5_loudest_36 : decode cX5_loudest 36 = .ok (.iload_n 2, 1) := by decide +kernel
theorem dX5_loudest_37 : decode cX5_loudest 37 = .ok (.iadd, 1) := by decide +kernel
theorem dX5_loudest_38 : decode cX5_loudest 38 = .ok (.iaload, 1) := by decide +kernel
theorem dX5_loudest_39 : decode cX5_loudest 39 = .ok (.if_icmp .le 7, 3) := by decide +kernel
theorem dX5_loudest_42 : decode cX5_loudest 42 = .ok (.iload_n 3, 1) := by decide +kernel
theorem dX5_loudest_43 : decode cX5_loudest 43 = .ok (.goto 4, 3) := by decide +kernel
theorem dX5_loudest_46 : decode cX5_loudest 46 = .ok (.iload_n 2, 1) := by decide +kernel
theorem dX5_loudest_47 : decode cX5_loudest 47 = .ok (.istore_n 2, 1) := by decide +kernel
theorem dX5_loudest_48 : decode cX5_loudest 48 = .ok (.iinc 3 1, 3) := by decide +kernel
theorem dX5_loudest_51 : decode cX5_loudest 51 = .ok (.goto (-41), 3) := by decide +kernel
theorem dX5_loudest_54 : decode cX5_loudest 54 = .ok (.iload_n 2, 1) := by decide +kernel
theorem dX5_loudest_55 : decode cX5_loudest 55 = .ok (.ireturn, 1) := by decide +kernel
theorem dX5_beginOf_0 : decode cX5_beginOf 0 = .ok (.iconst 0, 1) := by decide +kernel
theorem dX5_beginOf_1 : decode cX5_beginOf 1 = .ok (.istore_n 2, 1) := by decide +kernel
theorem dX5_beginOf_2 : decode cX5_beginOf 2 = .ok (.iconst 0, 1) := by decide +kernel
theorem dX5_beginOf_3 : decode cX5_beginOf 3 = .ok (.istore_n 3, 1) := by decide +kernel
theorem dX5_beginOf_4 : decode cX5_beginOf 4 = .ok (.aload_n 0, 1) := by decide +kernel
theorem dX5_beginOf_5 : decode cX5_beginOf 5 = .ok (.getfield 7, 3) := by decide +kernel
theorem dX5_beginOf_8 : decode cX5_beginOf 8 = .ok (.bipush 91, 2) := by decide +kernel
theorem dX5_beginOf_10 : decode cX5_beginOf 10 = .ok (.iload_n 3, 1) := by decide +kernel
theorem dX5_beginOf_11 : decode cX5_beginOf 11 = .ok (.iadd, 1) := by decide +kernel
theorem dX5_beginOf_12 : decode cX5_beginOf 12 = .ok (.iaload, 1) := by decide +kernel
theorem dX5_beginOf_13 : decode cX5_beginOf 13 = .ok (.iload_n 1, 1) := by decide +kernel
theorem dX5_beginOf_14 : decode cX5_beginOf 14 = .ok (.if_icmp .eq 26, 3) := by decide +kernel
theorem dX5_beginOf_17 : decode cX5_beginOf 17 = .ok (.iload_n 2, 1) := by decide +kernel
theorem dX5_beginOf_18 : decode cX5_beginOf 18 = .ok (.aload_n 0, 1) := by decide +kernel
theorem dX5_beginOf_19 : decode cX5_beginOf 19 = .ok (.getfield 22, 3) := by decide +kernel
theorem dX5_beginOf_22 : decode cX5_beginOf 22 = .ok (.aload_n 0, 1) := by decide +kernel
theorem dX5_beginOf_23 : decode cX5_beginOf 23 = .ok (.getfield 7, 3) := by decide +kernel
theorem dX5_beginOf_26 : decode cX5_beginOf 26 = .ok (.bipush 91, 2) := by decide +kernel
theorem dX5_beginOf_28 : decode cX5_beginOf 28 = .ok (.iload_n 3, 1) := by decide +kernel
theorem dX5_beginOf_29 : decode cX5_beginOf 29 = .ok (.iadd, 1) := by decide +kernel
theorem dX5_beginOf_30 : decode cX5_beginOf 30 = .ok (.iaload, 1) := by decide +kernel
theorem dX5_beginOf_31 : decode cX5_beginOf 31 = .ok (.iaload, 1) := by decide +kernel
theorem dX5_beginOf_32 : decode cX5_beginOf 32 = .ok (.iadd, 1) := by decide +kernel
theorem dX5_beginOf_33 : decode cX5_beginOf 33 = .ok (.istore_n 2, 1) := by decide +kernel
theorem dX5_beginOf_34 : decode cX5_beginOf 34 = .ok (.iinc 3 1, 3) := by decide +kernel
theorem dX5_beginOf_37 : decode cX5_beginOf 37 = .ok (.goto (-33), 3) := by decide +kernel
theorem dX5_beginOf_40 : decode cX5_beginOf 40 = .ok (.iload_n 2, 1) := by decide +kernel
theorem dX5_beginOf_41 : decode cX5_beginOf 41 = .ok (.ireturn, 1) := by decide +kernel
set_option maxRecDepth 20000 in
theorem ggX5_slice_X5_isSlice : GoodIn wsX5_slice wsX5_isSlice := goodIn_r _ [8, 2, 9, 10, 7, 11, 76, 77, 78, 79, 80, 81, 82, 83, 84, 85, 86] (by decide +kernel) (by decide +kernel)
set_option maxRecDepth 20000 in
theorem gX5_slice_X5_isSlice : GoodIn wsX5_slice (wsV RX5 115 RX5 yX5_isSlice wsX5_isSlice) := goodIn_app (goodIn_of _ (by decide +kernel)) ggX5_slice_X5_isSlice
set_option maxRecDepth 20000 in
theorem ggX5_slice_X5_isIn : GoodIn wsX5_slice wsX5_isIn := goodIn_r _ [11] (by decide +kernel) (by decide +kernel)
set_option maxRecDepth 20000 in
theorem gX5_slice_X5_isIn : GoodIn wsX5_slice (va_wsS RX5 47 yX5_isIn wsX5_isIn) := goodIn_app (goodIn_of _ (by decide +kernel)) ggX5_slice_X5_isIn
set_option maxRecDepth 20000 in
theorem ggX5_slice_X5_frameOf : GoodIn wsX5_slice wsX5_frameOf := goodIn_r _ [15, 2, 76, 77, 78, 79, 80, 81, 82, 83, 84, 85, 86] (by decide +kernel) (by decide +kernel)
set_option maxRecDepth 20000 in
theorem gX5_slice_X5_frameOf : GoodIn wsX5_slice (wsV RX5 51 RX5 yX5_frameOf wsX5_frameOf) := goodIn_app (goodIn_of _ (by decide +kernel)) ggX5_slice_X5_frameOf
set_option maxRecDepth 20000 in
theorem ggX5_slice_X5_lengthOf : GoodIn wsX5_slice wsX5_lengthOf := goodIn_r _ [19, 2, 12, 13, 14, 7, 15, 76, 77, 78, 79, 80, 81, 82, 83, 84, 85, 86] (by decide +kernel) (by decide +kernel)
set_option maxRecDepth 20000 in
theorem gX5_slice_X5_lengthOf : GoodIn wsX5_slice (wsV RX5 55 RX5 yX5_lengthOf wsX5_lengthOf) := goodIn_app (goodIn_of _ (by decide +kernel)) ggX5_slice_X5_lengthOf
set_option maxRecDepth 20000 in
theorem ggX5_slice_X5_placeOf : GoodIn wsX5_slice wsX5_placeOf := goodIn_r _ [23, 2, 76, 77, 78, 79, 80, 81, 82, 83, 84, 85, 86] (by decide +kernel) (by decide +kernel)
set_option maxRecDepth 20000 in
theorem gX5_slice_X5_placeOf : GoodIn wsX5_slice (wsV RX5 95 RX5 yX5_placeOf wsX5_placeOf) := goodIn_app (goodIn_of _ (by decide +kernel)) ggX5_slice_X5_placeOf
set_option maxRecDepth 20000 in
theorem ggX5_slice_X5_loudest : GoodIn wsX5_slice wsX5_loudest := goodIn_r _ [27, 2, 12, 13, 14, 7, 15, 76, 77, 78, 79, 80, 81, 82, 83, 84, 85, 86] (by decide +kernel) (by decide +kernel)
set_option maxRecDepth 20000 in
theorem gX5_slice_X5_loudest : GoodIn wsX5_slice (wsV RX5 131 RX5 yX5_loudest wsX5_loudest) := goodIn_app (goodIn_of _ (by decide +kernel)) ggX5_slice_X5_loudest
set_option maxRecDepth 20000 in
theorem ggX5_slice_X5_isLaid : GoodIn wsX5_slice wsX5_isLaid := goodIn_r _ [31, 2, 32, 33, 34, 7, 35, 36, 37, 38, 3, 1, 39, 40, 41, 42, 43, 44, 45, 46, 47, 48, 49, 50, 16, 17, 18, 19, 12, 13, 14, 15, 51, 52, 53, 54, 55, 56, 57, 58, 59, 60, 61, 62, 63, 64, 65, 66, 67, 76, 77, 78, 79, 80, 81, 82, 83, 84, 85, 86] (by decide +kernel) (by decide +kernel)
set_option maxRecDepth 20000 in
theorem gX5_slice_X5_isLaid : GoodIn wsX5_slice (wsV RX5 118 RX5 yX5_isLaid wsX5_isLaid) := goodIn_app (goodIn_of _ (by decide +kernel)) ggX5_slice_X5_isLaid
set_option maxRecDepth 20000 in
theorem ggX5_slice_X5_beginOf : GoodIn wsX5_slice wsX5_beginOf := goodIn_r _ [71, 2, 1, 76, 77, 78, 79, 80, 81, 82, 83, 84, 85, 86] (by decide +kernel) (by decide +kernel)
set_option maxRecDepth 20000 in
theorem gX5_slice_X5_beginOf : GoodIn wsX5_slice (wsV RX5 134 RX5 yX5_beginOf wsX5_beginOf) := goodIn_app (goodIn_of _ (by decide +kernel)) ggX5_slice_X5_beginOf
set_option maxRecDepth 20000 in
theorem ggX5_slice_X5_fadeOf : GoodIn wsX5_slice wsX5_fadeOf := goodIn_r _ [75, 2, 1, 20, 21, 22, 7, 23, 76, 77, 78, 79, 80, 81, 82, 83, 84, 85, 86] (by decide +kernel) (by decide +kernel)
set_option maxRecDepth 20000 in
theorem gX5_slice_X5_fadeOf : GoodIn wsX5_slice (wsV RX5 122 RX5 yX5_fadeOf wsX5_fadeOf) := goodIn_app (goodIn_of _ (by decide +kernel)) ggX5_slice_X5_fadeOf
theorem dX5_slice_0 : decode cX5_slice 0 = .ok (.aload_n 0, 1) := by decide +kernel
theorem dX5_slice_1 : decode cX5_slice 1 = .ok (.iload_n 1, 1) := by decide +kernel
theorem dX5_slice_2 : decode cX5_slice 2 = .ok (.invokevirtual 115, 3) := by decide +kernel
theorem dX5_slice_5 : decode cX5_slice 5 = .ok (.ifCond .eq 13, 3) := by decide +kernel
theorem dX5_slice_8 : decode cX5_slice 8 = .ok (.iload_n 2, 1) := by decide +kernel
theorem dX5_slice_9 : decode cX5_slice 9 = .ok (.iconst 0, 1) := by decide +kernel
theorem dX5_slice_10 : decode cX5_slice 10 = .ok (.bipush 7, 2) := by decide +kernel
theorem dX5_slice_12 : decode cX5_slice 12 = .ok (.invokestatic 47, 3) := by decide +kernel
theorem dX5_slice_15 : decode cX5_slice 15 = .ok (.ifCond .ne 5, 3) := by decide +kernel
theorem dX5_slice_18 : decode cX5_slice 18 = .ok (.iconst (-1), 1) := by decide +kernel
theorem dX5_slice_19 : decode cX5_slice 19 = .ok (.ireturn, 1) := by decide +kernel
theorem dX5_slice_20 : decode cX5_slice 20 = .ok (.iload_n 2, 1) := by decide +kernel
theorem dX5_slice_21 : decode cX5_slice 21 = .ok (.tableswitch 71 0 7 #[47, 53, 71, 71, 71, 59, 71, 65], 47) := by decide +kernel
theorem dX5_slice_68 : decode cX5_slice 68 = .ok (.aload_n 0, 1) := by decide +kernel
theorem dX5_slice_69 : decode cX5_slice 69 = .ok (.iload_n 1, 1) := by decide +kernel
theorem dX5_slice_70 : decode cX5_slice 70 = .ok (.invokevirtual 51, 3) := by decide +kernel
theorem dX5_slice_73 : decode cX5_slice 73 = .ok (.ireturn, 1) := by decide +kernel
theorem dX5_slice_74 : decode cX5_slice 74 = .ok (.aload_n 0, 1) := by decide +kernel
theorem dX5_slice_75 : decode cX5_slice 75 = .ok (.iload_n 1, 1) := by decide +kernel
theorem dX5_slice_76 : decode cX5_slice 76 = .ok (.invokevirtual 55, 3) := by decide +kernel
theorem dX5_slice_79 : decode cX5_slice 79 = .ok (.ireturn, 1) := by decide +kernel
theorem dX5_slice_80 : decode cX5_slice 80 = .ok (.aload_n 0, 1) := by decide +kernel
theorem dX5_slice_81 : decode cX5_slice 81 = .ok (.iload_n 1, 1) := by decide +kernel
theorem dX5_slice_82 : decode cX5_slice 82 = .ok (.invokevirtual 95, 3) := by decide +kernel
theorem dX5_slice_85 : decode cX5_slice 85 = .ok (.ireturn, 1) := by decide +kernel
theorem dX5_slice_86 : decode cX5_slice 86 = .ok (.aload_n 0, 1) := by decide +kernel
theorem dX5_slice_87 : decode cX5_slice 87 = .ok (.iload_n 1, 1) := by decide +kernel
theorem dX5_slice_88 : decode cX5_slice 88 = .ok (.invokevirtual 131, 3) := by decide +kernel
theorem dX5_slice_91 : decode cX5_slice 91 = .ok (.ireturn, 1) := by decide +kernel
theorem dX5_slice_92 : decode cX5_slice 92 = .ok (.aload_n 0, 1) := by decide +kernel
theorem dX5_slice_93 : decode cX5_slice 93 = .ok (.invokevirtual 118, 3) := by decide +kernel
theorem dX5_slice_96 : decode cX5_slice 96 = .ok (.ifCond .ne 6, 3) := by decide +kernel
theorem dX5_slice_99 : decode cX5_slice 99 = .ok (.bipush (-9), 2) := by decide +kernel
theorem dX5_slice_101 : decode cX5_slice 101 = .ok (.ireturn, 1) := by decide +kernel
theorem dX5_slice_102 : decode cX5_slice 102 = .ok (.iload_n 2, 1) := by decide +kernel
theorem dX5_slice_103 : decode cX5_slice 103 = .ok (.tableswitch 60 2 4 #[25, 32, 54], 25) := by decide +kernel
theorem dX5_slice_128 : decode cX5_slice 128 = .ok (.aload_n 0, 1) := by decide +kernel
theorem dX5_slice_129 : decode cX5_slice 129 = .ok (.getfield 22, 3) := by decide +kernel
theorem dX5_slice_132 : decode cX5_slice 132 = .ok (.iload_n 1, 1) := by decide +kernel
theorem dX5_slice_133 : decode cX5_slice 133 = .ok (.iaload, 1) := by decide +kernel
theorem dX5_slice_134 : decode cX5_slice 134 = .ok (.ireturn, 1) := by decide +kernel
theorem dX5_slice_135 : decode cX5_slice 135 = .ok (.aload_n 0, 1) := by decide +kernel
theorem dX5_slice_136 : decode cX5_slice 136 = .ok (.getfield 7, 3) := by decide +kernel
theorem dX5_slice_139 : decode cX5_slice 139 = .ok (.bipush 8, 2) := by decide +kernel
theorem dX5_slice_141 : decode cX5_slice 141 = .ok (.iaload, 1) := by decide +kernel
theorem dX5_slice_142 : decode cX5_slice 142 = .ok (.ifCond .ne 8, 3) := by decide +kernel
theorem dX5_slice_145 : decode cX5_slice 145 = .ok (.bipush (-9), 2) := by decide +kernel
theorem dX5_slice_147 : decode cX5_slice 147 = .ok (.goto 9, 3) := by decide +kernel
theorem dX5_slice_150 : decode cX5_slice 150 = .ok (.aload_n 0, 1) := by decide +kernel
theorem dX5_slice_151 : decode cX5_slice 151 = .ok (.getfield 25, 3) := by decide +kernel
theorem dX5_slice_154 : decode cX5_slice 154 = .ok (.iload_n 1, 1) := by decide +kernel
theorem dX5_slice_155 : decode cX5_slice 155 = .ok (.iaload, 1) := by decide +kernel
theorem dX5_slice_156 : decode cX5_slice 156 = .ok (.ireturn, 1) := by decide +kernel
theorem dX5_slice_157 : decode cX5_slice 157 = .ok (.aload_n 0, 1) := by decide +kernel
theorem dX5_slice_158 : decode cX5_slice 158 = .ok (.iload_n 1, 1) := by decide +kernel
theorem dX5_slice_159 : decode cX5_slice 159 = .ok (.invokevirtual 134, 3) := by decide +kernel
theorem dX5_slice_162 : decode cX5_slice 162 = .ok (.ireturn, 1) := by decide +kernel
theorem dX5_slice_163 : decode cX5_slice 163 = .ok (.aload_n 0, 1) := by decide +kernel
theorem dX5_slice_164 : decode cX5_slice 164 = .ok (.iload_n 1, 1) := by decide +kernel
theorem dX5_slice_165 : decode cX5_slice 165 = .ok (.invokevirtual 122, 3) := by decide +kernel
theorem dX5_slice_168 : decode cX5_slice 168 = .ok (.ireturn, 1) := by decide +kernel
set_option maxRecDepth 20000 in
theorem ggX5_order_X5_isSlice : GoodIn wsX5_order wsX5_isSlice := goodIn_r _ [6, 1, 7, 8, 5, 9, 10, 11, 12, 13, 14, 15, 16, 17, 18, 19, 20] (by decide +kernel) (by decide +kernel)
set_option maxRecDepth 20000 in
theorem gX5_order_X5_isSlice : GoodIn wsX5_order (wsV RX5 115 RX5 yX5_isSlice wsX5_isSlice) := goodIn_app (goodIn_of _ (by decide +kernel)) ggX5_order_X5_isSlice
theorem dX5_order_0 : decode cX5_order 0 = .ok (.aload_n 0, 1) := by decide +kernel
theorem dX5_order_1 : decode cX5_order 1 = .ok (.iload_n 1, 1) := by decide +kernel
theorem dX5_order_2 : decode cX5_order 2 = .ok (.invokevirtual 115, 3) := by decide +kernel
theorem dX5_order_5 : decode cX5_order 5 = .ok (.ifCond .eq 15, 3) := by decide +kernel
theorem dX5_order_8 : decode cX5_order 8 = .ok (.aload_n 0, 1) := by decide +kernel
theorem dX5_order_9 : decode cX5_order 9 = .ok (.getfield 7, 3) := by decide +kernel
theorem dX5_order_12 : decode cX5_order 12 = .ok (.bipush 91, 2) := by decide +kernel
theorem dX5_order_14 : decode cX5_order 14 = .ok (.iload_n 1, 1) := by decide +kernel
theorem dX5_order_15 : decode cX5_order 15 = .ok (.iadd, 1) := by decide +kernel
theorem dX5_order_16 : decode cX5_order 16 = .ok (.iaload, 1) := by decide +kernel
theorem dX5_order_17 : decode cX5_order 17 = .ok (.goto 4, 3) := by decide +kernel
theorem dX5_order_20 : decode cX5_order 20 = .ok (.iconst (-1), 1) := by decide +kernel
theorem dX5_order_21 : decode cX5_order 21 = .ok (.ireturn, 1) := by decide +kernel
set_option maxRecDepth 20000 in
theorem ggX5_source_X5_isIn : GoodIn wsX5_source wsX5_isIn := goodIn_r _ [6] (by decide +kernel) (by decide +kernel)
set_option maxRecDepth 20000 in
theorem gX5_source_X5_isIn : GoodIn wsX5_source (va_wsS RX5 47 yX5_isIn wsX5_isIn) := goodIn_app (goodIn_of _ (by decide +kernel)) ggX5_source_X5_isIn
set_option maxRecDepth 20000 in
theorem ggX5_source_X5_isLaid : GoodIn wsX5_source wsX5_isLaid := goodIn_r _ [10, 1, 11, 12, 13, 5, 14, 15, 16, 17, 18, 2, 19, 20, 21, 22, 23, 24, 25, 26, 27, 28, 29, 30, 31, 32, 33, 34, 35, 36, 37, 38, 39, 40, 41, 42, 43, 44, 45, 46, 47, 48, 49, 50, 51, 52, 53, 54, 55, 64, 65, 66, 67, 68, 69, 70, 71, 72, 73, 74] (by decide +kernel) (by decide +kernel)
set_option maxRecDepth 20000 in
theorem gX5_source_X5_isLaid : GoodIn wsX5_source (wsV RX5 118 RX5 yX5_isLaid wsX5_isLaid) := goodIn_app (goodIn_of _ (by decide +kernel)) ggX5_source_X5_isLaid
set_option maxRecDepth 20000 in
theorem ggX5_source_X5_frameOf : GoodIn wsX5_source wsX5_frameOf := goodIn_r _ [38, 1, 64, 65, 66, 67, 68, 69, 70, 71, 72, 73, 74] (by decide +kernel) (by decide +kernel)
set_option maxRecDepth 20000 in
theorem gX5_source_X5_frameOf : GoodIn wsX5_source (wsV RX5 51 RX5 yX5_frameOf wsX5_frameOf) := goodIn_app (goodIn_of _ (by decide +kernel)) ggX5_source_X5_frameOf
set_option maxRecDepth 20000 in
theorem ggX5_source_X5_lengthOf : GoodIn wsX5_source wsX5_lengthOf := goodIn_r _ [34, 1, 35, 36, 37, 5, 38, 64, 65, 66, 67, 68, 69, 70, 71, 72, 73, 74] (by decide +kernel) (by decide +kernel)
set_option maxRecDepth 20000 in
theorem gX5_source_X5_lengthOf : GoodIn wsX5_source (wsV RX5 55 RX5 yX5_lengthOf wsX5_lengthOf) := goodIn_app (goodIn_of _ (by decide +kernel)) ggX5_source_X5_lengthOf
set_option maxRecDepth 20000 in
theorem ggX5_source_X5_fadeOf : GoodIn wsX5_source wsX5_fadeOf := goodIn_r _ [59, 1, 2, 60, 61, 62, 5, 63, 64, 65, 66, 67, 68, 69, 70, 71, 72, 73, 74] (by decide +kernel) (by decide +kernel)
set_option maxRecDepth 20000 in
theorem gX5_source_X5_fadeOf : GoodIn wsX5_source (wsV RX5 122 RX5 yX5_fadeOf wsX5_fadeOf) := goodIn_app (goodIn_of _ (by decide +kernel)) ggX5_source_X5_fadeOf
theorem dX5_source_0 : decode cX5_source 0 = .ok (.iload_n 1, 1) := by decide +kernel
theorem dX5_source_1 : decode cX5_source 1 = .ok (.iconst 0, 1) := by decide +kernel
theorem dX5_source_2 : decode cX5_source 2 = .ok (.aload_n 0, 1) := by decide +kernel
theorem dX5_source_3 : decode cX5_source 3 = .ok (.getfield 7, 3) := by decide +kernel
theorem dX5_source_6 : decode cX5_source 6 = .ok (.bipush 6, 2) := by decide +kernel
theorem dX5_source_8 : decode cX5_source 8 = .ok (.iaload, 1) := by decide +kernel
theorem dX5_source_9 : decode cX5_source 9 = .ok (.iconst 1, 1) := by decide +kernel
theorem dX5_source_10 : decode cX5_source 10 = .ok (.isub, 1) := by decide +kernel
theorem dX5_source_11 : decode cX5_source 11 = .ok (.invokestatic 47, 3) := by decide +kernel
theorem dX5_source_14 : decode cX5_source 14 = .ok (.ifCond .eq 12, 3) := by decide +kernel
theorem dX5_source_17 : decode cX5_source 17 = .ok (.iload_n 2, 1) := by decide +kernel
theorem dX5_source_18 : decode cX5_source 18 = .ok (.iconst 0, 1) := by decide +kernel
theorem dX5_source_19 : decode cX5_source 19 = .ok (.iconst 2, 1) := by decide +kernel
theorem dX5_source_20 : decode cX5_source 20 = .ok (.invokestatic 47, 3) := by decide +kernel
theorem dX5_source_23 : decode cX5_source 23 = .ok (.ifCond .ne 5, 3) := by decide +kernel
theorem dX5_source_26 : decode cX5_source 26 = .ok (.iconst (-1), 1) := by decide +kernel
theorem dX5_source_27 : decode cX5_source 27 = .ok (.ireturn, 1) := by decide +kernel
theorem dX5_source_28 : decode cX5_source 28 = .ok (.aload_n 0, 1) := by decide +kernel
theorem dX5_source_29 : decode cX5_source 29 = .ok (.invokevirtual 118, 3) := by decide +kernel
theorem dX5_source_32 : decode cX5_source 32 = .ok (.ifCond .ne 6, 3) := by decide +kernel
theorem dX5_source_35 : decode cX5_source 35 = .ok (.bipush (-9), 2) := by decide +kernel
theorem dX5_source_37 : decode cX5_source 37 = .ok (.ireturn, 1) := by decide +kernel
theorem dX5_source_38 : decode cX5_source 38 = .ok (.iconst 0, 1) := by decide +kernel
theorem dX5_source_39 : decode cX5_source 39 = .ok (.istore_n 3, 1) := by decide +kernel
theorem dX5_source_40 : decode cX5_source 40 = .ok (.iload_n 1, 1) := by decide +kernel
theorem dX5_source_41 : decode cX5_source 41 = .ok (.istore 4, 2) := by decide +kernel
theorem dX5_source_43 : decode cX5_source 43 = .ok (.iload 4, 2) := by decide +kernel
theorem dX5_source_45 : decode cX5_source 45 = .ok (.aload_n 0, 1) := by decide +kernel
theorem dX5_source_46 : decode cX5_source 46 = .ok (.getfield 22, 3) := by decide +kernel
theorem dX5_source_49 : decode cX5_source 49 = .ok (.aload_n 0, 1) := by decide +kernel
theorem dX5_source_50 : decode cX5_source 50 = .ok (.getfield 7, 3) := by decide +kernel
theorem dX5_source_53 : decode cX5_source 53 = .ok (.bipush 91, 2) := by decide +kernel
theorem dX5_source_55 : decode cX5_source 55 = .ok (.iload_n 3, 1) := by decide +kernel
theorem dX5_source_56 : decode cX5_source 56 = .ok (.iadd, 1) := by decide +kernel
theorem dX5_source_57 : decode cX5_source 57 = .ok (.iaload, 1) := by decide +kernel
theorem dX5_source_58 : decode cX5_source 58 = .ok (.iaload, 1) := by decide +kernel
theorem dX5_source_59 : decode cX5_source 59 = .ok (.if_icmp .lt 28, 3) := by decide +kernel
theorem dX5_source_62 : decode cX5_source 62 = .ok (.iload 4, 2) := by decide +kernel
theorem dX5_source_64 : decode cX5_source 64 = .ok (.aload_n 0, 1) := by decide +kernel
theorem dX5_source_65 : decode cX5_source 65 = .ok (.getfield 22, 3) := by decide +kernel
theorem dX5_source_68 : decode cX5_source 68 = .ok (.aload_n 0, 1) := by decide +kernel
theorem dX5_source_69 : decode cX5_source 69 = .ok (.getfield 7, 3) := by decide +kernel
theorem dX5_source_72 : decode cX5_source 72 = .ok (.bipush 91, 2) := by decide +kernel
theorem dX5_source_74 : decode cX5_source 74 = .ok (.iload_n 3, 1) := by decide +kernel
theorem dX5_source_75 : decode cX5_source 75 = .ok (.iadd, 1) := by decide +kernel
theorem dX5_source_76 : decode cX5_source 76 = .ok (.iaload, 1) := by decide +kernel
theorem dX5_source_77 : decode cX5_source 77 = .ok (.iaload, 1) := by decide +kernel
theorem dX5_source_78 : decode cX5_source 78 = .ok (.isub, 1) := by decide +kernel
theorem dX5_source_79 : decode cX5_source 79 = .ok (.istore 4, 2) := by decide +kernel
theorem dX5_source_81 : decode cX5_source 81 = .ok (.iinc 3 1, 3) := by decide +kernel
theorem dX5_source_84 : decode cX5_source 84 = .ok (.goto (-41), 3) := by decide +kernel
theorem dX5_source_87 : decode cX5_source 87 = .ok (.aload_n 0, 1) := by decide +kernel
theorem dX5_source_88 : decode cX5_source 88 = .ok (.getfield 7, 3) := by decide +kernel
theorem dX5_source_91 : decode cX5_source 91 = .ok (.bipush 91, 2) := by decide +kernel
theorem dX5_source_93 : decode cX5_source 93 = .ok (.iload_n 3, 1) := by decide +kernel
theorem dX5_source_94 : decode cX5_source 94 = .ok (.iadd, 1) := by decide +kernel
theorem dX5_source_95 : decode cX5_source 95 = .ok (.iaload, 1) := by decide +kernel
theorem dX5_source_96 : decode cX5_source 96 = .ok (.istore 5, 2) := by decide +kernel
theorem dX5_source_98 : decode cX5_source 98 = .ok (.iload_n 2, 1) := by decide +kernel
theorem dX5_source_99 : decode cX5_source 99 = .ok (.ifCond .ne 6, 3) := by decide +kernel
theorem dX5_source_102 : decode cX5_source 102 = .ok (.iload 5, 2) := by decide +kernel
theorem dX5_source_104 : decode cX5_source 104 = .ok (.ireturn, 1) := by decide +kernel
theorem dX5_source_105 : decode cX5_source 105 = .ok (.iload_n 2, 1) := by decide +kernel
theorem dX5_source_106 : decode cX5_source 106 = .ok (.iconst 1, 1) := by decide +kernel
theorem dX5_source_107 : decode cX5_source 107 = .ok (.if_icmp .ne 39, 3) := by decide +kernel
theorem dX5_source_110 : decode cX5_source 110 = .ok (.aload_n 0, 1) := by decide +kernel
theorem dX5_source_111 : decode cX5_source 111 = .ok (.iload 5, 2) := by decide +kernel
theorem dX5_source_113 : decode cX5_source 113 = .ok (.invokevirtual 51, 3) := by decide +kernel
theorem dX5_source_116 : decode cX5_source 116 = .ok (.aload_n 0, 1) := by decide +kernel
theorem dX5_source_117 : decode cX5_source 117 = .ok (.getfield 7, 3) := by decide +kernel
theorem dX5_source_120 : decode cX5_source 120 = .ok (.iconst 1, 1) := by decide +kernel
theorem dX5_source_121 : decode cX5_source 121 = .ok (.iaload, 1) := by decide +kernel
theorem dX5_source_122 : decode cX5_source 122 = .ok (.imul, 1) := by decide +kernel
theorem dX5_source_123 : decode cX5_source 123 = .ok (.iload 4, 2) := by decide +kernel
theorem dX5_source_125 : decode cX5_source 125 = .ok (.i2l, 1) := by decide +kernel
theorem dX5_source_126 : decode cX5_source 126 = .ok (.aload_n 0, 1) := by decide +kernel
theorem dX5_source_127 : decode cX5_source 127 = .ok (.iload 5, 2) := by decide +kernel
theorem dX5_source_129 : decode cX5_source 129 = .ok (.invokevirtual 55, 3) := by decide +kernel
theorem dX5_source_132 : decode cX5_source 132 = .ok (.i2l, 1) := by decide +kernel
theorem dX5_source_133 : decode cX5_source 133 = .ok (.lmul, 1) := by decide +kernel
theorem dX5_source_134 : decode cX5_source 134 = .ok (.aload_n 0, 1) := by decide +kernel
theorem dX5_source_135 : decode cX5_source 135 = .ok (.getfield 22, 3) := by decide +kernel
theorem dX5_source_138 : decode cX5_source 138 = .ok (.iload 5, 2) := by decide +kernel
theorem dX5_source_140 : decode cX5_source 140 = .ok (.iaload, 1) := by decide +kernel
theorem dX5_source_141 : decode cX5_source 141 = .ok (.i2l, 1) := by decide +kernel
theorem dX5_source_142 : decode cX5_source 142 = .ok (.ldiv, 1) := by decide +kernel
theorem dX5_source_143 : decode cX5_source 143 = .ok (.l2i, 1) := by decide +kernel
theorem dX5_source_144 : decode cX5_source 144 = .ok (.iadd, 1) := by decide +kernel
theorem dX5_source_145 : decode cX5_source 145 = .ok (.ireturn, 1) := by decide +kernel
theorem dX5_source_146 : decode cX5_source 146 = .ok (.iload 4, 2) := by decide +kernel
theorem dX5_source_148 : decode cX5_source 148 = .ok (.aload_n 0, 1) := by decide +kernel
theorem dX5_source_149 : decode cX5_source 149 = .ok (.getfield 22, 3) := by decide +kernel
theorem dX5_source_152 : decode cX5_source 152 = .ok (.iload 5, 2) := by decide +kernel
theorem dX5_source_154 : decode cX5_source 154 = .ok (.iaload, 1) := by decide +kernel
theorem dX5_source_155 : decode cX5_source 155 = .ok (.aload_n 0, 1) := by decide +kernel
theorem dX5_source_156 : decode cX5_source 156 = .ok (.iload 5, 2) := by decide +kernel
theorem dX5_source_158 : decode cX5_source 158 = .ok (.invokevirtual 122, 3) := by decide +kernel
theorem dX5_source_161 : decode cX5_source 161 = .ok (.isub, 1) := by decide +kernel
theorem dX5_source_162 : decode cX5_source 162 = .ok (.if_icmp .lt 7, 3) := by decide +kernel
theorem dX5_source_165 : decode cX5_source 165 = .ok (.iconst 1, 1) := by decide +kernel
theorem dX5_source_166 : decode cX5_source 166 = .ok (.goto 4, 3) := by decide +kernel
theorem dX5_source_169 : decode cX5_source 169 = .ok (.iconst 0, 1) := by decide +kernel
theorem dX5_source_170 : decode cX5_source 170 = .ok (.ireturn, 1) := by decide +kernel
set_option maxRecDepth 20000 in
theorem ggX5_warp_X5_isSlice : GoodIn wsX5_warp wsX5_isSlice := goodIn_r _ [8, 9, 10, 11, 7, 12, 62, 63, 64, 65, 66, 67, 68, 69, 70, 71, 72] (by decide +kernel) (by decide +kernel)
set_option maxRecDepth 20000 in
theorem gX5_warp_X5_isSlice : GoodIn wsX5_warp (wsV RX5 115 RX5 yX5_isSlice wsX5_isSlice) := goodIn_app (goodIn_of _ (by decide +kernel)) ggX5_warp_X5_isSlice
set_option maxRecDepth 20000 in
theorem ggX5_warp_X5_isLaid : GoodIn wsX5_warp wsX5_isLaid := goodIn_r _ [16, 9, 17, 18, 19, 7, 20, 21, 22, 23, 24, 2, 25, 26, 27, 28, 29, 30, 31, 32, 33, 34, 35, 36, 37, 38, 39, 40, 41, 42, 43, 44, 45, 46, 47, 48, 49, 50, 51, 52, 53, 54, 55, 56, 57, 58, 59, 60, 61, 62, 63, 64, 65, 66, 67, 68, 69, 70, 71, 72] (by decide +kernel) (by decide +kernel)
set_option maxRecDepth 20000 in
theorem gX5_warp_X5_isLaid : GoodIn wsX5_warp (wsV RX5 118 RX5 yX5_isLaid wsX5_isLaid) := goodIn_app (goodIn_of _ (by decide +kernel)) ggX5_warp_X5_isLaid
set_option maxRecDepth 20000 in
theorem ggX5_warp_X5_lengthOf : GoodIn wsX5_warp wsX5_lengthOf := goodIn_r _ [40, 9, 41, 42, 43, 7, 44, 62, 63, 64, 65, 66, 67, 68, 69, 70, 71, 72] (by decide +kernel) (by decide +kernel)
set_option maxRecDepth 20000 in
theorem gX5_warp_X5_lengthOf : GoodIn wsX5_warp (wsV RX5 55 RX5 yX5_lengthOf wsX5_lengthOf) := goodIn_app (goodIn_of _ (by decide +kernel)) ggX5_warp_X5_lengthOf
theorem dX5_warp_0 : decode cX5_warp 0 = .ok (.aload_n 0, 1) := by decide +kernel
theorem dX5_warp_1 : decode cX5_warp 1 = .ok (.iload_n 1, 1) := by decide +kernel
theorem dX5_warp_2 : decode cX5_warp 2 = .ok (.invokevirtual 115, 3) := by decide +kernel
theorem dX5_warp_5 : decode cX5_warp 5 = .ok (.ifCond .ne 6, 3) := by decide +kernel
theorem dX5_warp_8 : decode cX5_warp 8 = .ok (.ldc 137, 2) := by decide +kernel
theorem dX5_warp_10 : decode cX5_warp 10 = .ok (.freturn, 1) := by decide +kernel
theorem dX5_warp_11 : decode cX5_warp 11 = .ok (.aload_n 0, 1) := by decide +kernel
theorem dX5_warp_12 : decode cX5_warp 12 = .ok (.invokevirtual 118, 3) := by decide +kernel
theorem dX5_warp_15 : decode cX5_warp 15 = .ok (.ifCond .eq 20, 3) := by decide +kernel
theorem dX5_warp_18 : decode cX5_warp 18 = .ok (.aload_n 0, 1) := by decide +kernel
theorem dX5_warp_19 : decode cX5_warp 19 = .ok (.getfield 22, 3) := by decide +kernel
theorem dX5_warp_22 : decode cX5_warp 22 = .ok (.iload_n 1, 1) := by decide +kernel
theorem dX5_warp_23 : decode cX5_warp 23 = .ok (.iaload, 1) := by decide +kernel
theorem dX5_warp_24 : decode cX5_warp 24 = .ok (.i2f, 1) := by decide +kernel
theorem dX5_warp_25 : decode cX5_warp 25 = .ok (.aload_n 0, 1) := by decide +kernel
theorem dX5_warp_26 : decode cX5_warp 26 = .ok (.iload_n 1, 1) := by decide +kernel
theorem dX5_warp_27 : decode cX5_warp 27 = .ok (.invokevirtual 55, 3) := by decide +kernel
theorem dX5_warp_30 : decode cX5_warp 30 = .ok (.i2f, 1) := by decide +kernel
theorem dX5_warp_31 : decode cX5_warp 31 = .ok (.fdiv, 1) := by decide +kernel
theorem dX5_warp_32 : decode cX5_warp 32 = .ok (.goto 5, 3) := by decide +kernel
theorem dX5_warp_35 : decode cX5_warp 35 = .ok (.ldc 138, 2) := by decide +kernel
theorem dX5_warp_37 : decode cX5_warp 37 = .ok (.freturn, 1) := by decide +kernel
set_option maxRecDepth 20000 in
theorem ggX5_shift_X5_layGrid : GoodIn wsX5_shift wsX5_layGrid := goodIn_r _ [7, 1, 8, 9, 2, 10, 11, 12, 13, 14, 6, 15, 16, 17, 18, 19, 20, 21, 22, 23, 24, 25, 26, 27, 28, 29, 30, 31, 32, 33, 34, 35, 36, 37, 38, 39, 40, 41, 42, 43, 44, 45, 46] (by decide +kernel) (by decide +kernel)
set_option maxRecDepth 20000 in
theorem gX5_shift_X5_layGrid : GoodIn wsX5_shift (wsV RX5 89 RX5 yX5_layGrid wsX5_layGrid) := goodIn_app (goodIn_of _ (by decide +kernel)) ggX5_shift_X5_layGrid
theorem dX5_shift_0 : decode cX5_shift 0 = .ok (.aload_n 0, 1) := by decide +kernel
theorem dX5_shift_1 : decode cX5_shift 1 = .ok (.aload_n 0, 1) := by decide +kernel
theorem dX5_shift_2 : decode cX5_shift 2 = .ok (.getfield 7, 3) := by decide +kernel
theorem dX5_shift_5 : decode cX5_shift 5 = .ok (.bipush 6, 2) := by decide +kernel
theorem dX5_shift_7 : decode cX5_shift 7 = .ok (.iaload, 1) := by decide +kernel
theorem dX5_shift_8 : decode cX5_shift 8 = .ok (.aload_n 0, 1) := by decide +kernel
theorem dX5_shift_9 : decode cX5_shift 9 = .ok (.getfield 7, 3) := by decide +kernel
theorem dX5_shift_12 : decode cX5_shift 12 = .ok (.bipush 7, 2) := by decide +kernel
theorem dX5_shift_14 : decode cX5_shift 14 = .ok (.iaload, 1) := by decide +kernel
theorem dX5_shift_15 : decode cX5_shift 15 = .ok (.invokevirtual 89, 3) := by decide +kernel
theorem dX5_shift_18 : decode cX5_shift 18 = .ok (.ifCond .eq 19, 3) := by decide +kernel
theorem dX5_shift_21 : decode cX5_shift 21 = .ok (.aload_n 0, 1) := by decide +kernel
theorem dX5_shift_22 : decode cX5_shift 22 = .ok (.getfield 85, 3) := by decide +kernel
theorem dX5_shift_25 : decode cX5_shift 25 = .ok (.aload_n 0, 1) := by decide +kernel
theorem dX5_shift_26 : decode cX5_shift 26 = .ok (.getfield 7, 3) := by decide +kernel
theorem dX5_shift_29 : decode cX5_shift 29 = .ok (.iconst 0, 1) := by decide +kernel
theorem dX5_shift_30 : decode cX5_shift 30 = .ok (.iaload, 1) := by decide +kernel
theorem dX5_shift_31 : decode cX5_shift 31 = .ok (.i2l, 1) := by decide +kernel
theorem dX5_shift_32 : decode cX5_shift 32 = .ok (.ldiv, 1) := by decide +kernel
theorem dX5_shift_33 : decode cX5_shift 33 = .ok (.l2i, 1) := by decide +kernel
theorem dX5_shift_34 : decode cX5_shift 34 = .ok (.goto 5, 3) := by decide +kernel
theorem dX5_shift_37 : decode cX5_shift 37 = .ok (.bipush (-9), 2) := by decide +kernel
theorem dX5_shift_39 : decode cX5_shift 39 = .ok (.ireturn, 1) := by decide +kernel
set_option maxRecDepth 20000 in
theorem ggX5_leastGrid_X5_layGrid : GoodIn wsX5_leastGrid wsX5_layGrid := goodIn_r _ [6, 1, 7, 8, 9, 10, 11, 12, 13, 14, 5, 15, 16, 17, 18, 19, 20, 21, 22, 23, 24, 25, 26, 27, 28, 29, 30, 31, 32, 33, 34, 35, 36, 37, 38, 39, 40, 41, 42, 43, 44, 45, 46] (by decide +kernel) (by decide +kernel)
set_option maxRecDepth 20000 in
theorem gX5_leastGrid_X5_layGrid : GoodIn wsX5_leastGrid (wsV RX5 89 RX5 yX5_layGrid wsX5_layGrid) := goodIn_app (goodIn_of _ (by decide +kernel)) ggX5_leastGrid_X5_layGrid
theorem dX5_leastGrid_0 : decode cX5_leastGrid 0 = .ok (.iconst 1, 1) := by decide +kernel
theorem dX5_leastGrid_1 : decode cX5_leastGrid 1 = .ok (.istore_n 1, 1) := by decide +kernel
theorem dX5_leastGrid_2 : decode cX5_leastGrid 2 = .ok (.iload_n 1, 1) := by decide +kernel
theorem dX5_leastGrid_3 : decode cX5_leastGrid 3 = .ok (.bipush 32, 2) := by decide +kernel
theorem dX5_leastGrid_5 : decode cX5_leastGrid 5 = .ok (.if_icmp .gt 26, 3) := by decide +kernel
theorem dX5_leastGrid_8 : decode cX5_leastGrid 8 = .ok (.aload_n 0, 1) := by decide +kernel
theorem dX5_leastGrid_9 : decode cX5_leastGrid 9 = .ok (.aload_n 0, 1) := by decide +kernel
theorem dX5_leastGrid_10 : decode cX5_leastGrid 10 = .ok (.getfield 7, 3) := by decide +kernel
theorem dX5_leastGrid_13 : decode cX5_leastGrid 13 = .ok (.bipush 6, 2) := by decide +kernel
theorem dX5_leastGrid_15 : decode cX5_leastGrid 15 = .ok (.iaload, 1) := by decide +kernel
theorem dX5_leastGrid_16 : decode cX5_leastGrid 16 = .ok (.iload_n 1, 1) := by decide +kernel
theorem dX5_leastGrid_17 : decode cX5_leastGrid 17 = .ok (.invokevirtual 89, 3) := by decide +kernel
theorem dX5_leastGrid_20 : decode cX5_leastGrid 20 = .ok (.ifCond .eq 5, 3) := by decide +kernel
theorem dX5_leastGrid_23 : decode cX5_leastGrid 23 = .ok (.iload_n 1, 1) := by decide +kernel
theorem dX5_leastGrid_24 : decode cX5_leastGrid 24 = .ok (.ireturn, 1) := by decide +kernel
theorem dX5_leastGrid_25 : decode cX5_leastGrid 25 = .ok (.iinc 1 1, 3) := by decide +kernel
theorem dX5_leastGrid_28 : decode cX5_leastGrid 28 = .ok (.goto (-26), 3) := by decide +kernel
theorem dX5_leastGrid_31 : decode cX5_leastGrid 31 = .ok (.bipush (-9), 2) := by decide +kernel
theorem dX5_leastGrid_33 : decode cX5_leastGrid 33 = .ok (.ireturn, 1) := by decide +kernel
set_option maxRecDepth 20000 in
theorem ggX5_canBe_X5_isIn : GoodIn wsX5_canBe wsX5_isIn := goodIn_r _ [6] (by decide +kernel) (by decide +kernel)
set_option maxRecDepth 20000 in
theorem gX5_canBe_X5_isIn : GoodIn wsX5_canBe (va_wsS RX5 47 yX5_isIn wsX5_isIn) := goodIn_app (goodIn_of _ (by decide +kernel)) ggX5_canBe_X5_isIn
set_option maxRecDepth 20000 in
theorem ggX5_canBe_X5_layGrid : GoodIn wsX5_canBe wsX5_layGrid := goodIn_r _ [10, 2, 11, 12, 13, 14, 15, 16, 17, 18, 5, 19, 20, 21, 22, 23, 24, 25, 26, 27, 28, 29, 30, 31, 32, 33, 34, 35, 36, 37, 38, 39, 40, 41, 42, 43, 44, 45, 46, 47, 48, 49, 50] (by decide +kernel) (by decide +kernel)
set_option maxRecDepth 20000 in
theorem gX5_canBe_X5_layGrid : GoodIn wsX5_canBe (wsV RX5 89 RX5 yX5_layGrid wsX5_layGrid) := goodIn_app (goodIn_of _ (by decide +kernel)) ggX5_canBe_X5_layGrid
theorem dX5_canBe_0 : decode cX5_canBe 0 = .ok (.iload_n 1, 1) := by decide +kernel
theorem dX5_canBe_1 : decode cX5_canBe 1 = .ok (.iconst 1, 1) := by decide +kernel
theorem dX5_canBe_2 : decode cX5_canBe 2 = .ok (.ldc 105, 2) := by decide +kernel
theorem dX5_canBe_4 : decode cX5_canBe 4 = .ok (.invokestatic 47, 3) := by decide +kernel
theorem dX5_canBe_7 : decode cX5_canBe 7 = .ok (.ifCond .eq 22, 3) := by decide +kernel
theorem dX5_canBe_10 : decode cX5_canBe 10 = .ok (.aload_n 0, 1) := by decide +kernel
theorem dX5_canBe_11 : decode cX5_canBe 11 = .ok (.iload_n 1, 1) := by decide +kernel
theorem dX5_canBe_12 : decode cX5_canBe 12 = .ok (.aload_n 0, 1) := by decide +kernel
theorem dX5_canBe_13 : decode cX5_canBe 13 = .ok (.getfield 7, 3) := by decide +kernel
theorem dX5_canBe_16 : decode cX5_canBe 16 = .ok (.bipush 7, 2) := by decide +kernel
theorem dX5_canBe_18 : decode cX5_canBe 18 = .ok (.iaload, 1) := by decide +kernel
theorem dX5_canBe_19 : decode cX5_canBe 19 = .ok (.invokevirtual 89, 3) := by decide +kernel
theorem dX5_canBe_22 : decode cX5_canBe 22 = .ok (.ifCond .eq 7, 3) := by decide +kernel
theorem dX5_canBe_25 : decode cX5_canBe 25 = .ok (.iconst 1, 1) := by decide +kernel
theorem dX5_canBe_26 : decode cX5_canBe 26 = .ok (.goto 4, 3) := by decide +kernel
theorem dX5_canBe_29 : decode cX5_canBe 29 = .ok (.iconst 0, 1) := by decide +kernel
theorem dX5_canBe_30 : decode cX5_canBe 30 = .ok (.ireturn, 1) := by decide +kernel
set_option maxRecDepth 20000 in
theorem ggX5_nearTarget_X5_isIn : GoodIn wsX5_nearTarget wsX5_isIn := goodIn_r _ [5] (by decide +kernel) (by decide +kernel)
set_option maxRecDepth 20000 in
theorem gX5_nearTarget_X5_isIn : GoodIn wsX5_nearTarget (va_wsS RX5 47 yX5_isIn wsX5_isIn) := goodIn_app (goodIn_of _ (by decide +kernel)) ggX5_nearTarget_X5_isIn
set_option maxRecDepth 20000 in
theorem ggX5_nearTarget_X5_canBe : GoodIn wsX5_nearTarget wsX5_canBe := goodIn_r _ [9, 10, 1, 2, 3, 4, 5, 11, 12, 13, 14, 15, 16, 17, 18, 19, 20, 21, 22, 23, 24, 25, 26, 27, 28, 29, 30, 31, 32, 33, 34, 35, 36, 37, 38, 39, 40, 41, 42, 43, 44, 45, 46, 47, 48, 49, 50, 51, 52, 53, 54] (by decide +kernel) (by decide +kernel)
set_option maxRecDepth 20000 in
theorem gX5_nearTarget_X5_canBe : GoodIn wsX5_nearTarget (wsV RX5 139 RX5 yX5_canBe wsX5_canBe) := goodIn_app (goodIn_of _ (by decide +kernel)) ggX5_nearTarget_X5_canBe
theorem dX5_nearTarget_0 : decode cX5_nearTarget 0 = .ok (.iload_n 1, 1) := by decide +kernel
theorem dX5_nearTarget_1 : decode cX5_nearTarget 1 = .ok (.iconst 0, 1) := by decide +kernel
theorem dX5_nearTarget_2 : decode cX5_nearTarget 2 = .ok (.sipush 200, 3) := by decide +kernel
theorem dX5_nearTarget_5 : decode cX5_nearTarget 5 = .ok (.invokestatic 47, 3) := by decide +kernel
theorem dX5_nearTarget_8 : decode cX5_nearTarget 8 = .ok (.ifCond .ne 5, 3) := by decide +kernel
theorem dX5_nearTarget_11 : decode cX5_nearTarget 11 = .ok (.iconst (-1), 1) := by decide +kernel
theorem dX5_nearTarget_12 : decode cX5_nearTarget 12 = .ok (.ireturn, 1) := by decide +kernel
theorem dX5_nearTarget_13 : decode cX5_nearTarget 13 = .ok (.iconst 0, 1) := by decide +kernel
theorem dX5_nearTarget_14 : decode cX5_nearTarget 14 = .ok (.istore_n 2, 1) := by decide +kernel
theorem dX5_nearTarget_15 : decode cX5_nearTarget 15 = .ok (.iload_n 2, 1) := by decide +kernel
theorem dX5_nearTarget_16 : decode cX5_nearTarget 16 = .ok (.iload_n 1, 1) := by decide +kernel
theorem dX5_nearTarget_17 : decode cX5_nearTarget 17 = .ok (.if_icmp .gt 61, 3) := by decide +kernel
theorem dX5_nearTarget_20 : decode cX5_nearTarget 20 = .ok (.aload_n 0, 1) := by decide +kernel
theorem dX5_nearTarget_21 : decode cX5_nearTarget 21 = .ok (.aload_n 0, 1) := by decide +kernel
theorem dX5_nearTarget_22 : decode cX5_nearTarget 22 = .ok (.getfield 7, 3) := by decide +kernel
theorem dX5_nearTarget_25 : decode cX5_nearTarget 25 = .ok (.bipush 6, 2) := by decide +kernel
theorem dX5_nearTarget_27 : decode cX5_nearTarget 27 = .ok (.iaload, 1) := by decide +kernel
theorem dX5_nearTarget_28 : decode cX5_nearTarget 28 = .ok (.iload_n 2, 1) := by decide +kernel
theorem dX5_nearTarget_29 : decode cX5_nearTarget 29 = .ok (.isub, 1) := by decide +kernel
theorem dX5_nearTarget_30 : decode cX5_nearTarget 30 = .ok (.invokevirtual 139, 3) := by decide +kernel
theorem dX5_nearTarget_33 : decode cX5_nearTarget 33 = .ok (.ifCond .eq 13, 3) := by decide +kernel
theorem dX5_nearTarget_36 : decode cX5_nearTarget 36 = .ok (.aload_n 0, 1) := by decide +kernel
theorem dX5_nearTarget_37 : decode cX5_nearTarget 37 = .ok (.getfield 7, 3) := by decide +kernel
theorem dX5_nearTarget_40 : decode cX5_nearTarget 40 = .ok (.bipush 6, 2) := by decide +kernel
theorem dX5_nearTarget_42 : decode cX5_nearTarget 42 = .ok (.iaload, 1) := by decide +kernel
theorem dX5_nearTarget_43 : decode cX5_nearTarget 43 = .ok (.iload_n 2, 1) := by decide +kernel
theorem dX5_nearTarget_44 : decode cX5_nearTarget 44 = .ok (.isub, 1) := by decide +kernel
theorem dX5_nearTarget_45 : decode cX5_nearTarget 45 = .ok (.ireturn, 1) := by decide +kernel
theorem dX5_nearTarget_46 : decode cX5_nearTarget 46 = .ok (.aload_n 0, 1) := by decide +kernel
theorem dX5_nearTarget_47 : decode cX5_nearTarget 47 = .ok (.aload_n 0, 1) := by decide +kernel
theorem dX5_nearTarget_48 : decode cX5_nearTarget 48 = .ok (.getfield 7, 3) := by decide +kernel
theorem dX5_nearTarget_51 : decode cX5_nearTarget 51 = .ok (.bipush 6, 2) := by decide +kernel
theorem dX5_nearTarget_53 : decode cX5_nearTarget 53 = .ok (.iaload, 1) := by decide +kernel
theorem dX5_nearTarget_54 : decode cX5_nearTarget 54 = .ok (.iload_n 2, 1) := by decide +kernel
theorem dX5_nearTarget_55 : decode cX5_nearTarget 55 = .ok (.iadd, 1) := by decide +kernel
theorem dX5_nearTarget_56 : decode cX5_nearTarget 56 = .ok (.invokevirtual 139, 3) := by decide +kernel
theorem dX5_nearTarget_59 : decode cX5_nearTarget 59 = .ok (.ifCond .eq 13, 3) := by decide +kernel
theorem dX5_nearTarget_62 : decode cX5_nearTarget 62 = .ok (.aload_n 0, 1) := by decide +kernel
theorem dX5_nearTarget_63 : decode cX5_nearTarget 63 = .ok (.getfield 7, 3) := by decide +kernel
theorem dX5_nearTarget_66 : decode cX5_nearTarget 66 = .ok (.bipush 6, 2) := by decide +kernel
theorem dX5_nearTarget_68 : decode cX5_nearTarget 68 = .ok (.iaload, 1) := by decide +kernel
theorem dX5_nearTarget_69 : decode cX5_nearTarget 69 = .ok (.iload_n 2, 1) := by decide +kernel
theorem dX5_nearTarget_70 : decode cX5_nearTarget 70 = .ok (.iadd, 1) := by decide +kernel
theorem dX5_nearTarget_71 : decode cX5_nearTarget 71 = .ok (.ireturn, 1) := by decide +kernel
theorem dX5_nearTarget_72 : decode cX5_nearTarget 72 = .ok (.iinc 2 1, 3) := by decide +kernel
theorem dX5_nearTarget_75 : decode cX5_nearTarget 75 = .ok (.goto (-60), 3) := by decide +kernel
theorem dX5_nearTarget_78 : decode cX5_nearTarget 78 = .ok (.bipush (-9), 2) := by decide +kernel
theorem dX5_nearTarget_80 : decode cX5_nearTarget 80 = .ok (.ireturn, 1) := by decide +kernel
set_option maxRecDepth 20000 in
theorem ggX5_marksWith_X5_isIn : GoodIn wsX5_marksWith wsX5_isIn := goodIn_r _ [4] (by decide +kernel) (by decide +kernel)
set_option maxRecDepth 20000 in
theorem gX5_marksWith_X5_isIn : GoodIn wsX5_marksWith (va_wsS RX5 47 yX5_isIn wsX5_isIn) := goodIn_app (goodIn_of _ (by decide +kernel)) ggX5_marksWith_X5_isIn
set_option maxRecDepth 20000 in
theorem ggX5_marksWith_X5_findBy : GoodIn wsX5_marksWith wsX5_findBy := goodIn_r _ [8, 9, 10, 11, 12, 13, 14, 15, 16, 17, 18, 19, 20, 21] (by decide +kernel) (by decide +kernel)
set_option maxRecDepth 20000 in
theorem gX5_marksWith_X5_findBy : GoodIn wsX5_marksWith (wsV RX5 109 RX5 yX5_findBy wsX5_findBy) := goodIn_app (goodIn_of _ (by decide +kernel)) ggX5_marksWith_X5_findBy
theorem dX5_marksWith_0 : decode cX5_marksWith 0 = .ok (.iload_n 1, 1) := by decide +kernel
theorem dX5_marksWith_1 : decode cX5_marksWith 1 = .ok (.iconst 1, 1) := by decide +kernel
theorem dX5_marksWith_2 : decode cX5_marksWith 2 = .ok (.sipush 999, 3) := by decide +kernel
theorem dX5_marksWith_5 : decode cX5_marksWith 5 = .ok (.invokestatic 47, 3) := by decide +kernel
theorem dX5_marksWith_8 : decode cX5_marksWith 8 = .ok (.ifCond .eq 11, 3) := by decide +kernel
theorem dX5_marksWith_11 : decode cX5_marksWith 11 = .ok (.aload_n 0, 1) := by decide +kernel
theorem dX5_marksWith_12 : decode cX5_marksWith 12 = .ok (.iload_n 1, 1) := by decide +kernel
theorem dX5_marksWith_13 : decode cX5_marksWith 13 = .ok (.invokevirtual 109, 3) := by decide +kernel
theorem dX5_marksWith_16 : decode cX5_marksWith 16 = .ok (.goto 4, 3) := by decide +kernel
theorem dX5_marksWith_19 : decode cX5_marksWith 19 = .ok (.iconst (-1), 1) := by decide +kernel
theorem dX5_marksWith_20 : decode cX5_marksWith 20 = .ok (.ireturn, 1) := by decide +kernel
set_option maxRecDepth 20000 in
theorem ggX5_thresholdFor_X5_isIn : GoodIn wsX5_thresholdFor wsX5_isIn := goodIn_r _ [4] (by decide +kernel) (by decide +kernel)
set_option maxRecDepth 20000 in
theorem gX5_thresholdFor_X5_isIn : GoodIn wsX5_thresholdFor (va_wsS RX5 47 yX5_isIn wsX5_isIn) := goodIn_app (goodIn_of _ (by decide +kernel)) ggX5_thresholdFor_X5_isIn
set_option maxRecDepth 20000 in
theorem ggX5_thresholdFor_X5_findBy : GoodIn wsX5_thresholdFor wsX5_findBy := goodIn_r _ [8, 9, 10, 11, 12, 13, 14, 15, 16, 17, 18, 19, 20, 21] (by decide +kernel) (by decide +kernel)
set_option maxRecDepth 20000 in
theorem gX5_thresholdFor_X5_findBy : GoodIn wsX5_thresholdFor (wsV RX5 109 RX5 yX5_findBy wsX5_findBy) := goodIn_app (goodIn_of _ (by decide +kernel)) ggX5_thresholdFor_X5_findBy
theorem dX5_thresholdFor_0 : decode cX5_thresholdFor 0 = .ok (.iload_n 1, 1) := by decide +kernel
theorem dX5_thresholdFor_1 : decode cX5_thresholdFor 1 = .ok (.iconst 1, 1) := by decide +kernel
theorem dX5_thresholdFor_2 : decode cX5_thresholdFor 2 = .ok (.bipush 16, 2) := by decide +kernel
theorem dX5_thresholdFor_4 : decode cX5_thresholdFor 4 = .ok (.invokestatic 47, 3) := by decide +kernel
theorem dX5_thresholdFor_7 : decode cX5_thresholdFor 7 = .ok (.ifCond .ne 5, 3) := by decide +kernel
theorem dX5_thresholdFor_10 : decode cX5_thresholdFor 10 = .ok (.iconst (-1), 1) := by decide +kernel
theorem dX5_thresholdFor_11 : decode cX5_thresholdFor 11 = .ok (.ireturn, 1) := by decide +kernel
theorem dX5_thresholdFor_12 : decode cX5_thresholdFor 12 = .ok (.sipush 999, 3) := by decide +kernel
theorem dX5_thresholdFor_15 : decode cX5_thresholdFor 15 = .ok (.istore_n 2, 1) := by decide +kernel
theorem dX5_thresholdFor_16 : decode cX5_thresholdFor 16 = .ok (.iload_n 2, 1) := by decide +kernel
theorem dX5_thresholdFor_17 : decode cX5_thresholdFor 17 = .ok (.ifCond .le 20, 3) := by decide +kernel
theorem dX5_thresholdFor_20 : decode cX5_thresholdFor 20 = .ok (.aload_n 0, 1) := by decide +kernel
theorem dX5_thresholdFor_21 : decode cX5_thresholdFor 21 = .ok (.iload_n 2, 1) := by decide +kernel
theorem dX5_thresholdFor_22 : decode cX5_thresholdFor 22 = .ok (.invokevirtual 109, 3) := by decide +kernel
theorem dX5_thresholdFor_25 : decode cX5_thresholdFor 25 = .ok (.iload_n 1, 1) := by decide +kernel
theorem dX5_thresholdFor_26 : decode cX5_thresholdFor 26 = .ok (.if_icmp .lt 5, 3) := by decide +kernel
theorem dX5_thresholdFor_29 : decode cX5_thresholdFor 29 = .ok (.iload_n 2, 1) := by decide +kernel
theorem dX5_thresholdFor_30 : decode cX5_thresholdFor 30 = .ok (.ireturn, 1) := by decide +kernel
theorem dX5_thresholdFor_31 : decode cX5_thresholdFor 31 = .ok (.iinc 2 (-1), 3) := by decide +kernel
theorem dX5_thresholdFor_34 : decode cX5_thresholdFor 34 = .ok (.goto (-18), 3) := by decide +kernel
theorem dX5_thresholdFor_37 : decode cX5_thresholdFor 37 = .ok (.bipush (-9), 2) := by decide +kernel
theorem dX5_thresholdFor_39 : decode cX5_thresholdFor 39 = .ok (.ireturn, 1) := by decide +kernel
set_option maxRecDepth 20000 in
theorem ggX5_isImage_X5_isIn : GoodIn wsX5_isImage wsX5_isIn := goodIn_r _ [4] (by decide +kernel) (by decide +kernel)
set_option maxRecDepth 20000 in
theorem gX5_isImage_X5_isIn : GoodIn wsX5_isImage (va_wsS RX5 47 yX5_isIn wsX5_isIn) := goodIn_app (goodIn_of _ (by decide +kernel)) ggX5_isImage_X5_isIn
theorem dX5_isImage_0 : decode cX5_isImage 0 = .ok (.iload_n 0, 1) := by decide +kernel
theorem dX5_isImage_1 : decode cX5_isImage 1 = .ok (.iconst 0, 1) := by decide +kernel
theorem dX5_isImage_2 : decode cX5_isImage 2 = .ok (.iconst 1, 1) := by decide +kernel
theorem dX5_isImage_3 : decode cX5_isImage 3 = .ok (.invokestatic 47, 3) := by decide +kernel
theorem dX5_isImage_6 : decode cX5_isImage 6 = .ok (.ireturn, 1) := by decide +kernel
set_option maxRecDepth 20000 in
theorem ggX5_keep_X5_isImage : GoodIn wsX5_keep wsX5_isImage := goodIn_r _ [7, 8, 9, 6, 10] (by decide +kernel) (by decide +kernel)
set_option maxRecDepth 20000 in
theorem gX5_keep_X5_isImage : GoodIn wsX5_keep (va_wsS RX5 142 yX5_isImage wsX5_isImage) := goodIn_app (goodIn_of _ (by decide +kernel)) ggX5_keep_X5_isImage
theorem dX5_keep_0 : decode cX5_keep 0 = .ok (.iload_n 1, 1) := by decide +kernel
theorem dX5_keep_1 : decode cX5_keep 1 = .ok (.invokestatic 142, 3) := by decide +kernel
theorem dX5_keep_4 : decode cX5_keep 4 = .ok (.ifCond .ne 5, 3) := by decide +kernel
theorem dX5_keep_7 : decode cX5_keep 7 = .ok (.iconst (-1), 1) := by decide +kernel
theorem dX5_keep_8 : decode cX5_keep 8 = .ok (.ireturn, 1) := by decide +kernel
theorem dX5_keep_9 : decode cX5_keep 9 = .ok (.iconst 0, 1) := by decide +kernel
theorem dX5_keep_10 : decode cX5_keep 10 = .ok (.istore_n 2, 1) := by decide +kernel
theorem dX5_keep_11 : decode cX5_keep 11 = .ok (.iload_n 2, 1) := by decide +kernel
theorem dX5_keep_12 : decode cX5_keep 12 = .ok (.bipush 107, 2) := by decide +kernel
theorem dX5_keep_14 : decode cX5_keep 14 = .ok (.if_icmp .ge 26, 3) := by decide +kernel
theorem dX5_keep_17 : decode cX5_keep 17 = .ok (.aload_n 0, 1) := by decide +kernel
theorem dX5_keep_18 : decode cX5_keep 18 = .ok (.getfield 16, 3) := by decide +kernel
theorem dX5_keep_21 : decode cX5_keep 21 = .ok (.bipush 107, 2) := by decide +kernel
theorem dX5_keep_23 : decode cX5_keep 23 = .ok (.iload_n 1, 1) := by decide +kernel
theorem dX5_keep_24 : decode cX5_keep 24 = .ok (.imul, 1) := by decide +kernel
theorem dX5_keep_25 : decode cX5_keep 25 = .ok (.iload_n 2, 1) := by decide +kernel
theorem dX5_keep_26 : decode cX5_keep 26 = .ok (.iadd, 1) := by decide +kernel
theorem dX5_keep_27 : decode cX5_keep 27 = .ok (.aload_n 0, 1) := by decide +kernel
theorem dX5_keep_28 : decode cX5_keep 28 = .ok (.getfield 7, 3) := by decide +kernel
theorem dX5_keep_31 : decode cX5_keep 31 = .ok (.iload_n 2, 1) := by decide +kernel
theorem dX5_keep_32 : decode cX5_keep 32 = .ok (.iaload, 1) := by decide +kernel
theorem dX5_keep_33 : decode cX5_keep 33 = .ok (.iastore, 1) := by decide +kernel
theorem dX5_keep_34 : decode cX5_keep 34 = .ok (.iinc 2 1, 3) := by decide +kernel
theorem dX5_keep_37 : decode cX5_keep 37 = .ok (.goto (-26), 3) := by decide +kernel
theorem dX5_keep_40 : decode cX5_keep 40 = .ok (.aload_n 0, 1) := by decide +kernel
theorem dX5_keep_41 : decode cX5_keep 41 = .ok (.dup, 1) := by decide +kernel
theorem dX5_keep_42 : decode cX5_keep 42 = .ok (.getfield 145, 3) := by decide +kernel
theorem dX5_keep_45 : decode cX5_keep 45 = .ok (.iconst 1, 1) := by decide +kernel
theorem dX5_keep_46 : decode cX5_keep 46 = .ok (.iload_n 1, 1) := by decide +kernel
theorem dX5_keep_47 : decode cX5_keep 47 = .ok (.ishl, 1) := by decide +kernel
theorem dX5_keep_48 : decode cX5_keep 48 = .ok (.ior, 1) := by decide +kernel
theorem dX5_keep_49 : decode cX5_keep 49 = .ok (.putfield 145, 3) := by decide +kernel
theorem dX5_keep_52 : decode cX5_keep 52 = .ok (.aload_n 0, 1) := by decide +kernel
theorem dX5_keep_53 : decode cX5_keep 53 = .ok (.getfield 7, 3) := by decide +kernel
theorem dX5_keep_56 : decode cX5_keep 56 = .ok (.bipush 74, 2) := by decide +kernel
theorem dX5_keep_58 : decode cX5_keep 58 = .ok (.iaload, 1) := by decide +kernel
theorem dX5_keep_59 : decode cX5_keep 59 = .ok (.ireturn, 1) := by decide +kernel
set_option maxRecDepth 20000 in
theorem ggX5_back_X5_isImage : GoodIn wsX5_back wsX5_isImage := goodIn_r _ [7, 8, 9, 6, 10] (by decide +kernel) (by decide +kernel)
set_option maxRecDepth 20000 in
theorem gX5_back_X5_isImage : GoodIn wsX5_back (va_wsS RX5 142 yX5_isImage wsX5_isImage) := goodIn_app (goodIn_of _ (by decide +kernel)) ggX5_back_X5_isImage
set_option maxRecDepth 20000 in
theorem ggX5_back_X5_remember : GoodIn wsX5_back wsX5_remember := goodIn_r _ [14, 15, 16, 2, 17, 18, 19, 20, 21, 22, 23, 24, 25, 26, 27] (by decide +kernel) (by decide +kernel)
set_option maxRecDepth 20000 in
theorem gX5_back_X5_remember : GoodIn wsX5_back (wsV RX5 98 RX5 yX5_remember wsX5_remember) := goodIn_app (goodIn_of _ (by decide +kernel)) ggX5_back_X5_remember
theorem dX5_back_0 : decode cX5_back 0 = .ok (.iload_n 1, 1) := by decide +kernel
theorem dX5_back_1 : decode cX5_back 1 = .ok (.invokestatic 142, 3) := by decide +kernel
theorem dX5_back_4 : decode cX5_back 4 = .ok (.ifCond .ne 5, 3) := by decide +kernel
theorem dX5_back_7 : decode cX5_back 7 = .ok (.iconst (-1), 1) := by decide +kernel
theorem dX5_back_8 : decode cX5_back 8 = .ok (.ireturn, 1) := by decide +kernel
theorem dX5_back_9 : decode cX5_back 9 = .ok (.aload_n 0, 1) := by decide +kernel
theorem dX5_back_10 : decode cX5_back 10 = .ok (.getfield 145, 3) := by decide +kernel
theorem dX5_back_13 : decode cX5_back 13 = .ok (.iload_n 1, 1) := by decide +kernel
theorem dX5_back_14 : decode cX5_back 14 = .ok (.ishr, 1) := by decide +kernel
theorem dX5_back_15 : decode cX5_back 15 = .ok (.iconst 1, 1) := by decide +kernel
theorem dX5_back_16 : decode cX5_back 16 = .ok (.iand, 1) := by decide +kernel
theorem dX5_back_17 : decode cX5_back 17 = .ok (.ifCond .ne 6, 3) := by decide +kernel
theorem dX5_back_20 : decode cX5_back 20 = .ok (.bipush (-2), 2) := by decide +kernel
theorem dX5_back_22 : decode cX5_back 22 = .ok (.ireturn, 1) := by decide +kernel
theorem dX5_back_23 : decode cX5_back 23 = .ok (.aload_n 0, 1) := by decide +kernel
theorem dX5_back_24 : decode cX5_back 24 = .ok (.invokevirtual 98, 3) := by decide +kernel
theorem dX5_back_27 : decode cX5_back 27 = .ok (.iconst 0, 1) := by decide +kernel
theorem dX5_back_28 : decode cX5_back 28 = .ok (.istore_n 2, 1) := by decide +kernel
theorem dX5_back_29 : decode cX5_back 29 = .ok (.iload_n 2, 1) := by decide +kernel
theorem dX5_back_30 : decode cX5_back 30 = .ok (.bipush 107, 2) := by decide +kernel
theorem dX5_back_32 : decode cX5_back 32 = .ok (.if_icmp .ge 26, 3) := by decide +kernel
theorem dX5_back_35 : decode cX5_back 35 = .ok (.aload_n 0, 1) := by decide +kernel
theorem dX5_back_36 : decode cX5_back 36 = .ok (.getfield 7, 3) := by decide +kernel
theorem dX5_back_39 : decode cX5_back 39 = .ok (.iload_n 2, 1) := by decide +kernel
theorem dX5_back_40 : decode cX5_back 40 = .ok (.aload_n 0, 1) := by decide +kernel
theorem dX5_back_41 : decode cX5_back 41 = .ok (.getfield 16, 3) := by decide +kernel
theorem dX5_back_44 : decode cX5_back 44 = .ok (.bipush 107, 2) := by decide +kernel
theorem dX5_back_46 : decode cX5_back 46 = .ok (.iload_n 1, 1) := by decide +kernel
theorem dX5_back_47 : decode cX5_back 47 = .ok (.imul, 1) := by decide +kernel
theorem dX5_back_48 : decode cX5_back 48 = .ok (.iload_n 2, 1) := by decide +kernel
theorem dX5_back_49 : decode cX5_back 49 = .ok (.iadd, 1) := by decide +kernel
theorem dX5_back_50 : decode cX5_back 50 = .ok (.iaload, 1) := by decide +kernel
theorem dX5_back_51 : decode cX5_back 51 = .ok (.iastore, 1) := by decide +kernel
theorem dX5_back_52 : decode cX5_back 52 = .ok (.iinc 2 1, 3) := by decide +kernel
theorem dX5_back_55 : decode cX5_back 55 = .ok (.goto (-26), 3) := by decide +kernel
theorem dX5_back_58 : decode cX5_back 58 = .ok (.aload_n 0, 1) := by decide +kernel
theorem dX5_back_59 : decode cX5_back 59 = .ok (.getfield 7, 3) := by decide +kernel
theorem dX5_back_62 : decode cX5_back 62 = .ok (.bipush 74, 2) := by decide +kernel
theorem dX5_back_64 : decode cX5_back 64 = .ok (.iaload, 1) := by decide +kernel
theorem dX5_back_65 : decode cX5_back 65 = .ok (.ireturn, 1) := by decide +kernel
