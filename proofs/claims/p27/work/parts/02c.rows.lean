set_option maxRecDepth 20000 in
theorem ggX4_init_X2_init : GoodIn wsX4_init wsX2_init := goodIn_r _ [26, 27, 2, 3, 28, 29, 23, 30, 31, 32, 33, 34, 35, 36, 37, 38, 39, 65, 66, 67, 68, 69, 70] (by decide +kernel) (by decide +kernel)
set_option maxRecDepth 20000 in
theorem gX4_init_X2_init_n9 : GoodIn wsX4_init (wsX2_init) := ggX4_init_X2_init
set_option maxRecDepth 20000 in
theorem ggX4_init_X0_init : GoodIn wsX4_init wsX0_init := goodIn_r _ [42, 43, 2, 3, 23, 44, 45, 46, 47, 48, 49, 78, 79, 80, 81, 82, 83, 84, 85] (by decide +kernel) (by decide +kernel)
set_option maxRecDepth 20000 in
theorem gX4_init_X0_init : GoodIn wsX4_init (wsX0_init) := ggX4_init_X0_init
set_option maxRecDepth 20000 in
theorem ggX4_init_X3_init : GoodIn wsX4_init wsX3_init := goodIn_r _ [52, 53, 2, 3, 23, 54, 55, 56, 57, 58, 86, 87, 88, 89] (by decide +kernel) (by decide +kernel)
set_option maxRecDepth 20000 in
theorem gX4_init_X3_init : GoodIn wsX4_init (wsX3_init) := ggX4_init_X3_init
set_option maxRecDepth 20000 in
theorem ggX4_init_X1_init : GoodIn wsX4_init wsX1_init := goodIn_r _ [61, 62, 2, 3, 63, 64, 5, 6, 25, 26, 27, 28, 29, 23, 30, 31, 32, 33, 34, 35, 36, 37, 38, 39, 90, 91, 92, 65, 66, 67, 68, 69, 70] (by decide +kernel) (by decide +kernel)
set_option maxRecDepth 20000 in
theorem gX4_init_X1_init : GoodIn wsX4_init (wsX1_init) := ggX4_init_X1_init
theorem dX4_init_0 : decode cX4_init 0 = .ok (.aload_n 0, 1) := by decide +kernel
theorem dX4_init_1 : decode cX4_init 1 = .ok (.invokespecial 1, 3) := by decide +kernel
theorem dX4_init_4 : decode cX4_init 4 = .ok (.aload_n 0, 1) := by decide +kernel
theorem dX4_init_5 : decode cX4_init 5 = .ok (.new 7, 3) := by decide +kernel
theorem dX4_init_8 : decode cX4_init 8 = .ok (.dup, 1) := by decide +kernel
theorem dX4_init_9 : decode cX4_init 9 = .ok (.invokespecial 9, 3) := by decide +kernel
theorem dX4_init_12 : decode cX4_init 12 = .ok (.putfield 10, 3) := by decide +kernel
theorem dX4_init_15 : decode cX4_init 15 = .ok (.aload_n 0, 1) := by decide +kernel
theorem dX4_init_16 : decode cX4_init 16 = .ok (.new 16, 3) := by decide +kernel
theorem dX4_init_19 : decode cX4_init 19 = .ok (.dup, 1) := by decide +kernel
theorem dX4_init_20 : decode cX4_init 20 = .ok (.aload_n 0, 1) := by decide +kernel
theorem dX4_init_21 : decode cX4_init 21 = .ok (.getfield 10, 3) := by decide +kernel
theorem dX4_init_24 : decode cX4_init 24 = .ok (.invokespecial 18, 3) := by decide +kernel
theorem dX4_init_27 : decode cX4_init 27 = .ok (.putfield 21, 3) := by decide +kernel
theorem dX4_init_30 : decode cX4_init 30 = .ok (.aload_n 0, 1) := by decide +kernel
theorem dX4_init_31 : decode cX4_init 31 = .ok (.new 25, 3) := by decide +kernel
theorem dX4_init_34 : decode cX4_init 34 = .ok (.dup, 1) := by decide +kernel
theorem dX4_init_35 : decode cX4_init 35 = .ok (.aload_n 0, 1) := by decide +kernel
theorem dX4_init_36 : decode cX4_init 36 = .ok (.getfield 10, 3) := by decide +kernel
theorem dX4_init_39 : decode cX4_init 39 = .ok (.aload_n 0, 1) := by decide +kernel
theorem dX4_init_40 : decode cX4_init 40 = .ok (.getfield 21, 3) := by decide +kernel
theorem dX4_init_43 : decode cX4_init 43 = .ok (.invokespecial 27, 3) := by decide +kernel
theorem dX4_init_46 : decode cX4_init 46 = .ok (.putfield 30, 3) := by decide +kernel
theorem dX4_init_49 : decode cX4_init 49 = .ok (.aload_n 0, 1) := by decide +kernel
theorem dX4_init_50 : decode cX4_init 50 = .ok (.new 34, 3) := by decide +kernel
theorem dX4_init_53 : decode cX4_init 53 = .ok (.dup, 1) := by decide +kernel
theorem dX4_init_54 : decode cX4_init 54 = .ok (.invokespecial 36, 3) := by decide +kernel
theorem dX4_init_57 : decode cX4_init 57 = .ok (.putfield 37, 3) := by decide +kernel
theorem dX4_init_60 : decode cX4_init 60 = .ok (.aload_n 0, 1) := by decide +kernel
theorem dX4_init_61 : decode cX4_init 61 = .ok (.iconst 2, 1) := by decide +kernel
theorem dX4_init_62 : decode cX4_init 62 = .ok (.anewarray 7, 3) := by decide +kernel
theorem dX4_init_65 : decode cX4_init 65 = .ok (.putfield 41, 3) := by decide +kernel
theorem dX4_init_68 : decode cX4_init 68 = .ok (.aload_n 0, 1) := by decide +kernel
theorem dX4_init_69 : decode cX4_init 69 = .ok (.iconst 2, 1) := by decide +kernel
theorem dX4_init_70 : decode cX4_init 70 = .ok (.newarray .boolean, 2) := by decide +kernel
theorem dX4_init_72 : decode cX4_init 72 = .ok (.putfield 45, 3) := by decide +kernel
theorem dX4_init_75 : decode cX4_init 75 = .ok (.aload_n 0, 1) := by decide +kernel
theorem dX4_init_76 : decode cX4_init 76 = .ok (.bipush 16, 2) := by decide +kernel
theorem dX4_init_78 : decode cX4_init 78 = .ok (.newarray .int, 2) := by decide +kernel
theorem dX4_init_80 : decode cX4_init 80 = .ok (.putfield 49, 3) := by decide +kernel
theorem dX4_init_83 : decode cX4_init 83 = .ok (.iconst 0, 1) := by decide +kernel
theorem dX4_init_84 : decode cX4_init 84 = .ok (.istore_n 1, 1) := by decide +kernel
theorem dX4_init_85 : decode cX4_init 85 = .ok (.iload_n 1, 1) := by decide +kernel
theorem dX4_init_86 : decode cX4_init 86 = .ok (.iconst 2, 1) := by decide +kernel
theorem dX4_init_87 : decode cX4_init 87 = .ok (.if_icmp .ge 22, 3) := by decide +kernel
theorem dX4_init_90 : decode cX4_init 90 = .ok (.aload_n 0, 1) := by decide +kernel
theorem dX4_init_91 : decode cX4_init 91 = .ok (.getfield 41, 3) := by decide +kernel
theorem dX4_init_94 : decode cX4_init 94 = .ok (.iload_n 1, 1) := by decide +kernel
theorem dX4_init_95 : decode cX4_init 95 = .ok (.new 7, 3) := by decide +kernel
theorem dX4_init_98 : decode cX4_init 98 = .ok (.dup, 1) := by decide +kernel
theorem dX4_init_99 : decode cX4_init 99 = .ok (.invokespecial 9, 3) := by decide +kernel
theorem dX4_init_102 : decode cX4_init 102 = .ok (.aastore, 1) := by decide +kernel
theorem dX4_init_103 : decode cX4_init 103 = .ok (.iinc 1 1, 3) := by decide +kernel
theorem dX4_init_106 : decode cX4_init 106 = .ok (.goto (-21), 3) := by decide +kernel
theorem dX4_init_109 : decode cX4_init 109 = .ok (.return_, 1) := by decide +kernel
set_option maxRecDepth 20000 in
theorem ggX4_begin_X1_push : GoodIn wsX4_begin wsX1_push := goodIn_r _ [8, 9, 10, 11, 12, 13, 14, 15, 16, 17, 18, 19, 20, 21, 22, 23, 24, 25, 26, 48, 49, 50, 42, 43, 44, 45, 46, 47] (by decide +kernel) (by decide +kernel)
set_option maxRecDepth 20000 in
theorem gX4_begin_X1_push : GoodIn wsX4_begin (wsV RX4 53 RX1 yX1_push wsX1_push) := goodIn_app (goodIn_of _ (by decide +kernel)) ggX4_begin_X1_push
set_option maxRecDepth 20000 in
theorem ggX4_begin_X2_clear : GoodIn wsX4_begin wsX2_clear := goodIn_r _ [30, 17, 19, 18, 31, 32, 33, 15, 34, 26, 42, 43, 44, 45, 46, 47] (by decide +kernel) (by decide +kernel)
set_option maxRecDepth 20000 in
theorem gX4_begin_X2_clear : GoodIn wsX4_begin (wsV RX4 60 RX2 yX2_clear wsX2_clear) := goodIn_app (goodIn_of _ (by decide +kernel)) ggX4_begin_X2_clear
theorem dX4_begin_0 : decode cX4_begin 0 = .ok (.iload_n 1, 1) := by decide +kernel
theorem dX4_begin_1 : decode cX4_begin 1 = .ok (.iconst 1, 1) := by decide +kernel
theorem dX4_begin_2 : decode cX4_begin 2 = .ok (.if_icmp .lt 9, 3) := by decide +kernel
theorem dX4_begin_5 : decode cX4_begin 5 = .ok (.iload_n 1, 1) := by decide +kernel
theorem dX4_begin_6 : decode cX4_begin 6 = .ok (.bipush 64, 2) := by decide +kernel
theorem dX4_begin_8 : decode cX4_begin 8 = .ok (.if_icmp .le 5, 3) := by decide +kernel
theorem dX4_begin_11 : decode cX4_begin 11 = .ok (.iconst (-1), 1) := by decide +kernel
theorem dX4_begin_12 : decode cX4_begin 12 = .ok (.ireturn, 1) := by decide +kernel
theorem dX4_begin_13 : decode cX4_begin 13 = .ok (.aload_n 0, 1) := by decide +kernel
theorem dX4_begin_14 : decode cX4_begin 14 = .ok (.getfield 37, 3) := by decide +kernel
theorem dX4_begin_17 : decode cX4_begin 17 = .ok (.aload_n 0, 1) := by decide +kernel
theorem dX4_begin_18 : decode cX4_begin 18 = .ok (.getfield 10, 3) := by decide +kernel
theorem dX4_begin_21 : decode cX4_begin 21 = .ok (.invokevirtual 53, 3) := by decide +kernel
theorem dX4_begin_24 : decode cX4_begin 24 = .ok (.aload_n 0, 1) := by decide +kernel
theorem dX4_begin_25 : decode cX4_begin 25 = .ok (.getfield 10, 3) := by decide +kernel
theorem dX4_begin_28 : decode cX4_begin 28 = .ok (.getfield 56, 3) := by decide +kernel
theorem dX4_begin_31 : decode cX4_begin 31 = .ok (.istore_n 2, 1) := by decide +kernel
theorem dX4_begin_32 : decode cX4_begin 32 = .ok (.aload_n 0, 1) := by decide +kernel
theorem dX4_begin_33 : decode cX4_begin 33 = .ok (.getfield 10, 3) := by decide +kernel
theorem dX4_begin_36 : decode cX4_begin 36 = .ok (.iload_n 1, 1) := by decide +kernel
theorem dX4_begin_37 : decode cX4_begin 37 = .ok (.invokevirtual 60, 3) := by decide +kernel
theorem dX4_begin_40 : decode cX4_begin 40 = .ok (.iload_n 2, 1) := by decide +kernel
theorem dX4_begin_41 : decode cX4_begin 41 = .ok (.ireturn, 1) := by decide +kernel
set_option maxRecDepth 20000 in
theorem ggX4_sound_X2_isFrame : GoodIn wsX4_sound wsX2_isFrame := goodIn_r _ [8, 9, 38, 39, 40, 41, 42, 43] (by decide +kernel) (by decide +kernel)
set_option maxRecDepth 20000 in
theorem gX4_sound_X2_isFrame : GoodIn wsX4_sound (wsV RX4 64 RX2 yX2_isFrame wsX2_isFrame) := goodIn_app (goodIn_of _ (by decide +kernel)) ggX4_sound_X2_isFrame
set_option maxRecDepth 20000 in
theorem ggX4_sound_X1_push : GoodIn wsX4_sound wsX1_push := goodIn_r _ [14, 15, 16, 17, 18, 19, 20, 7, 21, 9, 22, 23, 24, 25, 26, 27, 28, 29, 30, 44, 45, 46, 38, 39, 40, 41, 42, 43] (by decide +kernel) (by decide +kernel)
set_option maxRecDepth 20000 in
theorem gX4_sound_X1_push : GoodIn wsX4_sound (wsV RX4 53 RX1 yX1_push wsX1_push) := goodIn_app (goodIn_of _ (by decide +kernel)) ggX4_sound_X1_push
theorem dX4_sound_0 : decode cX4_sound 0 = .ok (.aload_n 0, 1) := by decide +kernel
theorem dX4_sound_1 : decode cX4_sound 1 = .ok (.getfield 10, 3) := by decide +kernel
theorem dX4_sound_4 : decode cX4_sound 4 = .ok (.iload_n 1, 1) := by decide +kernel
theorem dX4_sound_5 : decode cX4_sound 5 = .ok (.invokevirtual 64, 3) := by decide +kernel
theorem dX4_sound_8 : decode cX4_sound 8 = .ok (.ifCond .eq 19, 3) := by decide +kernel
theorem dX4_sound_11 : decode cX4_sound 11 = .ok (.aload_n 0, 1) := by decide +kernel
theorem dX4_sound_12 : decode cX4_sound 12 = .ok (.getfield 10, 3) := by decide +kernel
theorem dX4_sound_15 : decode cX4_sound 15 = .ok (.iload_n 2, 1) := by decide +kernel
theorem dX4_sound_16 : decode cX4_sound 16 = .ok (.invokevirtual 64, 3) := by decide +kernel
theorem dX4_sound_19 : decode cX4_sound 19 = .ok (.ifCond .eq 8, 3) := by decide +kernel
theorem dX4_sound_22 : decode cX4_sound 22 = .ok (.iload_n 2, 1) := by decide +kernel
theorem dX4_sound_23 : decode cX4_sound 23 = .ok (.iload_n 1, 1) := by decide +kernel
theorem dX4_sound_24 : decode cX4_sound 24 = .ok (.if_icmp .ge 5, 3) := by decide +kernel
theorem dX4_sound_27 : decode cX4_sound 27 = .ok (.iconst (-1), 1) := by decide +kernel
theorem dX4_sound_28 : decode cX4_sound 28 = .ok (.ireturn, 1) := by decide +kernel
theorem dX4_sound_29 : decode cX4_sound 29 = .ok (.iload_n 3, 1) := by decide +kernel
theorem dX4_sound_30 : decode cX4_sound 30 = .ok (.ifCond .lt 10, 3) := by decide +kernel
theorem dX4_sound_33 : decode cX4_sound 33 = .ok (.iload_n 3, 1) := by decide +kernel
theorem dX4_sound_34 : decode cX4_sound 34 = .ok (.sipush 999, 3) := by decide +kernel
theorem dX4_sound_37 : decode cX4_sound 37 = .ok (.if_icmp .le 5, 3) := by decide +kernel
theorem dX4_sound_40 : decode cX4_sound 40 = .ok (.iconst (-1), 1) := by decide +kernel
theorem dX4_sound_41 : decode cX4_sound 41 = .ok (.ireturn, 1) := by decide +kernel
theorem dX4_sound_42 : decode cX4_sound 42 = .ok (.aload_n 0, 1) := by decide +kernel
theorem dX4_sound_43 : decode cX4_sound 43 = .ok (.getfield 37, 3) := by decide +kernel
theorem dX4_sound_46 : decode cX4_sound 46 = .ok (.aload_n 0, 1) := by decide +kernel
theorem dX4_sound_47 : decode cX4_sound 47 = .ok (.getfield 10, 3) := by decide +kernel
theorem dX4_sound_50 : decode cX4_sound 50 = .ok (.invokevirtual 53, 3) := by decide +kernel
theorem dX4_sound_53 : decode cX4_sound 53 = .ok (.iconst 0, 1) := by decide +kernel
theorem dX4_sound_54 : decode cX4_sound 54 = .ok (.istore 4, 2) := by decide +kernel
theorem dX4_sound_56 : decode cX4_sound 56 = .ok (.iload_n 1, 1) := by decide +kernel
theorem dX4_sound_57 : decode cX4_sound 57 = .ok (.istore 5, 2) := by decide +kernel
theorem dX4_sound_59 : decode cX4_sound 59 = .ok (.iload 5, 2) := by decide +kernel
theorem dX4_sound_61 : decode cX4_sound 61 = .ok (.iload_n 2, 1) := by decide +kernel
theorem dX4_sound_62 : decode cX4_sound 62 = .ok (.if_icmp .gt 35, 3) := by decide +kernel
theorem dX4_sound_65 : decode cX4_sound 65 = .ok (.iload 4, 2) := by decide +kernel
theorem dX4_sound_67 : decode cX4_sound 67 = .ok (.aload_n 0, 1) := by decide +kernel
theorem dX4_sound_68 : decode cX4_sound 68 = .ok (.getfield 10, 3) := by decide +kernel
theorem dX4_sound_71 : decode cX4_sound 71 = .ok (.getfield 68, 3) := by decide +kernel
theorem dX4_sound_74 : decode cX4_sound 74 = .ok (.iload 5, 2) := by decide +kernel
theorem dX4_sound_76 : decode cX4_sound 76 = .ok (.iaload, 1) := by decide +kernel
theorem dX4_sound_77 : decode cX4_sound 77 = .ok (.iadd, 1) := by decide +kernel
theorem dX4_sound_78 : decode cX4_sound 78 = .ok (.istore 4, 2) := by decide +kernel
theorem dX4_sound_80 : decode cX4_sound 80 = .ok (.aload_n 0, 1) := by decide +kernel
theorem dX4_sound_81 : decode cX4_sound 81 = .ok (.getfield 10, 3) := by decide +kernel
theorem dX4_sound_84 : decode cX4_sound 84 = .ok (.getfield 68, 3) := by decide +kernel
theorem dX4_sound_87 : decode cX4_sound 87 = .ok (.iload 5, 2) := by decide +kernel
theorem dX4_sound_89 : decode cX4_sound 89 = .ok (.iload_n 3, 1) := by decide +kernel
theorem dX4_sound_90 : decode cX4_sound 90 = .ok (.iastore, 1) := by decide +kernel
theorem dX4_sound_91 : decode cX4_sound 91 = .ok (.iinc 5 1, 3) := by decide +kernel
theorem dX4_sound_94 : decode cX4_sound 94 = .ok (.goto (-35), 3) := by decide +kernel
theorem dX4_sound_97 : decode cX4_sound 97 = .ok (.iload 4, 2) := by decide +kernel
theorem dX4_sound_99 : decode cX4_sound 99 = .ok (.ireturn, 1) := by decide +kernel
set_option maxRecDepth 20000 in
theorem ggX4_set_X4_isSetting : GoodIn wsX4_set wsX4_isSetting := goodIn_r _ [9] (by decide +kernel) (by decide +kernel)
set_option maxRecDepth 20000 in
theorem gX4_set_X4_isSetting : GoodIn wsX4_set (va_wsS RX4 71 yX4_isSetting wsX4_isSetting) := goodIn_app (goodIn_of _ (by decide +kernel)) ggX4_set_X4_isSetting
set_option maxRecDepth 20000 in
theorem ggX4_set_X1_push : GoodIn wsX4_set wsX1_push := goodIn_r _ [14, 15, 16, 17, 18, 19, 20, 21, 22, 23, 24, 25, 26, 27, 28, 29, 30, 31, 32, 46, 47, 48, 40, 41, 42, 43, 44, 45] (by decide +kernel) (by decide +kernel)
set_option maxRecDepth 20000 in
theorem gX4_set_X1_push : GoodIn wsX4_set (wsV RX4 53 RX1 yX1_push wsX1_push) := goodIn_app (goodIn_of _ (by decide +kernel)) ggX4_set_X1_push
theorem dX4_set_0 : decode cX4_set 0 = .ok (.iload_n 1, 1) := by decide +kernel
theorem dX4_set_1 : decode cX4_set 1 = .ok (.invokestatic 71, 3) := by decide +kernel
theorem dX4_set_4 : decode cX4_set 4 = .ok (.ifCond .ne 5, 3) := by decide +kernel
theorem dX4_set_7 : decode cX4_set 7 = .ok (.iconst (-1), 1) := by decide +kernel
theorem dX4_set_8 : decode cX4_set 8 = .ok (.ireturn, 1) := by decide +kernel
theorem dX4_set_9 : decode cX4_set 9 = .ok (.iload_n 2, 1) := by decide +kernel
theorem dX4_set_10 : decode cX4_set 10 = .ok (.getstatic 74, 3) := by decide +kernel
theorem dX4_set_13 : decode cX4_set 13 = .ok (.iload_n 1, 1) := by decide +kernel
theorem dX4_set_14 : decode cX4_set 14 = .ok (.iaload, 1) := by decide +kernel
theorem dX4_set_15 : decode cX4_set 15 = .ok (.if_icmp .lt 12, 3) := by decide +kernel
theorem dX4_set_18 : decode cX4_set 18 = .ok (.iload_n 2, 1) := by decide +kernel
theorem dX4_set_19 : decode cX4_set 19 = .ok (.getstatic 77, 3) := by decide +kernel
theorem dX4_set_22 : decode cX4_set 22 = .ok (.iload_n 1, 1) := by decide +kernel
theorem dX4_set_23 : decode cX4_set 23 = .ok (.iaload, 1) := by decide +kernel
theorem dX4_set_24 : decode cX4_set 24 = .ok (.if_icmp .le 5, 3) := by decide +kernel
theorem dX4_set_27 : decode cX4_set 27 = .ok (.iconst (-1), 1) := by decide +kernel
theorem dX4_set_28 : decode cX4_set 28 = .ok (.ireturn, 1) := by decide +kernel
theorem dX4_set_29 : decode cX4_set 29 = .ok (.aload_n 0, 1) := by decide +kernel
theorem dX4_set_30 : decode cX4_set 30 = .ok (.getfield 37, 3) := by decide +kernel
theorem dX4_set_33 : decode cX4_set 33 = .ok (.aload_n 0, 1) := by decide +kernel
theorem dX4_set_34 : decode cX4_set 34 = .ok (.getfield 10, 3) := by decide +kernel
theorem dX4_set_37 : decode cX4_set 37 = .ok (.invokevirtual 53, 3) := by decide +kernel
theorem dX4_set_40 : decode cX4_set 40 = .ok (.aload_n 0, 1) := by decide +kernel
theorem dX4_set_41 : decode cX4_set 41 = .ok (.getfield 10, 3) := by decide +kernel
theorem dX4_set_44 : decode cX4_set 44 = .ok (.getfield 80, 3) := by decide +kernel
theorem dX4_set_47 : decode cX4_set 47 = .ok (.iload_n 1, 1) := by decide +kernel
theorem dX4_set_48 : decode cX4_set 48 = .ok (.iaload, 1) := by decide +kernel
theorem dX4_set_49 : decode cX4_set 49 = .ok (.istore_n 3, 1) := by decide +kernel
theorem dX4_set_50 : decode cX4_set 50 = .ok (.aload_n 0, 1) := by decide +kernel
theorem dX4_set_51 : decode cX4_set 51 = .ok (.getfield 10, 3) := by decide +kernel
theorem dX4_set_54 : decode cX4_set 54 = .ok (.getfield 80, 3) := by decide +kernel
theorem dX4_set_57 : decode cX4_set 57 = .ok (.iload_n 1, 1) := by decide +kernel
theorem dX4_set_58 : decode cX4_set 58 = .ok (.iload_n 2, 1) := by decide +kernel
theorem dX4_set_59 : decode cX4_set 59 = .ok (.iastore, 1) := by decide +kernel
theorem dX4_set_60 : decode cX4_set 60 = .ok (.iload_n 3, 1) := by decide +kernel
theorem dX4_set_61 : decode cX4_set 61 = .ok (.ireturn, 1) := by decide +kernel
set_option maxRecDepth 20000 in
theorem ggX4_find_X1_push : GoodIn wsX4_find wsX1_push := goodIn_r _ [10, 11, 12, 13, 14, 15, 16, 17, 18, 19, 20, 21, 22, 23, 24, 25, 26, 27, 28, 50, 51, 52, 44, 45, 46, 47, 48, 49] (by decide +kernel) (by decide +kernel)
set_option maxRecDepth 20000 in
theorem gX4_find_X1_push : GoodIn wsX4_find (wsV RX4 53 RX1 yX1_push wsX1_push) := goodIn_app (goodIn_of _ (by decide +kernel)) ggX4_find_X1_push
set_option maxRecDepth 20000 in
theorem ggX4_find_X2_findRises : GoodIn wsX4_find wsX2_findRises := goodIn_r _ [32, 19, 21, 26, 44, 45, 46, 47, 48, 49] (by decide +kernel) (by decide +kernel)
set_option maxRecDepth 20000 in
theorem gX4_find_X2_findRises : GoodIn wsX4_find (wsV RX4 86 RX2 yX2_findRises wsX2_findRises) := goodIn_app (goodIn_of _ (by decide +kernel)) ggX4_find_X2_findRises
set_option maxRecDepth 20000 in
theorem ggX4_find_X2_resetSequence : GoodIn wsX4_find wsX2_resetSequence := goodIn_r _ [36, 28, 44, 45, 46, 47, 48, 49] (by decide +kernel) (by decide +kernel)
set_option maxRecDepth 20000 in
theorem gX4_find_X2_resetSequence : GoodIn wsX4_find (wsV RX4 93 RX2 yX2_resetSequence wsX2_resetSequence) := goodIn_app (goodIn_of _ (by decide +kernel)) ggX4_find_X2_resetSequence
theorem dX4_find_0 : decode cX4_find 0 = .ok (.aload_n 0, 1) := by decide +kernel
theorem dX4_find_1 : decode cX4_find 1 = .ok (.getfield 37, 3) := by decide +kernel
theorem dX4_find_4 : decode cX4_find 4 = .ok (.aload_n 0, 1) := by decide +kernel
theorem dX4_find_5 : decode cX4_find 5 = .ok (.getfield 10, 3) := by decide +kernel
theorem dX4_find_8 : decode cX4_find 8 = .ok (.invokevirtual 53, 3) := by decide +kernel
theorem dX4_find_11 : decode cX4_find 11 = .ok (.aload_n 0, 1) := by decide +kernel
theorem dX4_find_12 : decode cX4_find 12 = .ok (.getfield 10, 3) := by decide +kernel
theorem dX4_find_15 : decode cX4_find 15 = .ok (.aload_n 0, 1) := by decide +kernel
theorem dX4_find_16 : decode cX4_find 16 = .ok (.getfield 10, 3) := by decide +kernel
theorem dX4_find_19 : decode cX4_find 19 = .ok (.aload_n 0, 1) := by decide +kernel
theorem dX4_find_20 : decode cX4_find 20 = .ok (.getfield 10, 3) := by decide +kernel
theorem dX4_find_23 : decode cX4_find 23 = .ok (.getfield 80, 3) := by decide +kernel
theorem dX4_find_26 : decode cX4_find 26 = .ok (.iconst 1, 1) := by decide +kernel
theorem dX4_find_27 : decode cX4_find 27 = .ok (.iaload, 1) := by decide +kernel
theorem dX4_find_28 : decode cX4_find 28 = .ok (.aload_n 0, 1) := by decide +kernel
theorem dX4_find_29 : decode cX4_find 29 = .ok (.getfield 10, 3) := by decide +kernel
theorem dX4_find_32 : decode cX4_find 32 = .ok (.getfield 83, 3) := by decide +kernel
theorem dX4_find_35 : decode cX4_find 35 = .ok (.invokevirtual 86, 3) := by decide +kernel
theorem dX4_find_38 : decode cX4_find 38 = .ok (.putfield 90, 3) := by decide +kernel
theorem dX4_find_41 : decode cX4_find 41 = .ok (.aload_n 0, 1) := by decide +kernel
theorem dX4_find_42 : decode cX4_find 42 = .ok (.getfield 10, 3) := by decide +kernel
theorem dX4_find_45 : decode cX4_find 45 = .ok (.invokevirtual 93, 3) := by decide +kernel
theorem dX4_find_48 : decode cX4_find 48 = .ok (.aload_n 0, 1) := by decide +kernel
theorem dX4_find_49 : decode cX4_find 49 = .ok (.getfield 10, 3) := by decide +kernel
theorem dX4_find_52 : decode cX4_find 52 = .ok (.getfield 90, 3) := by decide +kernel
theorem dX4_find_55 : decode cX4_find 55 = .ok (.ireturn, 1) := by decide +kernel
set_option maxRecDepth 20000 in
theorem ggX4_mark_X2_isFrame : GoodIn wsX4_mark wsX2_isFrame := goodIn_r _ [9, 10, 55, 56, 57, 58, 59, 60] (by decide +kernel) (by decide +kernel)
set_option maxRecDepth 20000 in
theorem gX4_mark_X2_isFrame : GoodIn wsX4_mark (wsV RX4 64 RX2 yX2_isFrame wsX2_isFrame) := goodIn_app (goodIn_of _ (by decide +kernel)) ggX4_mark_X2_isFrame
set_option maxRecDepth 20000 in
theorem ggX4_mark_X2_marksBefore : GoodIn wsX4_mark wsX2_marksBefore := goodIn_r _ [14, 15, 16, 55, 56, 57, 58, 59, 60] (by decide +kernel) (by decide +kernel)
set_option maxRecDepth 20000 in
theorem gX4_mark_X2_marksBefore : GoodIn wsX4_mark (wsV RX4 96 RX2 yX2_marksBefore wsX2_marksBefore) := goodIn_app (goodIn_of _ (by decide +kernel)) ggX4_mark_X2_marksBefore
set_option maxRecDepth 20000 in
theorem ggX4_mark_X2_isSlice : GoodIn wsX4_mark wsX2_isSlice := goodIn_r _ [20, 15, 55, 56, 57, 58, 59, 60] (by decide +kernel) (by decide +kernel)
set_option maxRecDepth 20000 in
theorem gX4_mark_X2_isSlice : GoodIn wsX4_mark (wsV RX4 100 RX2 yX2_isSlice wsX2_isSlice) := goodIn_app (goodIn_of _ (by decide +kernel)) ggX4_mark_X2_isSlice
set_option maxRecDepth 20000 in
theorem ggX4_mark_X1_push : GoodIn wsX4_mark wsX1_push := goodIn_r _ [25, 26, 27, 28, 29, 30, 31, 8, 32, 10, 15, 33, 34, 35, 36, 37, 38, 16, 39, 61, 62, 63, 55, 56, 57, 58, 59, 60] (by decide +kernel) (by decide +kernel)
set_option maxRecDepth 20000 in
theorem gX4_mark_X1_push : GoodIn wsX4_mark (wsV RX4 53 RX1 yX1_push wsX1_push) := goodIn_app (goodIn_of _ (by decide +kernel)) ggX4_mark_X1_push
set_option maxRecDepth 20000 in
theorem ggX4_mark_X2_insertMark : GoodIn wsX4_mark wsX2_insertMark := goodIn_r _ [43, 15, 16, 44, 45, 46, 8, 47, 39, 55, 56, 57, 58, 59, 60] (by decide +kernel) (by decide +kernel)
set_option maxRecDepth 20000 in
theorem gX4_mark_X2_insertMark : GoodIn wsX4_mark (wsV RX4 103 RX2 yX2_insertMark wsX2_insertMark) := goodIn_app (goodIn_of _ (by decide +kernel)) ggX4_mark_X2_insertMark
theorem dX4_mark_0 : decode cX4_mark 0 = .ok (.aload_n 0, 1) := by decide +kernel
theorem dX4_mark_1 : decode cX4_mark 1 = .ok (.getfield 10, 3) := by decide +kernel
theorem dX4_mark_4 : decode cX4_mark 4 = .ok (.iload_n 1, 1) := by decide +kernel
theorem dX4_mark_5 : decode cX4_mark 5 = .ok (.invokevirtual 64, 3) := by decide +kernel
theorem dX4_mark_8 : decode cX4_mark 8 = .ok (.ifCond .ne 5, 3) := by decide +kernel
theorem dX4_mark_11 : decode cX4_mark 11 = .ok (.iconst (-1), 1) := by decide +kernel
theorem dX4_mark_12 : decode cX4_mark 12 = .ok (.ireturn, 1) := by decide +kernel
theorem dX4_mark_13 : decode cX4_mark 13 = .ok (.aload_n 0, 1) := by decide +kernel
theorem dX4_mark_14 : decode cX4_mark 14 = .ok (.getfield 10, 3) := by decide +kernel
theorem dX4_mark_17 : decode cX4_mark 17 = .ok (.iload_n 1, 1) := by decide +kernel
theorem dX4_mark_18 : decode cX4_mark 18 = .ok (.invokevirtual 96, 3) := by decide +kernel
theorem dX4_mark_21 : decode cX4_mark 21 = .ok (.istore_n 2, 1) := by decide +kernel
theorem dX4_mark_22 : decode cX4_mark 22 = .ok (.aload_n 0, 1) := by decide +kernel
theorem dX4_mark_23 : decode cX4_mark 23 = .ok (.getfield 10, 3) := by decide +kernel
theorem dX4_mark_26 : decode cX4_mark 26 = .ok (.iload_n 2, 1) := by decide +kernel
theorem dX4_mark_27 : decode cX4_mark 27 = .ok (.invokevirtual 100, 3) := by decide +kernel
theorem dX4_mark_30 : decode cX4_mark 30 = .ok (.ifCond .eq 19, 3) := by decide +kernel
theorem dX4_mark_33 : decode cX4_mark 33 = .ok (.aload_n 0, 1) := by decide +kernel
theorem dX4_mark_34 : decode cX4_mark 34 = .ok (.getfield 10, 3) := by decide +kernel
theorem dX4_mark_37 : decode cX4_mark 37 = .ok (.getfield 83, 3) := by decide +kernel
theorem dX4_mark_40 : decode cX4_mark 40 = .ok (.iload_n 2, 1) := by decide +kernel
theorem dX4_mark_41 : decode cX4_mark 41 = .ok (.iaload, 1) := by decide +kernel
theorem dX4_mark_42 : decode cX4_mark 42 = .ok (.iload_n 1, 1) := by decide +kernel
theorem dX4_mark_43 : decode cX4_mark 43 = .ok (.if_icmp .ne 6, 3) := by decide +kernel
theorem dX4_mark_46 : decode cX4_mark 46 = .ok (.bipush (-2), 2) := by decide +kernel
theorem dX4_mark_48 : decode cX4_mark 48 = .ok (.ireturn, 1) := by decide +kernel
theorem dX4_mark_49 : decode cX4_mark 49 = .ok (.aload_n 0, 1) := by decide +kernel
theorem dX4_mark_50 : decode cX4_mark 50 = .ok (.getfield 10, 3) := by decide +kernel
theorem dX4_mark_53 : decode cX4_mark 53 = .ok (.getfield 90, 3) := by decide +kernel
theorem dX4_mark_56 : decode cX4_mark 56 = .ok (.bipush 16, 2) := by decide +kernel
theorem dX4_mark_58 : decode cX4_mark 58 = .ok (.if_icmp .lt 6, 3) := by decide +kernel
theorem dX4_mark_61 : decode cX4_mark 61 = .ok (.bipush (-3), 2) := by decide +kernel
theorem dX4_mark_63 : decode cX4_mark 63 = .ok (.ireturn, 1) := by decide +kernel
theorem dX4_mark_64 : decode cX4_mark 64 = .ok (.aload_n 0, 1) := by decide +kernel
theorem dX4_mark_65 : decode cX4_mark 65 = .ok (.getfield 37, 3) := by decide +kernel
theorem dX4_mark_68 : decode cX4_mark 68 = .ok (.aload_n 0, 1) := by decide +kernel
theorem dX4_mark_69 : decode cX4_mark 69 = .ok (.getfield 10, 3) := by decide +kernel
theorem dX4_mark_72 : decode cX4_mark 72 = .ok (.invokevirtual 53, 3) := by decide +kernel
theorem dX4_mark_75 : decode cX4_mark 75 = .ok (.aload_n 0, 1) := by decide +kernel
theorem dX4_mark_76 : decode cX4_mark 76 = .ok (.getfield 10, 3) := by decide +kernel
theorem dX4_mark_79 : decode cX4_mark 79 = .ok (.iload_n 2, 1) := by decide +kernel
theorem dX4_mark_80 : decode cX4_mark 80 = .ok (.iload_n 1, 1) := by decide +kernel
theorem dX4_mark_81 : decode cX4_mark 81 = .ok (.invokevirtual 103, 3) := by decide +kernel
theorem dX4_mark_84 : decode cX4_mark 84 = .ok (.iload_n 2, 1) := by decide +kernel
theorem dX4_mark_85 : decode cX4_mark 85 = .ok (.ireturn, 1) := by decide +kernel
set_option maxRecDepth 20000 in
theorem ggX4_unmark_X4_isMovable : GoodIn wsX4_unmark wsX4_isMovable := goodIn_r _ [8, 2, 9, 10, 11, 12, 13, 14, 44, 45, 46, 47, 48, 49, 50, 51, 52, 53, 54, 55, 56] (by decide +kernel) (by decide +kernel)
set_option maxRecDepth 20000 in
theorem gX4_unmark_X4_isMovable : GoodIn wsX4_unmark (wsV RX4 107 RX4 yX4_isMovable wsX4_isMovable) := goodIn_app (goodIn_of _ (by decide +kernel)) ggX4_unmark_X4_isMovable
set_option maxRecDepth 20000 in
theorem ggX4_unmark_X1_push : GoodIn wsX4_unmark wsX1_push := goodIn_r _ [19, 20, 21, 22, 23, 24, 25, 12, 26, 27, 14, 28, 29, 30, 31, 32, 33, 34, 35, 57, 58, 59, 51, 52, 53, 54, 55, 56] (by decide +kernel) (by decide +kernel)
set_option maxRecDepth 20000 in
theorem gX4_unmark_X1_push : GoodIn wsX4_unmark (wsV RX4 53 RX1 yX1_push wsX1_push) := goodIn_app (goodIn_of _ (by decide +kernel)) ggX4_unmark_X1_push
set_option maxRecDepth 20000 in
theorem ggX4_unmark_X2_removeMark : GoodIn wsX4_unmark wsX2_removeMark := goodIn_r _ [39, 14, 34, 40, 41, 42, 12, 43, 35, 51, 52, 53, 54, 55, 56] (by decide +kernel) (by decide +kernel)
set_option maxRecDepth 20000 in
theorem gX4_unmark_X2_removeMark : GoodIn wsX4_unmark (wsV RX4 110 RX2 yX2_removeMark wsX2_removeMark) := goodIn_app (goodIn_of _ (by decide +kernel)) ggX4_unmark_X2_removeMark
theorem dX4_unmark_0 : decode cX4_unmark 0 = .ok (.aload_n 0, 1) := by decide +kernel
theorem dX4_unmark_1 : decode cX4_unmark 1 = .ok (.iload_n 1, 1) := by decide +kernel
theorem dX4_unmark_2 : decode cX4_unmark 2 = .ok (.invokevirtual 107, 3) := by decide +kernel
theorem dX4_unmark_5 : decode cX4_unmark 5 = .ok (.ifCond .ne 5, 3) := by decide +kernel
theorem dX4_unmark_8 : decode cX4_unmark 8 = .ok (.iconst (-1), 1) := by decide +kernel
theorem dX4_unmark_9 : decode cX4_unmark 9 = .ok (.ireturn, 1) := by decide +kernel
theorem dX4_unmark_10 : decode cX4_unmark 10 = .ok (.aload_n 0, 1) := by decide +kernel
theorem dX4_unmark_11 : decode cX4_unmark 11 = .ok (.getfield 37, 3) := by decide +kernel
theorem dX4_unmark_14 : decode cX4_unmark 14 = .ok (.aload_n 0, 1) := by decide +kernel
theorem dX4_unmark_15 : decode cX4_unmark 15 = .ok (.getfield 10, 3) := by decide +kernel
theorem dX4_unmark_18 : decode cX4_unmark 18 = .ok (.invokevirtual 53, 3) := by decide +kernel
theorem dX4_unmark_21 : decode cX4_unmark 21 = .ok (.aload_n 0, 1) := by decide +kernel
theorem dX4_unmark_22 : decode cX4_unmark 22 = .ok (.getfield 10, 3) := by decide +kernel
theorem dX4_unmark_25 : decode cX4_unmark 25 = .ok (.iload_n 1, 1) := by decide +kernel
theorem dX4_unmark_26 : decode cX4_unmark 26 = .ok (.invokevirtual 110, 3) := by decide +kernel
theorem dX4_unmark_29 : decode cX4_unmark 29 = .ok (.aload_n 0, 1) := by decide +kernel
theorem dX4_unmark_30 : decode cX4_unmark 30 = .ok (.getfield 10, 3) := by decide +kernel
theorem dX4_unmark_33 : decode cX4_unmark 33 = .ok (.getfield 90, 3) := by decide +kernel
theorem dX4_unmark_36 : decode cX4_unmark 36 = .ok (.ireturn, 1) := by decide +kernel
set_option maxRecDepth 20000 in
theorem ggX4_moveMark_X4_isMovable : GoodIn wsX4_moveMark wsX4_isMovable := goodIn_r _ [8, 1, 9, 10, 11, 12, 13, 14, 44, 45, 46, 47, 48, 49, 50, 51, 52, 53, 54, 55, 56] (by decide +kernel) (by decide +kernel)
set_option maxRecDepth 20000 in
theorem gX4_moveMark_X4_isMovable : GoodIn wsX4_moveMark (wsV RX4 107 RX4 yX4_isMovable wsX4_isMovable) := goodIn_app (goodIn_of _ (by decide +kernel)) ggX4_moveMark_X4_isMovable
set_option maxRecDepth 20000 in
theorem ggX4_moveMark_X2_isFrame : GoodIn wsX4_moveMark wsX2_isFrame := goodIn_r _ [18, 19, 51, 52, 53, 54, 55, 56] (by decide +kernel) (by decide +kernel)
set_option maxRecDepth 20000 in
theorem gX4_moveMark_X2_isFrame : GoodIn wsX4_moveMark (wsV RX4 64 RX2 yX2_isFrame wsX2_isFrame) := goodIn_app (goodIn_of _ (by decide +kernel)) ggX4_moveMark_X2_isFrame
set_option maxRecDepth 20000 in
theorem ggX4_moveMark_X2_endFrame : GoodIn wsX4_moveMark wsX2_endFrame := goodIn_r _ [23, 14, 24, 19, 51, 52, 53, 54, 55, 56] (by decide +kernel) (by decide +kernel)
set_option maxRecDepth 20000 in
theorem gX4_moveMark_X2_endFrame : GoodIn wsX4_moveMark (wsV RX4 113 RX2 yX2_endFrame wsX2_endFrame) := goodIn_app (goodIn_of _ (by decide +kernel)) ggX4_moveMark_X2_endFrame
set_option maxRecDepth 20000 in
theorem ggX4_moveMark_X1_push : GoodIn wsX4_moveMark wsX1_push := goodIn_r _ [29, 30, 31, 32, 33, 34, 35, 12, 36, 19, 14, 37, 38, 39, 40, 41, 42, 24, 43, 57, 58, 59, 51, 52, 53, 54, 55, 56] (by decide +kernel) (by decide +kernel)
set_option maxRecDepth 20000 in
theorem gX4_moveMark_X1_push : GoodIn wsX4_moveMark (wsV RX4 53 RX1 yX1_push wsX1_push) := goodIn_app (goodIn_of _ (by decide +kernel)) ggX4_moveMark_X1_push
theorem dX4_moveMark_0 : decode cX4_moveMark 0 = .ok (.aload_n 0, 1) := by decide +kernel
theorem dX4_moveMark_1 : decode cX4_moveMark 1 = .ok (.iload_n 1, 1) := by decide +kernel
theorem dX4_moveMark_2 : decode cX4_moveMark 2 = .ok (.invokevirtual 107, 3) := by decide +kernel
theorem dX4_moveMark_5 : decode cX4_moveMark 5 = .ok (.ifCond .eq 14, 3) := by decide +kernel
theorem dX4_moveMark_8 : decode cX4_moveMark 8 = .ok (.aload_n 0, 1) := by decide +kernel
theorem dX4_moveMark_9 : decode cX4_moveMark 9 = .ok (.getfield 10, 3) := by decide +kernel
theorem dX4_moveMark_12 : decode cX4_moveMark 12 = .ok (.iload_n 2, 1) := by decide +kernel
theorem dX4_moveMark_13 : decode cX4_moveMark 13 = .ok (.invokevirtual 64, 3) := by decide +kernel
theorem dX4_moveMark_16 : decode cX4_moveMark 16 = .ok (.ifCond .ne 5, 3) := by decide +kernel
theorem dX4_moveMark_19 : decode cX4_moveMark 19 = .ok (.iconst (-1), 1) := by decide +kernel
theorem dX4_moveMark_20 : decode cX4_moveMark 20 = .ok (.ireturn, 1) := by decide +kernel
theorem dX4_moveMark_21 : decode cX4_moveMark 21 = .ok (.iload_n 2, 1) := by decide +kernel
theorem dX4_moveMark_22 : decode cX4_moveMark 22 = .ok (.aload_n 0, 1) := by decide +kernel
theorem dX4_moveMark_23 : decode cX4_moveMark 23 = .ok (.getfield 10, 3) := by decide +kernel
theorem dX4_moveMark_26 : decode cX4_moveMark 26 = .ok (.getfield 83, 3) := by decide +kernel
theorem dX4_moveMark_29 : decode cX4_moveMark 29 = .ok (.iload_n 1, 1) := by decide +kernel
theorem dX4_moveMark_30 : decode cX4_moveMark 30 = .ok (.iconst 1, 1) := by decide +kernel
theorem dX4_moveMark_31 : decode cX4_moveMark 31 = .ok (.isub, 1) := by decide +kernel
theorem dX4_moveMark_32 : decode cX4_moveMark 32 = .ok (.iaload, 1) := by decide +kernel
theorem dX4_moveMark_33 : decode cX4_moveMark 33 = .ok (.if_icmp .le 15, 3) := by decide +kernel
theorem dX4_moveMark_36 : decode cX4_moveMark 36 = .ok (.iload_n 2, 1) := by decide +kernel
theorem dX4_moveMark_37 : decode cX4_moveMark 37 = .ok (.aload_n 0, 1) := by decide +kernel
theorem dX4_moveMark_38 : decode cX4_moveMark 38 = .ok (.getfield 10, 3) := by decide +kernel
theorem dX4_moveMark_41 : decode cX4_moveMark 41 = .ok (.iload_n 1, 1) := by decide +kernel
theorem dX4_moveMark_42 : decode cX4_moveMark 42 = .ok (.invokevirtual 113, 3) := by decide +kernel
theorem dX4_moveMark_45 : decode cX4_moveMark 45 = .ok (.if_icmp .lt 6, 3) := by decide +kernel
theorem dX4_moveMark_48 : decode cX4_moveMark 48 = .ok (.bipush (-2), 2) := by decide +kernel
theorem dX4_moveMark_50 : decode cX4_moveMark 50 = .ok (.ireturn, 1) := by decide +kernel
theorem dX4_moveMark_51 : decode cX4_moveMark 51 = .ok (.aload_n 0, 1) := by decide +kernel
theorem dX4_moveMark_52 : decode cX4_moveMark 52 = .ok (.getfield 37, 3) := by decide +kernel
theorem dX4_moveMark_55 : decode cX4_moveMark 55 = .ok (.aload_n 0, 1) := by decide +kernel
theorem dX4_moveMark_56 : decode cX4_moveMark 56 = .ok (.getfield 10, 3) := by decide +kernel
theorem dX4_moveMark_59 : decode cX4_moveMark 59 = .ok (.invokevirtual 53, 3) := by decide +kernel
theorem dX4_moveMark_62 : decode cX4_moveMark 62 = .ok (.aload_n 0, 1) := by decide +kernel
theorem dX4_moveMark_63 : decode cX4_moveMark 63 = .ok (.getfield 10, 3) := by decide +kernel
theorem dX4_moveMark_66 : decode cX4_moveMark 66 = .ok (.getfield 83, 3) := by decide +kernel
theorem dX4_moveMark_69 : decode cX4_moveMark 69 = .ok (.iload_n 1, 1) := by decide +kernel
theorem dX4_moveMark_70 : decode cX4_moveMark 70 = .ok (.iaload, 1) := by decide +kernel
theorem dX4_moveMark_71 : decode cX4_moveMark 71 = .ok (.istore_n 3, 1) := by decide +kernel
theorem dX4_moveMark_72 : decode cX4_moveMark 72 = .ok (.aload_n 0, 1) := by decide +kernel
theorem dX4_moveMark_73 : decode cX4_moveMark 73 = .ok (.getfield 10, 3) := by decide +kernel
theorem dX4_moveMark_76 : decode cX4_moveMark 76 = .ok (.getfield 83, 3) := by decide +kernel
theorem dX4_moveMark_79 : decode cX4_moveMark 79 = .ok (.iload_n 1, 1) := by decide +kernel
theorem dX4_moveMark_80 : decode cX4_moveMark 80 = .ok (.iload_n 2, 1) := by decide +kernel
theorem dX4_moveMark_81 : decode cX4_moveMark 81 = .ok (.iastore, 1) := by decide +kernel
theorem dX4_moveMark_82 : decode cX4_moveMark 82 = .ok (.iload_n 3, 1) := by decide +kernel
theorem dX4_moveMark_83 : decode cX4_moveMark 83 = .ok (.ireturn, 1) := by decide +kernel
set_option maxRecDepth 20000 in
theorem ggX4_swap_X2_isSlice : GoodIn wsX4_swap wsX2_isSlice := goodIn_r _ [8, 9, 42, 43, 44, 45, 46, 47] (by decide +kernel) (by decide +kernel)
set_option maxRecDepth 20000 in
theorem gX4_swap_X2_isSlice : GoodIn wsX4_swap (wsV RX4 100 RX2 yX2_isSlice wsX2_isSlice) := goodIn_app (goodIn_of _ (by decide +kernel)) ggX4_swap_X2_isSlice
set_option maxRecDepth 20000 in
theorem ggX4_swap_X1_push : GoodIn wsX4_swap wsX1_push := goodIn_r _ [14, 15, 16, 17, 18, 19, 20, 7, 21, 22, 9, 23, 24, 25, 26, 27, 28, 29, 30, 48, 49, 50, 42, 43, 44, 45, 46, 47] (by decide +kernel) (by decide +kernel)
set_option maxRecDepth 20000 in
theorem gX4_swap_X1_push : GoodIn wsX4_swap (wsV RX4 53 RX1 yX1_push wsX1_push) := goodIn_app (goodIn_of _ (by decide +kernel)) ggX4_swap_X1_push
set_option maxRecDepth 20000 in
theorem ggX4_swap_X2_exchange : GoodIn wsX4_swap wsX2_exchange := goodIn_r _ [34, 30, 42, 43, 44, 45, 46, 47] (by decide +kernel) (by decide +kernel)
set_option maxRecDepth 20000 in
theorem gX4_swap_X2_exchange : GoodIn wsX4_swap (wsV RX4 116 RX2 yX2_exchange wsX2_exchange) := goodIn_app (goodIn_of _ (by decide +kernel)) ggX4_swap_X2_exchange
theorem dX4_swap_0 : decode cX4_swap 0 = .ok (.aload_n 0, 1) := by decide +kernel
theorem dX4_swap_1 : decode cX4_swap 1 = .ok (.getfield 10, 3) := by decide +kernel
theorem dX4_swap_4 : decode cX4_swap 4 = .ok (.iload_n 1, 1) := by decide +kernel
theorem dX4_swap_5 : decode cX4_swap 5 = .ok (.invokevirtual 100, 3) := by decide +kernel
theorem dX4_swap_8 : decode cX4_swap 8 = .ok (.ifCond .eq 14, 3) := by decide +kernel
theorem dX4_swap_11 : decode cX4_swap 11 = .ok (.aload_n 0, 1) := by decide +kernel
theorem dX4_swap_12 : decode cX4_swap 12 = .ok (.getfield 10, 3) := by decide +kernel
theorem dX4_swap_15 : decode cX4_swap 15 = .ok (.iload_n 2, 1) := by decide +kernel
theorem dX4_swap_16 : decode cX4_swap 16 = .ok (.invokevirtual 100, 3) := by decide +kernel
theorem dX4_swap_19 : decode cX4_swap 19 = .ok (.ifCond .ne 5, 3) := by decide +kernel
theorem dX4_swap_22 : decode cX4_swap 22 = .ok (.iconst (-1), 1) := by decide +kernel
theorem dX4_swap_23 : decode cX4_swap 23 = .ok (.ireturn, 1) := by decide +kernel
theorem dX4_swap_24 : decode cX4_swap 24 = .ok (.aload_n 0, 1) := by decide +kernel
theorem dX4_swap_25 : decode cX4_swap 25 = .ok (.getfield 37, 3) := by decide +kernel
theorem dX4_swap_28 : decode cX4_swap 28 = .ok (.aload_n 0, 1) := by decide +kernel
theorem dX4_swap_29 : decode cX4_swap 29 = .ok (.getfield 10, 3) := by decide +kernel
theorem dX4_swap_32 : decode cX4_swap 32 = .ok (.invokevirtual 53, 3) := by decide +kernel
theorem dX4_swap_35 : decode cX4_swap 35 = .ok (.aload_n 0, 1) := by decide +kernel
theorem dX4_swap_36 : decode cX4_swap 36 = .ok (.getfield 10, 3) := by decide +kernel
theorem dX4_swap_39 : decode cX4_swap 39 = .ok (.iload_n 1, 1) := by decide +kernel
theorem dX4_swap_40 : decode cX4_swap 40 = .ok (.iload_n 2, 1) := by decide +kernel
theorem dX4_swap_41 : decode cX4_swap 41 = .ok (.invokevirtual 116, 3) := by decide +kernel
theorem dX4_swap_44 : decode cX4_swap 44 = .ok (.aload_n 0, 1) := by decide +kernel
theorem dX4_swap_45 : decode cX4_swap 45 = .ok (.getfield 10, 3) := by decide +kernel
theorem dX4_swap_48 : decode cX4_swap 48 = .ok (.getfield 119, 3) := by decide +kernel
theorem dX4_swap_51 : decode cX4_swap 51 = .ok (.iload_n 1, 1) := by decide +kernel
theorem dX4_swap_52 : decode cX4_swap 52 = .ok (.iaload, 1) := by decide +kernel
theorem dX4_swap_53 : decode cX4_swap 53 = .ok (.ireturn, 1) := by decide +kernel
set_option maxRecDepth 20000 in
theorem ggX4_reverse_X1_push : GoodIn wsX4_reverse wsX1_push := goodIn_r _ [9, 10, 11, 12, 13, 14, 15, 16, 17, 18, 19, 20, 21, 22, 23, 24, 25, 26, 27, 45, 46, 47, 39, 40, 41, 42, 43, 44] (by decide +kernel) (by decide +kernel)
set_option maxRecDepth 20000 in
theorem gX4_reverse_X1_push : GoodIn wsX4_reverse (wsV RX4 53 RX1 yX1_push wsX1_push) := goodIn_app (goodIn_of _ (by decide +kernel)) ggX4_reverse_X1_push
set_option maxRecDepth 20000 in
theorem ggX4_reverse_X2_exchange : GoodIn wsX4_reverse wsX2_exchange := goodIn_r _ [31, 27, 39, 40, 41, 42, 43, 44] (by decide +kernel) (by decide +kernel)
set_option maxRecDepth 20000 in
theorem gX4_reverse_X2_exchange : GoodIn wsX4_reverse (wsV RX4 116 RX2 yX2_exchange wsX2_exchange) := goodIn_app (goodIn_of _ (by decide +kernel)) ggX4_reverse_X2_exchange
theorem dX4_reverse_0 : decode cX4_reverse 0 = .ok (.aload_n 0, 1) := by decide +kernel
theorem dX4_reverse_1 : decode cX4_reverse 1 = .ok (.getfield 37, 3) := by decide +kernel
theorem dX4_reverse_4 : decode cX4_reverse 4 = .ok (.aload_n 0, 1) := by decide +kernel
theorem dX4_reverse_5 : decode cX4_reverse 5 = .ok (.getfield 10, 3) := by decide +kernel
theorem dX4_reverse_8 : decode cX4_reverse 8 = .ok (.invokevirtual 53, 3) := by decide +kernel
theorem dX4_reverse_11 : decode cX4_reverse 11 = .ok (.iconst 0, 1) := by decide +kernel
theorem dX4_reverse_12 : decode cX4_reverse 12 = .ok (.istore_n 1, 1) := by decide +kernel
theorem dX4_reverse_13 : decode cX4_reverse 13 = .ok (.iload_n 1, 1) := by decide +kernel
theorem dX4_reverse_14 : decode cX4_reverse 14 = .ok (.aload_n 0, 1) := by decide +kernel
theorem dX4_reverse_15 : decode cX4_reverse 15 = .ok (.getfield 10, 3) := by decide +kernel
theorem dX4_reverse_18 : decode cX4_reverse 18 = .ok (.getfield 90, 3) := by decide +kernel
theorem dX4_reverse_21 : decode cX4_reverse 21 = .ok (.iconst 2, 1) := by decide +kernel
theorem dX4_reverse_22 : decode cX4_reverse 22 = .ok (.idiv, 1) := by decide +kernel
theorem dX4_reverse_23 : decode cX4_reverse 23 = .ok (.if_icmp .ge 28, 3) := by decide +kernel
theorem dX4_reverse_26 : decode cX4_reverse 26 = .ok (.aload_n 0, 1) := by decide +kernel
theorem dX4_reverse_27 : decode cX4_reverse 27 = .ok (.getfield 10, 3) := by decide +kernel
theorem dX4_reverse_30 : decode cX4_reverse 30 = .ok (.iload_n 1, 1) := by decide +kernel
theorem dX4_reverse_31 : decode cX4_reverse 31 = .ok (.aload_n 0, 1) := by decide +kernel
theorem dX4_reverse_32 : decode cX4_reverse 32 = .ok (.getfield 10, 3) := by decide +kernel
theorem dX4_reverse_35 : decode cX4_reverse 35 = .ok (.getfield 90, 3) := by decide +kernel
theorem dX4_reverse_38 : decode cX4_reverse 38 = .ok (.iconst 1, 1) := by decide +kernel
theorem dX4_reverse_39 : decode cX4_reverse 39 = .ok (.isub, 1) := by decide +kernel
theorem dX4_reverse_40 : decode cX4_reverse 40 = .ok (.iload_n 1, 1) := by decide +kernel
theorem dX4_reverse_41 : decode cX4_reverse 41 = .ok (.isub, 1) := by decide +kernel
theorem dX4_reverse_42 : decode cX4_reverse 42 = .ok (.invokevirtual 116, 3) := by decide +kernel
theorem dX4_reverse_45 : decode cX4_reverse 45 = .ok (.iinc 1 1, 3) := by decide +kernel
theorem dX4_reverse_48 : decode cX4_reverse 48 = .ok (.goto (-35), 3) := by decide +kernel
theorem dX4_reverse_51 : decode cX4_reverse 51 = .ok (.aload_n 0, 1) := by decide +kernel
theorem dX4_reverse_52 : decode cX4_reverse 52 = .ok (.getfield 10, 3) := by decide +kernel
theorem dX4_reverse_55 : decode cX4_reverse 55 = .ok (.getfield 119, 3) := by decide +kernel
theorem dX4_reverse_58 : decode cX4_reverse 58 = .ok (.iconst 0, 1) := by decide +kernel
theorem dX4_reverse_59 : decode cX4_reverse 59 = .ok (.iaload, 1) := by decide +kernel
theorem dX4_reverse_60 : decode cX4_reverse 60 = .ok (.ireturn, 1) := by decide +kernel
set_option maxRecDepth 20000 in
theorem ggX4_undo_X1_pop : GoodIn wsX4_undo wsX1_pop := goodIn_r _ [8, 9, 10, 11, 12, 13, 14, 15, 16, 17, 18, 19, 20, 21, 22, 23, 24, 25, 26, 34, 35, 36, 37, 38, 39, 40, 41, 42] (by decide +kernel) (by decide +kernel)
set_option maxRecDepth 20000 in
theorem gX4_undo_X1_pop : GoodIn wsX4_undo (wsV RX4 125 RX1 yX1_pop wsX1_pop) := goodIn_app (goodIn_of _ (by decide +kernel)) ggX4_undo_X1_pop
theorem dX4_undo_0 : decode cX4_undo 0 = .ok (.aload_n 0, 1) := by decide +kernel
theorem dX4_undo_1 : decode cX4_undo 1 = .ok (.getfield 37, 3) := by decide +kernel
theorem dX4_undo_4 : decode cX4_undo 4 = .ok (.getfield 122, 3) := by decide +kernel
theorem dX4_undo_7 : decode cX4_undo 7 = .ok (.ifCond .ne 6, 3) := by decide +kernel
theorem dX4_undo_10 : decode cX4_undo 10 = .ok (.bipush (-2), 2) := by decide +kernel
theorem dX4_undo_12 : decode cX4_undo 12 = .ok (.ireturn, 1) := by decide +kernel
theorem dX4_undo_13 : decode cX4_undo 13 = .ok (.aload_n 0, 1) := by decide +kernel
theorem dX4_undo_14 : decode cX4_undo 14 = .ok (.getfield 37, 3) := by decide +kernel
theorem dX4_undo_17 : decode cX4_undo 17 = .ok (.aload_n 0, 1) := by decide +kernel
theorem dX4_undo_18 : decode cX4_undo 18 = .ok (.getfield 10, 3) := by decide +kernel
theorem dX4_undo_21 : decode cX4_undo 21 = .ok (.invokevirtual 125, 3) := by decide +kernel
theorem dX4_undo_24 : decode cX4_undo 24 = .ok (.aload_n 0, 1) := by decide +kernel
theorem dX4_undo_25 : decode cX4_undo 25 = .ok (.getfield 37, 3) := by decide +kernel
theorem dX4_undo_28 : decode cX4_undo 28 = .ok (.getfield 122, 3) := by decide +kernel
theorem dX4_undo_31 : decode cX4_undo 31 = .ok (.ireturn, 1) := by decide +kernel
set_option maxRecDepth 20000 in
theorem ggX4_told_X3_lay : GoodIn wsX4_told wsX3_lay := goodIn_r _ [12, 13, 14, 15, 16, 17, 18, 19, 20, 21, 22, 23, 24, 25, 11, 26, 27, 28, 29, 30, 31, 32, 33, 34, 35, 36, 37, 38, 39, 40, 41, 42, 43, 44, 45, 46, 47, 48, 49, 50, 51, 52, 53, 54, 55, 56, 57, 58, 59, 60, 61, 62, 63, 64, 65, 66, 67, 68, 69, 70, 71, 72, 73, 74, 75, 76, 77, 78, 79, 80, 81, 82, 83, 84, 85, 86, 87, 88, 89, 90, 91, 92, 93, 94, 95, 96, 97, 98, 99, 100, 101, 102, 103, 104, 105, 106, 107, 108, 109, 110, 145, 146, 147, 148, 136, 137, 138, 139, 140, 141, 149, 150, 151, 152, 153, 154, 155, 156] (by decide +kernel) (by decide +kernel)
set_option maxRecDepth 20000 in
theorem gX4_told_X3_lay : GoodIn wsX4_told (wsV RX4 128 RX3 yX3_lay wsX3_lay) := goodIn_app (goodIn_of _ (by decide +kernel)) ggX4_told_X3_lay
set_option maxRecDepth 20000 in
theorem ggX4_told_X3_countBeyondLimits : GoodIn wsX4_told wsX3_countBeyondLimits := goodIn_r _ [114, 13, 15, 16, 30, 31, 32, 20, 33, 34, 22, 35, 36, 37, 38, 39, 40, 115, 71, 72, 73, 116, 75, 76, 77, 145, 146, 147, 148, 136, 137, 138, 139, 140, 141] (by decide +kernel) (by decide +kernel)
set_option maxRecDepth 20000 in
theorem gX4_told_X3_countBeyondLimits : GoodIn wsX4_told (wsV RX4 132 RX3 yX3_countBeyondLimits wsX3_countBeyondLimits) := goodIn_app (goodIn_of _ (by decide +kernel)) ggX4_told_X3_countBeyondLimits
set_option maxRecDepth 20000 in
theorem ggX4_told_X3_sumFades : GoodIn wsX4_told wsX3_sumFades := goodIn_r _ [120, 13, 15, 121, 122, 123, 11, 124, 16, 125, 27, 126, 127, 96, 128, 145, 146, 147, 148, 136, 137, 138, 139, 140, 141] (by decide +kernel) (by decide +kernel)
set_option maxRecDepth 20000 in
theorem gX4_told_X3_sumFades : GoodIn wsX4_told (wsV RX4 136 RX3 yX3_sumFades wsX3_sumFades) := goodIn_app (goodIn_of _ (by decide +kernel)) ggX4_told_X3_sumFades
theorem dX4_told_0 : decode cX4_told 0 = .ok (.iload_n 1, 1) := by decide +kernel
theorem dX4_told_1 : decode cX4_told 1 = .ok (.tableswitch 147 0 6 #[43, 51, 69, 77, 93, 116, 139], 43) := by decide +kernel
theorem dX4_told_44 : decode cX4_told 44 = .ok (.aload_n 0, 1) := by decide +kernel
theorem dX4_told_45 : decode cX4_told 45 = .ok (.getfield 10, 3) := by decide +kernel
theorem dX4_told_48 : decode cX4_told 48 = .ok (.getfield 56, 3) := by decide +kernel
theorem dX4_told_51 : decode cX4_told 51 = .ok (.ireturn, 1) := by decide +kernel
theorem dX4_told_52 : decode cX4_told 52 = .ok (.aload_n 0, 1) := by decide +kernel
theorem dX4_told_53 : decode cX4_told 53 = .ok (.getfield 10, 3) := by decide +kernel
theorem dX4_told_56 : decode cX4_told 56 = .ok (.getfield 56, 3) := by decide +kernel
theorem dX4_told_59 : decode cX4_told 59 = .ok (.aload_n 0, 1) := by decide +kernel
theorem dX4_told_60 : decode cX4_told 60 = .ok (.getfield 10, 3) := by decide +kernel
theorem dX4_told_63 : decode cX4_told 63 = .ok (.getfield 80, 3) := by decide +kernel
theorem dX4_told_66 : decode cX4_told 66 = .ok (.iconst 0, 1) := by decide +kernel
theorem dX4_told_67 : decode cX4_told 67 = .ok (.iaload, 1) := by decide +kernel
theorem dX4_told_68 : decode cX4_told 68 = .ok (.imul, 1) := by decide +kernel
theorem dX4_told_69 : decode cX4_told 69 = .ok (.ireturn, 1) := by decide +kernel
theorem dX4_told_70 : decode cX4_told 70 = .ok (.aload_n 0, 1) := by decide +kernel
theorem dX4_told_71 : decode cX4_told 71 = .ok (.getfield 10, 3) := by decide +kernel
theorem dX4_told_74 : decode cX4_told 74 = .ok (.getfield 90, 3) := by decide +kernel
theorem dX4_told_77 : decode cX4_told 77 = .ok (.ireturn, 1) := by decide +kernel
theorem dX4_told_78 : decode cX4_told 78 = .ok (.aload_n 0, 1) := by decide +kernel
theorem dX4_told_79 : decode cX4_told 79 = .ok (.getfield 30, 3) := by decide +kernel
theorem dX4_told_82 : decode cX4_told 82 = .ok (.invokevirtual 128, 3) := by decide +kernel
theorem dX4_told_85 : decode cX4_told 85 = .ok (.ifCond .eq 7, 3) := by decide +kernel
theorem dX4_told_88 : decode cX4_told 88 = .ok (.iconst 1, 1) := by decide +kernel
theorem dX4_told_89 : decode cX4_told 89 = .ok (.goto 4, 3) := by decide +kernel
theorem dX4_told_92 : decode cX4_told 92 = .ok (.iconst 0, 1) := by decide +kernel
theorem dX4_told_93 : decode cX4_told 93 = .ok (.ireturn, 1) := by decide +kernel
theorem dX4_told_94 : decode cX4_told 94 = .ok (.aload_n 0, 1) := by decide +kernel
theorem dX4_told_95 : decode cX4_told 95 = .ok (.getfield 30, 3) := by decide +kernel
theorem dX4_told_98 : decode cX4_told 98 = .ok (.invokevirtual 128, 3) := by decide +kernel
theorem dX4_told_101 : decode cX4_told 101 = .ok (.ifCond .eq 13, 3) := by decide +kernel
theorem dX4_told_104 : decode cX4_told 104 = .ok (.aload_n 0, 1) := by decide +kernel
theorem dX4_told_105 : decode cX4_told 105 = .ok (.getfield 30, 3) := by decide +kernel
theorem dX4_told_108 : decode cX4_told 108 = .ok (.invokevirtual 132, 3) := by decide +kernel
theorem dX4_told_111 : decode cX4_told 111 = .ok (.goto 5, 3) := by decide +kernel
theorem dX4_told_114 : decode cX4_told 114 = .ok (.bipush (-9), 2) := by decide +kernel
theorem dX4_told_116 : decode cX4_told 116 = .ok (.ireturn, 1) := by decide +kernel
theorem dX4_told_117 : decode cX4_told 117 = .ok (.aload_n 0, 1) := by decide +kernel
theorem dX4_told_118 : decode cX4_told 118 = .ok (.getfield 30, 3) := by decide +kernel
theorem dX4_told_121 : decode cX4_told 121 = .ok (.invokevirtual 128, 3) := by decide +kernel
theorem dX4_told_124 : decode cX4_told 124 = .ok (.ifCond .eq 13, 3) := by decide +kernel
theorem dX4_told_127 : decode cX4_told 127 = .ok (.aload_n 0, 1) := by decide +kernel
theorem dX4_told_128 : decode cX4_told 128 = .ok (.getfield 30, 3) := by decide +kernel
theorem dX4_told_131 : decode cX4_told 131 = .ok (.invokevirtual 136, 3) := by decide +kernel
theorem dX4_told_134 : decode cX4_told 134 = .ok (.goto 5, 3) := by decide +kernel
theorem dX4_told_137 : decode cX4_told 137 = .ok (.bipush (-9), 2) := by decide +kernel
theorem dX4_told_139 : decode cX4_told 139 = .ok (.ireturn, 1) := by decide +kernel
theorem dX4_told_140 : decode cX4_told 140 = .ok (.aload_n 0, 1) := by decide +kernel
theorem dX4_told_141 : decode cX4_told 141 = .ok (.getfield 37, 3) := by decide +kernel
theorem dX4_told_144 : decode cX4_told 144 = .ok (.getfield 122, 3) := by decide +kernel
theorem dX4_told_147 : decode cX4_told 147 = .ok (.ireturn, 1) := by decide +kernel
theorem dX4_told_148 : decode cX4_told 148 = .ok (.iconst (-1), 1) := by decide +kernel
theorem dX4_told_149 : decode cX4_told 149 = .ok (.ireturn, 1) := by decide +kernel
set_option maxRecDepth 20000 in
theorem ggX4_setting_X4_isSetting : GoodIn wsX4_setting wsX4_isSetting := goodIn_r _ [6] (by decide +kernel) (by decide +kernel)
set_option maxRecDepth 20000 in
theorem gX4_setting_X4_isSetting : GoodIn wsX4_setting (va_wsS RX4 71 yX4_isSetting wsX4_isSetting) := goodIn_app (goodIn_of _ (by decide +kernel)) ggX4_setting_X4_isSetting
theorem dX4_setting_0 : decode cX4_setting 0 = .ok (.iload_n 1, 1) := by decide +kernel
theorem dX4_setting_1 : decode cX4_setting 1 = .ok (.invokestatic 71, 3) := by decide +kernel
theorem dX4_setting_4 : decode cX4_setting 4 = .ok (.ifCond .eq 15, 3) := by decide +kernel
theorem dX4_setting_7 : decode cX4_setting 7 = .ok (.aload_n 0, 1) := by decide +kernel
theorem dX4_setting_8 : decode cX4_setting 8 = .ok (.getfield 10, 3) := by decide +kernel
theorem dX4_setting_11 : decode cX4_setting 11 = .ok (.getfield 80, 3) := by decide +kernel
theorem dX4_setting_14 : decode cX4_setting 14 = .ok (.iload_n 1, 1) := by decide +kernel
theorem dX4_setting_15 : decode cX4_setting 15 = .ok (.iaload, 1) := by decide +kernel
theorem dX4_setting_16 : decode cX4_setting 16 = .ok (.goto 4, 3) := by decide +kernel
theorem dX4_setting_19 : decode cX4_setting 19 = .ok (.iconst (-1), 1) := by decide +kernel
theorem dX4_setting_20 : decode cX4_setting 20 = .ok (.ireturn, 1) := by decide +kernel
set_option maxRecDepth 20000 in
theorem ggX4_energy_X2_isFrame : GoodIn wsX4_energy wsX2_isFrame := goodIn_r _ [7, 8, 16, 17, 18, 19, 20, 21] (by decide +kernel) (by decide +kernel)
set_option maxRecDepth 20000 in
theorem gX4_energy_X2_isFrame : GoodIn wsX4_energy (wsV RX4 64 RX2 yX2_isFrame wsX2_isFrame) := goodIn_app (goodIn_of _ (by decide +kernel)) ggX4_energy_X2_isFrame
theorem dX4_energy_0 : decode cX4_energy 0 = .ok (.aload_n 0, 1) := by decide +kernel
theorem dX4_energy_1 : decode cX4_energy 1 = .ok (.getfield 10, 3) := by decide +kernel
theorem dX4_energy_4 : decode cX4_energy 4 = .ok (.iload_n 1, 1) := by decide +kernel
theorem dX4_energy_5 : decode cX4_energy 5 = .ok (.invokevirtual 64, 3) := by decide +kernel
theorem dX4_energy_8 : decode cX4_energy 8 = .ok (.ifCond .eq 15, 3) := by decide +kernel
theorem dX4_energy_11 : decode cX4_energy 11 = .ok (.aload_n 0, 1) := by decide +kernel
theorem dX4_energy_12 : decode cX4_energy 12 = .ok (.getfield 10, 3) := by decide +kernel
theorem dX4_energy_15 : decode cX4_energy 15 = .ok (.getfield 68, 3) := by decide +kernel
theorem dX4_energy_18 : decode cX4_energy 18 = .ok (.iload_n 1, 1) := by decide +kernel
theorem dX4_energy_19 : decode cX4_energy 19 = .ok (.iaload, 1) := by decide +kernel
theorem dX4_energy_20 : decode cX4_energy 20 = .ok (.goto 4, 3) := by decide +kernel
theorem dX4_energy_23 : decode cX4_energy 23 = .ok (.iconst (-1), 1) := by decide +kernel
theorem dX4_energy_24 : decode cX4_energy 24 = .ok (.ireturn, 1) := by decide +kernel
set_option maxRecDepth 20000 in
theorem ggX4_slice_X2_isSlice : GoodIn wsX4_slice wsX2_isSlice := goodIn_r _ [11, 12, 146, 147, 148, 149, 150, 151] (by decide +kernel) (by decide +kernel)
set_option maxRecDepth 20000 in
theorem gX4_slice_X2_isSlice : GoodIn wsX4_slice (wsV RX4 100 RX2 yX2_isSlice wsX2_isSlice) := goodIn_app (goodIn_of _ (by decide +kernel)) ggX4_slice_X2_isSlice
set_option maxRecDepth 20000 in
theorem ggX4_slice_X2_lengthOf : GoodIn wsX4_slice wsX2_lengthOf := goodIn_r _ [16, 17, 18, 19, 20, 21, 10, 22, 12, 23, 146, 147, 148, 149, 150, 151] (by decide +kernel) (by decide +kernel)
set_option maxRecDepth 20000 in
theorem gX4_slice_X2_lengthOf : GoodIn wsX4_slice (wsV RX4 139 RX2 yX2_lengthOf wsX2_lengthOf) := goodIn_app (goodIn_of _ (by decide +kernel)) ggX4_slice_X2_lengthOf
set_option maxRecDepth 20000 in
theorem ggX4_slice_X3_lay : GoodIn wsX4_slice wsX3_lay := goodIn_r _ [28, 29, 30, 31, 32, 33, 34, 35, 10, 36, 18, 37, 38, 39, 27, 40, 41, 42, 43, 44, 14, 15, 16, 17, 19, 20, 21, 22, 12, 23, 45, 46, 47, 48, 49, 50, 51, 52, 53, 54, 55, 56, 57, 58, 59, 60, 61, 62, 63, 64, 65, 66, 67, 68, 69, 70, 71, 72, 73, 74, 75, 76, 77, 78, 79, 80, 81, 82, 83, 84, 85, 86, 87, 88, 89, 90, 91, 92, 93, 94, 95, 96, 97, 98, 99, 100, 101, 102, 103, 104, 105, 106, 107, 108, 109, 110, 111, 112, 113, 114, 152, 153, 154, 155, 146, 147, 148, 149, 150, 151, 156, 157, 158, 159, 160, 161, 162, 163] (by decide +kernel) (by decide +kernel)
set_option maxRecDepth 20000 in
theorem gX4_slice_X3_lay : GoodIn wsX4_slice (wsV RX4 128 RX3 yX3_lay wsX3_lay) := goodIn_app (goodIn_of _ (by decide +kernel)) ggX4_slice_X3_lay
set_option maxRecDepth 20000 in
theorem ggX4_slice_X2_isFree : GoodIn wsX4_slice wsX2_isFree := goodIn_r _ [36, 18, 146, 147, 148, 149, 150, 151] (by decide +kernel) (by decide +kernel)
set_option maxRecDepth 20000 in
theorem gX4_slice_X2_isFree : GoodIn wsX4_slice (wsV RX4 145 RX2 yX2_isFree wsX2_isFree) := goodIn_app (goodIn_of _ (by decide +kernel)) ggX4_slice_X2_isFree
set_option maxRecDepth 20000 in
theorem ggX4_slice_X3_beginOf : GoodIn wsX4_slice wsX3_beginOf := goodIn_r _ [119, 29, 32, 120, 121, 122, 123, 10, 124, 12, 125, 152, 153, 154, 155, 146, 147, 148, 149, 150, 151] (by decide +kernel) (by decide +kernel)
set_option maxRecDepth 20000 in
theorem gX4_slice_X3_beginOf : GoodIn wsX4_slice (wsV RX4 151 RX3 yX3_beginOf wsX3_beginOf) := goodIn_app (goodIn_of _ (by decide +kernel)) ggX4_slice_X3_beginOf
set_option maxRecDepth 20000 in
theorem ggX4_slice_X2_placeOf : GoodIn wsX4_slice wsX2_placeOf := goodIn_r _ [124, 12, 125, 146, 147, 148, 149, 150, 151] (by decide +kernel) (by decide +kernel)
set_option maxRecDepth 20000 in
theorem gX4_slice_X2_placeOf : GoodIn wsX4_slice (wsV RX4 154 RX2 yX2_placeOf wsX2_placeOf) := goodIn_app (goodIn_of _ (by decide +kernel)) ggX4_slice_X2_placeOf
set_option maxRecDepth 20000 in
theorem ggX4_slice_X3_fadeAt : GoodIn wsX4_slice wsX3_fadeAt := goodIn_r _ [130, 29, 31, 32, 120, 41, 131, 132, 100, 133, 152, 153, 154, 155, 146, 147, 148, 149, 150, 151] (by decide +kernel) (by decide +kernel)
set_option maxRecDepth 20000 in
theorem gX4_slice_X3_fadeAt : GoodIn wsX4_slice (wsV RX4 157 RX3 yX3_fadeAt wsX3_fadeAt) := goodIn_app (goodIn_of _ (by decide +kernel)) ggX4_slice_X3_fadeAt
set_option maxRecDepth 20000 in
theorem ggX4_slice_X2_loudestFrame : GoodIn wsX4_slice wsX2_loudestFrame := goodIn_r _ [137, 17, 138, 19, 20, 21, 10, 22, 12, 23, 146, 147, 148, 149, 150, 151] (by decide +kernel) (by decide +kernel)
set_option maxRecDepth 20000 in
theorem gX4_slice_X2_loudestFrame : GoodIn wsX4_slice (wsV RX4 160 RX2 yX2_loudestFrame wsX2_loudestFrame) := goodIn_app (goodIn_of _ (by decide +kernel)) ggX4_slice_X2_loudestFrame
theorem dX4_slice_0 : decode cX4_slice 0 = .ok (.aload_n 0, 1) := by decide +kernel
theorem dX4_slice_1 : decode cX4_slice 1 = .ok (.getfield 10, 3) := by decide +kernel
theorem dX4_slice_4 : decode cX4_slice 4 = .ok (.iload_n 1, 1) := by decide +kernel
theorem dX4_slice_5 : decode cX4_slice 5 = .ok (.invokevirtual 100, 3) := by decide +kernel
theorem dX4_slice_8 : decode cX4_slice 8 = .ok (.ifCond .ne 5, 3) := by decide +kernel
theorem dX4_slice_11 : decode cX4_slice 11 = .ok (.iconst (-1), 1) := by decide +kernel
theorem dX4_slice_12 : decode cX4_slice 12 = .ok (.ireturn, 1) := by decide +kernel
theorem dX4_slice_13 : decode cX4_slice 13 = .ok (.iload_n 2, 1) := by decide +kernel
theorem dX4_slice_14 : decode cX4_slice 14 = .ok (.tableswitch 198 0 7 #[46, 56, 65, 90, 125, 149, 158, 189], 46) := by decide +kernel
theorem dX4_slice_60 : decode cX4_slice 60 = .ok (.aload_n 0, 1) := by decide +kernel
theorem dX4_slice_61 : decode cX4_slice 61 = .ok (.getfield 10, 3) := by decide +kernel
theorem dX4_slice_64 : decode cX4_slice 64 = .ok (.getfield 83, 3) := by decide +kernel
theorem dX4_slice_67 : decode cX4_slice 67 = .ok (.iload_n 1, 1) := by decide +kernel
theorem dX4_slice_68 : decode cX4_slice 68 = .ok (.iaload, 1) := by decide +kernel
theorem dX4_slice_69 : decode cX4_slice 69 = .ok (.ireturn, 1) := by decide +kernel
theorem dX4_slice_70 : decode cX4_slice 70 = .ok (.aload_n 0, 1) := by decide +kernel
theorem dX4_slice_71 : decode cX4_slice 71 = .ok (.getfield 10, 3) := by decide +kernel
theorem dX4_slice_74 : decode cX4_slice 74 = .ok (.iload_n 1, 1) := by decide +kernel
theorem dX4_slice_75 : decode cX4_slice 75 = .ok (.invokevirtual 139, 3) := by decide +kernel
theorem dX4_slice_78 : decode cX4_slice 78 = .ok (.ireturn, 1) := by decide +kernel
theorem dX4_slice_79 : decode cX4_slice 79 = .ok (.aload_n 0, 1) := by decide +kernel
theorem dX4_slice_80 : decode cX4_slice 80 = .ok (.getfield 30, 3) := by decide +kernel
theorem dX4_slice_83 : decode cX4_slice 83 = .ok (.invokevirtual 128, 3) := by decide +kernel
theorem dX4_slice_86 : decode cX4_slice 86 = .ok (.ifCond .eq 15, 3) := by decide +kernel
theorem dX4_slice_89 : decode cX4_slice 89 = .ok (.aload_n 0, 1) := by decide +kernel
theorem dX4_slice_90 : decode cX4_slice 90 = .ok (.getfield 30, 3) := by decide +kernel
theorem dX4_slice_93 : decode cX4_slice 93 = .ok (.getfield 142, 3) := by decide +kernel
theorem dX4_slice_96 : decode cX4_slice 96 = .ok (.iload_n 1, 1) := by decide +kernel
theorem dX4_slice_97 : decode cX4_slice 97 = .ok (.iaload, 1) := by decide +kernel
theorem dX4_slice_98 : decode cX4_slice 98 = .ok (.goto 5, 3) := by decide +kernel
theorem dX4_slice_101 : decode cX4_slice 101 = .ok (.bipush (-9), 2) := by decide +kernel
theorem dX4_slice_103 : decode cX4_slice 103 = .ok (.ireturn, 1) := by decide +kernel
theorem dX4_slice_104 : decode cX4_slice 104 = .ok (.aload_n 0, 1) := by decide +kernel
theorem dX4_slice_105 : decode cX4_slice 105 = .ok (.getfield 10, 3) := by decide +kernel
theorem dX4_slice_108 : decode cX4_slice 108 = .ok (.invokevirtual 145, 3) := by decide +kernel
theorem dX4_slice_111 : decode cX4_slice 111 = .ok (.ifCond .ne 25, 3) := by decide +kernel
theorem dX4_slice_114 : decode cX4_slice 114 = .ok (.aload_n 0, 1) := by decide +kernel
theorem dX4_slice_115 : decode cX4_slice 115 = .ok (.getfield 30, 3) := by decide +kernel
theorem dX4_slice_118 : decode cX4_slice 118 = .ok (.invokevirtual 128, 3) := by decide +kernel
theorem dX4_slice_121 : decode cX4_slice 121 = .ok (.ifCond .eq 15, 3) := by decide +kernel
theorem dX4_slice_124 : decode cX4_slice 124 = .ok (.aload_n 0, 1) := by decide +kernel
theorem dX4_slice_125 : decode cX4_slice 125 = .ok (.getfield 21, 3) := by decide +kernel
theorem dX4_slice_128 : decode cX4_slice 128 = .ok (.getfield 148, 3) := by decide +kernel
theorem dX4_slice_131 : decode cX4_slice 131 = .ok (.iload_n 1, 1) := by decide +kernel
theorem dX4_slice_132 : decode cX4_slice 132 = .ok (.iaload, 1) := by decide +kernel
theorem dX4_slice_133 : decode cX4_slice 133 = .ok (.goto 5, 3) := by decide +kernel
theorem dX4_slice_136 : decode cX4_slice 136 = .ok (.bipush (-9), 2) := by decide +kernel
theorem dX4_slice_138 : decode cX4_slice 138 = .ok (.ireturn, 1) := by decide +kernel
theorem dX4_slice_139 : decode cX4_slice 139 = .ok (.aload_n 0, 1) := by decide +kernel
theorem dX4_slice_140 : decode cX4_slice 140 = .ok (.getfield 30, 3) := by decide +kernel
theorem dX4_slice_143 : decode cX4_slice 143 = .ok (.invokevirtual 128, 3) := by decide +kernel
theorem dX4_slice_146 : decode cX4_slice 146 = .ok (.ifCond .eq 14, 3) := by decide +kernel
theorem dX4_slice_149 : decode cX4_slice 149 = .ok (.aload_n 0, 1) := by decide +kernel
theorem dX4_slice_150 : decode cX4_slice 150 = .ok (.getfield 30, 3) := by decide +kernel
theorem dX4_slice_153 : decode cX4_slice 153 = .ok (.iload_n 1, 1) := by decide +kernel
theorem dX4_slice_154 : decode cX4_slice 154 = .ok (.invokevirtual 151, 3) := by decide +kernel
theorem dX4_slice_157 : decode cX4_slice 157 = .ok (.goto 5, 3) := by decide +kernel
theorem dX4_slice_160 : decode cX4_slice 160 = .ok (.bipush (-9), 2) := by decide +kernel
theorem dX4_slice_162 : decode cX4_slice 162 = .ok (.ireturn, 1) := by decide +kernel
theorem dX4_slice_163 : decode cX4_slice 163 = .ok (.aload_n 0, 1) := by decide +kernel
theorem dX4_slice_164 : decode cX4_slice 164 = .ok (.getfield 10, 3) := by decide +kernel
theorem dX4_slice_167 : decode cX4_slice 167 = .ok (.iload_n 1, 1) := by decide +kernel
theorem dX4_slice_168 : decode cX4_slice 168 = .ok (.invokevirtual 154, 3) := by decide +kernel
theorem dX4_slice_171 : decode cX4_slice 171 = .ok (.ireturn, 1) := by decide +kernel
theorem dX4_slice_172 : decode cX4_slice 172 = .ok (.aload_n 0, 1) := by decide +kernel
theorem dX4_slice_173 : decode cX4_slice 173 = .ok (.getfield 30, 3) := by decide +kernel
theorem dX4_slice_176 : decode cX4_slice 176 = .ok (.invokevirtual 128, 3) := by decide +kernel
theorem dX4_slice_179 : decode cX4_slice 179 = .ok (.ifCond .eq 21, 3) := by decide +kernel
theorem dX4_slice_182 : decode cX4_slice 182 = .ok (.aload_n 0, 1) := by decide +kernel
theorem dX4_slice_183 : decode cX4_slice 183 = .ok (.getfield 30, 3) := by decide +kernel
theorem dX4_slice_186 : decode cX4_slice 186 = .ok (.aload_n 0, 1) := by decide +kernel
theorem dX4_slice_187 : decode cX4_slice 187 = .ok (.getfield 10, 3) := by decide +kernel
theorem dX4_slice_190 : decode cX4_slice 190 = .ok (.iload_n 1, 1) := by decide +kernel
theorem dX4_slice_191 : decode cX4_slice 191 = .ok (.invokevirtual 154, 3) := by decide +kernel
theorem dX4_slice_194 : decode cX4_slice 194 = .ok (.invokevirtual 157, 3) := by decide +kernel
theorem dX4_slice_197 : decode cX4_slice 197 = .ok (.goto 5, 3) := by decide +kernel
theorem dX4_slice_200 : decode cX4_slice 200 = .ok (.bipush (-9), 2) := by decide +kernel
theorem dX4_slice_202 : decode cX4_slice 202 = .ok (.ireturn, 1) := by decide +kernel
theorem dX4_slice_203 : decode cX4_slice 203 = .ok (.aload_n 0, 1) := by decide +kernel
theorem dX4_slice_204 : decode cX4_slice 204 = .ok (.getfield 10, 3) := by decide +kernel
theorem dX4_slice_207 : decode cX4_slice 207 = .ok (.iload_n 1, 1) := by decide +kernel
theorem dX4_slice_208 : decode cX4_slice 208 = .ok (.invokevirtual 160, 3) := by decide +kernel
theorem dX4_slice_211 : decode cX4_slice 211 = .ok (.ireturn, 1) := by decide +kernel
theorem dX4_slice_212 : decode cX4_slice 212 = .ok (.iconst (-1), 1) := by decide +kernel
theorem dX4_slice_213 : decode cX4_slice 213 = .ok (.ireturn, 1) := by decide +kernel
set_option maxRecDepth 20000 in
theorem ggX4_order_X2_isSlice : GoodIn wsX4_order wsX2_isSlice := goodIn_r _ [7, 8, 16, 17, 18, 19, 20, 21] (by decide +kernel) (by decide +kernel)
set_option maxRecDepth 20000 in
theorem gX4_order_X2_isSlice : GoodIn wsX4_order (wsV RX4 100 RX2 yX2_isSlice wsX2_isSlice) := goodIn_app (goodIn_of _ (by decide +kernel)) ggX4_order_X2_isSlice
theorem dX4_order_0 : decode cX4_order 0 = .ok (.aload_n 0, 1) := by decide +kernel
theorem dX4_order_1 : decode cX4_order 1 = .ok (.getfield 10, 3) := by decide +kernel
theorem dX4_order_4 : decode cX4_order 4 = .ok (.iload_n 1, 1) := by decide +kernel
theorem dX4_order_5 : decode cX4_order 5 = .ok (.invokevirtual 100, 3) := by decide +kernel
theorem dX4_order_8 : decode cX4_order 8 = .ok (.ifCond .eq 15, 3) := by decide +kernel
theorem dX4_order_11 : decode cX4_order 11 = .ok (.aload_n 0, 1) := by decide +kernel
theorem dX4_order_12 : decode cX4_order 12 = .ok (.getfield 10, 3) := by decide +kernel
theorem dX4_order_15 : decode cX4_order 15 = .ok (.getfield 119, 3) := by decide +kernel
theorem dX4_order_18 : decode cX4_order 18 = .ok (.iload_n 1, 1) := by decide +kernel
theorem dX4_order_19 : decode cX4_order 19 = .ok (.iaload, 1) := by decide +kernel
theorem dX4_order_20 : decode cX4_order 20 = .ok (.goto 4, 3) := by decide +kernel
theorem dX4_order_23 : decode cX4_order 23 = .ok (.iconst (-1), 1) := by decide +kernel
theorem dX4_order_24 : decode cX4_order 24 = .ok (.ireturn, 1) := by decide +kernel
set_option maxRecDepth 20000 in
theorem ggX4_source_X3_lay : GoodIn wsX4_source wsX3_lay := goodIn_r _ [11, 12, 13, 14, 15, 16, 17, 18, 19, 20, 21, 22, 23, 24, 10, 25, 26, 27, 28, 29, 30, 31, 32, 33, 34, 35, 36, 37, 38, 39, 40, 41, 42, 43, 44, 45, 46, 47, 48, 49, 50, 51, 52, 53, 54, 55, 56, 57, 58, 59, 60, 61, 62, 63, 64, 65, 66, 67, 68, 69, 70, 71, 72, 73, 74, 75, 76, 77, 78, 79, 80, 81, 82, 83, 84, 85, 86, 87, 88, 89, 90, 91, 92, 93, 94, 95, 96, 97, 98, 99, 100, 101, 102, 103, 104, 105, 106, 107, 108, 109, 140, 141, 142, 143, 134, 135, 136, 137, 138, 139, 144, 145, 146, 147, 148, 149, 150, 151] (by decide +kernel) (by decide +kernel)
set_option maxRecDepth 20000 in
theorem gX4_source_X3_lay : GoodIn wsX4_source (wsV RX4 128 RX3 yX3_lay wsX3_lay) := goodIn_app (goodIn_of _ (by decide +kernel)) ggX4_source_X3_lay
set_option maxRecDepth 20000 in
theorem ggX4_source_X3_originOf : GoodIn wsX4_source wsX3_originOf := goodIn_r _ [113, 12, 114, 115, 26, 15, 116, 117, 118, 10, 119, 29, 30, 31, 19, 32, 33, 21, 34, 35, 36, 37, 38, 39, 120, 121, 122, 123, 14, 124, 125, 95, 126, 140, 141, 142, 143, 134, 135, 136, 137, 138, 139] (by decide +kernel) (by decide +kernel)
set_option maxRecDepth 20000 in
theorem gX4_source_X3_originOf : GoodIn wsX4_source (wsV RX4 163 RX3 yX3_originOf wsX3_originOf) := goodIn_app (goodIn_of _ (by decide +kernel)) ggX4_source_X3_originOf
theorem dX4_source_0 : decode cX4_source 0 = .ok (.iload_n 1, 1) := by decide +kernel
theorem dX4_source_1 : decode cX4_source 1 = .ok (.ifCond .lt 25, 3) := by decide +kernel
theorem dX4_source_4 : decode cX4_source 4 = .ok (.iload_n 1, 1) := by decide +kernel
theorem dX4_source_5 : decode cX4_source 5 = .ok (.aload_n 0, 1) := by decide +kernel
theorem dX4_source_6 : decode cX4_source 6 = .ok (.getfield 10, 3) := by decide +kernel
theorem dX4_source_9 : decode cX4_source 9 = .ok (.getfield 80, 3) := by decide +kernel
theorem dX4_source_12 : decode cX4_source 12 = .ok (.iconst 5, 1) := by decide +kernel
theorem dX4_source_13 : decode cX4_source 13 = .ok (.iaload, 1) := by decide +kernel
theorem dX4_source_14 : decode cX4_source 14 = .ok (.if_icmp .ge 12, 3) := by decide +kernel
theorem dX4_source_17 : decode cX4_source 17 = .ok (.iload_n 2, 1) := by decide +kernel
theorem dX4_source_18 : decode cX4_source 18 = .ok (.ifCond .lt 8, 3) := by decide +kernel
theorem dX4_source_21 : decode cX4_source 21 = .ok (.iload_n 2, 1) := by decide +kernel
theorem dX4_source_22 : decode cX4_source 22 = .ok (.iconst 2, 1) := by decide +kernel
theorem dX4_source_23 : decode cX4_source 23 = .ok (.if_icmp .le 5, 3) := by decide +kernel
theorem dX4_source_26 : decode cX4_source 26 = .ok (.iconst (-1), 1) := by decide +kernel
theorem dX4_source_27 : decode cX4_source 27 = .ok (.ireturn, 1) := by decide +kernel
theorem dX4_source_28 : decode cX4_source 28 = .ok (.aload_n 0, 1) := by decide +kernel
theorem dX4_source_29 : decode cX4_source 29 = .ok (.getfield 30, 3) := by decide +kernel
theorem dX4_source_32 : decode cX4_source 32 = .ok (.invokevirtual 128, 3) := by decide +kernel
theorem dX4_source_35 : decode cX4_source 35 = .ok (.ifCond .ne 6, 3) := by decide +kernel
theorem dX4_source_38 : decode cX4_source 38 = .ok (.bipush (-9), 2) := by decide +kernel
theorem dX4_source_40 : decode cX4_source 40 = .ok (.ireturn, 1) := by decide +kernel
theorem dX4_source_41 : decode cX4_source 41 = .ok (.iload_n 1, 1) := by decide +kernel
theorem dX4_source_42 : decode cX4_source 42 = .ok (.istore_n 3, 1) := by decide +kernel
theorem dX4_source_43 : decode cX4_source 43 = .ok (.iconst 0, 1) := by decide +kernel
theorem dX4_source_44 : decode cX4_source 44 = .ok (.istore 4, 2) := by decide +kernel
theorem dX4_source_46 : decode cX4_source 46 = .ok (.iload 4, 2) := by decide +kernel
theorem dX4_source_48 : decode cX4_source 48 = .ok (.aload_n 0, 1) := by decide +kernel
theorem dX4_source_49 : decode cX4_source 49 = .ok (.getfield 10, 3) := by decide +kernel
theorem dX4_source_52 : decode cX4_source 52 = .ok (.getfield 90, 3) := by decide +kernel
theorem dX4_source_55 : decode cX4_source 55 = .ok (.if_icmp .ge 52, 3) := by decide +kernel
theorem dX4_source_58 : decode cX4_source 58 = .ok (.aload_n 0, 1) := by decide +kernel
theorem dX4_source_59 : decode cX4_source 59 = .ok (.getfield 30, 3) := by decide +kernel
theorem dX4_source_62 : decode cX4_source 62 = .ok (.getfield 142, 3) := by decide +kernel
theorem dX4_source_65 : decode cX4_source 65 = .ok (.aload_n 0, 1) := by decide +kernel
theorem dX4_source_66 : decode cX4_source 66 = .ok (.getfield 10, 3) := by decide +kernel
theorem dX4_source_69 : decode cX4_source 69 = .ok (.getfield 119, 3) := by decide +kernel
theorem dX4_source_72 : decode cX4_source 72 = .ok (.iload 4, 2) := by decide +kernel
theorem dX4_source_74 : decode cX4_source 74 = .ok (.iaload, 1) := by decide +kernel
theorem dX4_source_75 : decode cX4_source 75 = .ok (.iaload, 1) := by decide +kernel
theorem dX4_source_76 : decode cX4_source 76 = .ok (.istore 5, 2) := by decide +kernel
theorem dX4_source_78 : decode cX4_source 78 = .ok (.iload_n 3, 1) := by decide +kernel
theorem dX4_source_79 : decode cX4_source 79 = .ok (.iload 5, 2) := by decide +kernel
theorem dX4_source_81 : decode cX4_source 81 = .ok (.if_icmp .ge 15, 3) := by decide +kernel
theorem dX4_source_84 : decode cX4_source 84 = .ok (.aload_n 0, 1) := by decide +kernel
theorem dX4_source_85 : decode cX4_source 85 = .ok (.getfield 30, 3) := by decide +kernel
theorem dX4_source_88 : decode cX4_source 88 = .ok (.iload 4, 2) := by decide +kernel
theorem dX4_source_90 : decode cX4_source 90 = .ok (.iload_n 3, 1) := by decide +kernel
theorem dX4_source_91 : decode cX4_source 91 = .ok (.iload_n 2, 1) := by decide +kernel
theorem dX4_source_92 : decode cX4_source 92 = .ok (.invokevirtual 163, 3) := by decide +kernel
theorem dX4_source_95 : decode cX4_source 95 = .ok (.ireturn, 1) := by decide +kernel
theorem dX4_source_96 : decode cX4_source 96 = .ok (.iload_n 3, 1) := by decide +kernel
theorem dX4_source_97 : decode cX4_source 97 = .ok (.iload 5, 2) := by decide +kernel
theorem dX4_source_99 : decode cX4_source 99 = .ok (.isub, 1) := by decide +kernel
theorem dX4_source_100 : decode cX4_source 100 = .ok (.istore_n 3, 1) := by decide +kernel
theorem dX4_source_101 : decode cX4_source 101 = .ok (.iinc 4 1, 3) := by decide +kernel
theorem dX4_source_104 : decode cX4_source 104 = .ok (.goto (-58), 3) := by decide +kernel
theorem dX4_source_107 : decode cX4_source 107 = .ok (.bipush (-9), 2) := by decide +kernel
theorem dX4_source_109 : decode cX4_source 109 = .ok (.ireturn, 1) := by decide +kernel
set_option maxRecDepth 20000 in
theorem ggX4_warp_X2_isSlice : GoodIn wsX4_warp wsX2_isSlice := goodIn_r _ [10, 11, 125, 126, 127, 128, 129, 130] (by decide +kernel) (by decide +kernel)
set_option maxRecDepth 20000 in
theorem gX4_warp_X2_isSlice : GoodIn wsX4_warp (wsV RX4 100 RX2 yX2_isSlice wsX2_isSlice) := goodIn_app (goodIn_of _ (by decide +kernel)) ggX4_warp_X2_isSlice
set_option maxRecDepth 20000 in
theorem ggX4_warp_X3_lay : GoodIn wsX4_warp wsX3_lay := goodIn_r _ [16, 17, 18, 19, 20, 21, 22, 23, 9, 24, 25, 26, 27, 28, 15, 29, 30, 31, 32, 33, 34, 35, 36, 37, 38, 39, 40, 41, 11, 42, 43, 44, 45, 46, 47, 48, 49, 50, 51, 52, 53, 54, 55, 56, 57, 58, 59, 60, 61, 62, 63, 64, 65, 66, 67, 68, 69, 70, 71, 72, 73, 74, 75, 76, 77, 78, 79, 80, 81, 82, 83, 84, 85, 86, 87, 88, 89, 90, 91, 92, 93, 94, 95, 96, 97, 98, 99, 100, 101, 102, 103, 104, 105, 106, 107, 108, 109, 110, 111, 112, 121, 122, 123, 124, 125, 126, 127, 128, 129, 130, 131, 132, 133, 134, 135, 136, 137, 138] (by decide +kernel) (by decide +kernel)
set_option maxRecDepth 20000 in
theorem gX4_warp_X3_lay : GoodIn wsX4_warp (wsV RX4 128 RX3 yX3_lay wsX3_lay) := goodIn_app (goodIn_of _ (by decide +kernel)) ggX4_warp_X3_lay
set_option maxRecDepth 20000 in
theorem ggX4_warp_X2_lengthOf : GoodIn wsX4_warp wsX2_lengthOf := goodIn_r _ [36, 37, 25, 38, 39, 40, 9, 41, 11, 42, 125, 126, 127, 128, 129, 130] (by decide +kernel) (by decide +kernel)
set_option maxRecDepth 20000 in
theorem gX4_warp_X2_lengthOf : GoodIn wsX4_warp (wsV RX4 139 RX2 yX2_lengthOf wsX2_lengthOf) := goodIn_app (goodIn_of _ (by decide +kernel)) ggX4_warp_X2_lengthOf
theorem dX4_warp_0 : decode cX4_warp 0 = .ok (.aload_n 0, 1) := by decide +kernel
theorem dX4_warp_1 : decode cX4_warp 1 = .ok (.getfield 10, 3) := by decide +kernel
theorem dX4_warp_4 : decode cX4_warp 4 = .ok (.iload_n 1, 1) := by decide +kernel
theorem dX4_warp_5 : decode cX4_warp 5 = .ok (.invokevirtual 100, 3) := by decide +kernel
theorem dX4_warp_8 : decode cX4_warp 8 = .ok (.ifCond .ne 6, 3) := by decide +kernel
theorem dX4_warp_11 : decode cX4_warp 11 = .ok (.ldc 167, 2) := by decide +kernel
theorem dX4_warp_13 : decode cX4_warp 13 = .ok (.freturn, 1) := by decide +kernel
theorem dX4_warp_14 : decode cX4_warp 14 = .ok (.aload_n 0, 1) := by decide +kernel
theorem dX4_warp_15 : decode cX4_warp 15 = .ok (.getfield 30, 3) := by decide +kernel
theorem dX4_warp_18 : decode cX4_warp 18 = .ok (.invokevirtual 128, 3) := by decide +kernel
theorem dX4_warp_21 : decode cX4_warp 21 = .ok (.ifCond .ne 6, 3) := by decide +kernel
theorem dX4_warp_24 : decode cX4_warp 24 = .ok (.ldc 168, 2) := by decide +kernel
theorem dX4_warp_26 : decode cX4_warp 26 = .ok (.freturn, 1) := by decide +kernel
theorem dX4_warp_27 : decode cX4_warp 27 = .ok (.aload_n 0, 1) := by decide +kernel
theorem dX4_warp_28 : decode cX4_warp 28 = .ok (.getfield 30, 3) := by decide +kernel
theorem dX4_warp_31 : decode cX4_warp 31 = .ok (.getfield 142, 3) := by decide +kernel
theorem dX4_warp_34 : decode cX4_warp 34 = .ok (.iload_n 1, 1) := by decide +kernel
theorem dX4_warp_35 : decode cX4_warp 35 = .ok (.iaload, 1) := by decide +kernel
theorem dX4_warp_36 : decode cX4_warp 36 = .ok (.i2f, 1) := by decide +kernel
theorem dX4_warp_37 : decode cX4_warp 37 = .ok (.aload_n 0, 1) := by decide +kernel
theorem dX4_warp_38 : decode cX4_warp 38 = .ok (.getfield 10, 3) := by decide +kernel
theorem dX4_warp_41 : decode cX4_warp 41 = .ok (.iload_n 1, 1) := by decide +kernel
theorem dX4_warp_42 : decode cX4_warp 42 = .ok (.invokevirtual 139, 3) := by decide +kernel
theorem dX4_warp_45 : decode cX4_warp 45 = .ok (.i2f, 1) := by decide +kernel
theorem dX4_warp_46 : decode cX4_warp 46 = .ok (.fdiv, 1) := by decide +kernel
theorem dX4_warp_47 : decode cX4_warp 47 = .ok (.freturn, 1) := by decide +kernel
set_option maxRecDepth 20000 in
theorem ggX4_shift_X0_leastSum : GoodIn wsX4_shift wsX0_leastSum := goodIn_r _ [9, 10, 11, 12, 13, 14, 15, 16, 17, 8, 18, 19, 20, 21, 22, 23, 24, 25, 26, 27, 28, 29, 30, 31, 32, 33, 34, 35, 36, 37, 38, 39, 40, 41, 42, 43, 44, 45, 46, 47, 48, 49, 50, 51, 52, 53, 54, 55, 56, 57, 58, 59, 60, 61, 62, 63, 64, 65, 66, 67, 68, 69, 70, 71, 85, 86, 87, 88, 89, 90, 91, 92, 79, 80, 81, 82, 83, 84] (by decide +kernel) (by decide +kernel)
set_option maxRecDepth 20000 in
theorem gX4_shift_X0_leastSum : GoodIn wsX4_shift (wsV RX4 169 RX0 yX0_leastSum wsX0_leastSum) := goodIn_app (goodIn_of _ (by decide +kernel)) ggX4_shift_X0_leastSum
theorem dX4_shift_0 : decode cX4_shift 0 = .ok (.aload_n 0, 1) := by decide +kernel
theorem dX4_shift_1 : decode cX4_shift 1 = .ok (.getfield 21, 3) := by decide +kernel
theorem dX4_shift_4 : decode cX4_shift 4 = .ok (.aload_n 0, 1) := by decide +kernel
theorem dX4_shift_5 : decode cX4_shift 5 = .ok (.getfield 10, 3) := by decide +kernel
theorem dX4_shift_8 : decode cX4_shift 8 = .ok (.getfield 80, 3) := by decide +kernel
theorem dX4_shift_11 : decode cX4_shift 11 = .ok (.iconst 5, 1) := by decide +kernel
theorem dX4_shift_12 : decode cX4_shift 12 = .ok (.iaload, 1) := by decide +kernel
theorem dX4_shift_13 : decode cX4_shift 13 = .ok (.aload_n 0, 1) := by decide +kernel
theorem dX4_shift_14 : decode cX4_shift 14 = .ok (.getfield 10, 3) := by decide +kernel
theorem dX4_shift_17 : decode cX4_shift 17 = .ok (.getfield 80, 3) := by decide +kernel
theorem dX4_shift_20 : decode cX4_shift 20 = .ok (.bipush 6, 2) := by decide +kernel
theorem dX4_shift_22 : decode cX4_shift 22 = .ok (.iaload, 1) := by decide +kernel
theorem dX4_shift_23 : decode cX4_shift 23 = .ok (.invokevirtual 169, 3) := by decide +kernel
theorem dX4_shift_26 : decode cX4_shift 26 = .ok (.istore_n 1, 1) := by decide +kernel
theorem dX4_shift_27 : decode cX4_shift 27 = .ok (.iload_n 1, 1) := by decide +kernel
theorem dX4_shift_28 : decode cX4_shift 28 = .ok (.iconst (-1), 1) := by decide +kernel
theorem dX4_shift_29 : decode cX4_shift 29 = .ok (.if_icmp .ne 8, 3) := by decide +kernel
theorem dX4_shift_32 : decode cX4_shift 32 = .ok (.bipush (-9), 2) := by decide +kernel
theorem dX4_shift_34 : decode cX4_shift 34 = .ok (.goto 12, 3) := by decide +kernel
theorem dX4_shift_37 : decode cX4_shift 37 = .ok (.iload_n 1, 1) := by decide +kernel
theorem dX4_shift_38 : decode cX4_shift 38 = .ok (.aload_n 0, 1) := by decide +kernel
theorem dX4_shift_39 : decode cX4_shift 39 = .ok (.getfield 10, 3) := by decide +kernel
theorem dX4_shift_42 : decode cX4_shift 42 = .ok (.getfield 56, 3) := by decide +kernel
theorem dX4_shift_45 : decode cX4_shift 45 = .ok (.idiv, 1) := by decide +kernel
theorem dX4_shift_46 : decode cX4_shift 46 = .ok (.ireturn, 1) := by decide +kernel
set_option maxRecDepth 20000 in
theorem ggX4_leastGrid_X0_canLay : GoodIn wsX4_leastGrid wsX0_canLay := goodIn_r _ [8, 9, 10, 11, 7, 12, 13, 14, 15, 16, 17, 18, 19, 20, 21, 22, 23, 24, 25, 26, 27, 28, 29, 30, 31, 32, 33, 34, 35, 36, 37, 38, 39, 40, 41, 42, 43, 44, 45, 46, 47, 48, 49, 50, 51, 52, 53, 54, 55, 56, 57, 58, 59, 60, 61, 62, 63, 64, 65, 66, 67, 68, 69, 70, 71, 72, 73, 74, 88, 89, 90, 91, 92, 93, 94, 95, 82, 83, 84, 85, 86, 87] (by decide +kernel) (by decide +kernel)
set_option maxRecDepth 20000 in
theorem gX4_leastGrid_X0_canLay : GoodIn wsX4_leastGrid (wsV RX4 173 RX0 yX0_canLay wsX0_canLay) := goodIn_app (goodIn_of _ (by decide +kernel)) ggX4_leastGrid_X0_canLay
theorem dX4_leastGrid_0 : decode cX4_leastGrid 0 = .ok (.iconst 1, 1) := by decide +kernel
theorem dX4_leastGrid_1 : decode cX4_leastGrid 1 = .ok (.istore_n 1, 1) := by decide +kernel
theorem dX4_leastGrid_2 : decode cX4_leastGrid 2 = .ok (.iload_n 1, 1) := by decide +kernel
theorem dX4_leastGrid_3 : decode cX4_leastGrid 3 = .ok (.bipush 32, 2) := by decide +kernel
theorem dX4_leastGrid_5 : decode cX4_leastGrid 5 = .ok (.if_icmp .gt 31, 3) := by decide +kernel
theorem dX4_leastGrid_8 : decode cX4_leastGrid 8 = .ok (.aload_n 0, 1) := by decide +kernel
theorem dX4_leastGrid_9 : decode cX4_leastGrid 9 = .ok (.getfield 21, 3) := by decide +kernel
theorem dX4_leastGrid_12 : decode cX4_leastGrid 12 = .ok (.aload_n 0, 1) := by decide +kernel
theorem dX4_leastGrid_13 : decode cX4_leastGrid 13 = .ok (.getfield 10, 3) := by decide +kernel
theorem dX4_leastGrid_16 : decode cX4_leastGrid 16 = .ok (.getfield 80, 3) := by decide +kernel
theorem dX4_leastGrid_19 : decode cX4_leastGrid 19 = .ok (.iconst 5, 1) := by decide +kernel
theorem dX4_leastGrid_20 : decode cX4_leastGrid 20 = .ok (.iaload, 1) := by decide +kernel
theorem dX4_leastGrid_21 : decode cX4_leastGrid 21 = .ok (.iload_n 1, 1) := by decide +kernel
theorem dX4_leastGrid_22 : decode cX4_leastGrid 22 = .ok (.invokevirtual 173, 3) := by decide +kernel
theorem dX4_leastGrid_25 : decode cX4_leastGrid 25 = .ok (.ifCond .eq 5, 3) := by decide +kernel
theorem dX4_leastGrid_28 : decode cX4_leastGrid 28 = .ok (.iload_n 1, 1) := by decide +kernel
theorem dX4_leastGrid_29 : decode cX4_leastGrid 29 = .ok (.ireturn, 1) := by decide +kernel
theorem dX4_leastGrid_30 : decode cX4_leastGrid 30 = .ok (.iinc 1 1, 3) := by decide +kernel
theorem dX4_leastGrid_33 : decode cX4_leastGrid 33 = .ok (.goto (-31), 3) := by decide +kernel
theorem dX4_leastGrid_36 : decode cX4_leastGrid 36 = .ok (.bipush (-9), 2) := by decide +kernel
theorem dX4_leastGrid_38 : decode cX4_leastGrid 38 = .ok (.ireturn, 1) := by decide +kernel
set_option maxRecDepth 20000 in
theorem ggX4_nearTarget_X0_canLay : GoodIn wsX4_nearTarget wsX0_canLay := goodIn_r _ [9, 10, 11, 12, 8, 13, 14, 15, 16, 17, 18, 19, 20, 21, 22, 23, 24, 25, 26, 27, 28, 29, 30, 31, 32, 33, 34, 35, 36, 37, 38, 39, 40, 41, 42, 43, 44, 45, 46, 47, 48, 49, 50, 51, 52, 53, 54, 55, 56, 57, 58, 59, 60, 61, 62, 63, 64, 65, 66, 67, 68, 69, 70, 71, 72, 73, 74, 75, 89, 90, 91, 92, 93, 94, 95, 96, 83, 84, 85, 86, 87, 88] (by decide +kernel) (by decide +kernel)
set_option maxRecDepth 20000 in
theorem gX4_nearTarget_X0_canLay : GoodIn wsX4_nearTarget (wsV RX4 173 RX0 yX0_canLay wsX0_canLay) := goodIn_app (goodIn_of _ (by decide +kernel)) ggX4_nearTarget_X0_canLay
theorem dX4_nearTarget_0 : decode cX4_nearTarget 0 = .ok (.iload_n 1, 1) := by decide +kernel
theorem dX4_nearTarget_1 : decode cX4_nearTarget 1 = .ok (.ifCond .lt 10, 3) := by decide +kernel
theorem dX4_nearTarget_4 : decode cX4_nearTarget 4 = .ok (.iload_n 1, 1) := by decide +kernel
theorem dX4_nearTarget_5 : decode cX4_nearTarget 5 = .ok (.sipush 200, 3) := by decide +kernel
theorem dX4_nearTarget_8 : decode cX4_nearTarget 8 = .ok (.if_icmp .le 5, 3) := by decide +kernel
theorem dX4_nearTarget_11 : decode cX4_nearTarget 11 = .ok (.iconst (-1), 1) := by decide +kernel
theorem dX4_nearTarget_12 : decode cX4_nearTarget 12 = .ok (.ireturn, 1) := by decide +kernel
theorem dX4_nearTarget_13 : decode cX4_nearTarget 13 = .ok (.iconst 0, 1) := by decide +kernel
theorem dX4_nearTarget_14 : decode cX4_nearTarget 14 = .ok (.istore_n 2, 1) := by decide +kernel
theorem dX4_nearTarget_15 : decode cX4_nearTarget 15 = .ok (.iload_n 2, 1) := by decide +kernel
theorem dX4_nearTarget_16 : decode cX4_nearTarget 16 = .ok (.iload_n 1, 1) := by decide +kernel
theorem dX4_nearTarget_17 : decode cX4_nearTarget 17 = .ok (.if_icmp .gt 94, 3) := by decide +kernel
theorem dX4_nearTarget_20 : decode cX4_nearTarget 20 = .ok (.aload_n 0, 1) := by decide +kernel
theorem dX4_nearTarget_21 : decode cX4_nearTarget 21 = .ok (.getfield 10, 3) := by decide +kernel
theorem dX4_nearTarget_24 : decode cX4_nearTarget 24 = .ok (.getfield 80, 3) := by decide +kernel
theorem dX4_nearTarget_27 : decode cX4_nearTarget 27 = .ok (.iconst 5, 1) := by decide +kernel
theorem dX4_nearTarget_28 : decode cX4_nearTarget 28 = .ok (.iaload, 1) := by decide +kernel
theorem dX4_nearTarget_29 : decode cX4_nearTarget 29 = .ok (.iload_n 2, 1) := by decide +kernel
theorem dX4_nearTarget_30 : decode cX4_nearTarget 30 = .ok (.isub, 1) := by decide +kernel
theorem dX4_nearTarget_31 : decode cX4_nearTarget 31 = .ok (.istore_n 3, 1) := by decide +kernel
theorem dX4_nearTarget_32 : decode cX4_nearTarget 32 = .ok (.iload_n 3, 1) := by decide +kernel
theorem dX4_nearTarget_33 : decode cX4_nearTarget 33 = .ok (.iconst 1, 1) := by decide +kernel
theorem dX4_nearTarget_34 : decode cX4_nearTarget 34 = .ok (.if_icmp .lt 26, 3) := by decide +kernel
theorem dX4_nearTarget_37 : decode cX4_nearTarget 37 = .ok (.aload_n 0, 1) := by decide +kernel
theorem dX4_nearTarget_38 : decode cX4_nearTarget 38 = .ok (.getfield 21, 3) := by decide +kernel
theorem dX4_nearTarget_41 : decode cX4_nearTarget 41 = .ok (.iload_n 3, 1) := by decide +kernel
theorem dX4_nearTarget_42 : decode cX4_nearTarget 42 = .ok (.aload_n 0, 1) := by decide +kernel
theorem dX4_nearTarget_43 : decode cX4_nearTarget 43 = .ok (.getfield 10, 3) := by decide +kernel
theorem dX4_nearTarget_46 : decode cX4_nearTarget 46 = .ok (.getfield 80, 3) := by decide +kernel
theorem dX4_nearTarget_49 : decode cX4_nearTarget 49 = .ok (.bipush 6, 2) := by decide +kernel
theorem dX4_nearTarget_51 : decode cX4_nearTarget 51 = .ok (.iaload, 1) := by decide +kernel
theorem dX4_nearTarget_52 : decode cX4_nearTarget 52 = .ok (.invokevirtual 173, 3) := by decide +kernel
theorem dX4_nearTarget_55 : decode cX4_nearTarget 55 = .ok (.ifCond .eq 5, 3) := by decide +kernel
theorem dX4_nearTarget_58 : decode cX4_nearTarget 58 = .ok (.iload_n 3, 1) := by decide +kernel
theorem dX4_nearTarget_59 : decode cX4_nearTarget 59 = .ok (.ireturn, 1) := by decide +kernel
theorem dX4_nearTarget_60 : decode cX4_nearTarget 60 = .ok (.aload_n 0, 1) := by decide +kernel
theorem dX4_nearTarget_61 : decode cX4_nearTarget 61 = .ok (.getfield 10, 3) := by decide +kernel
theorem dX4_nearTarget_64 : decode cX4_nearTarget 64 = .ok (.getfield 80, 3) := by decide +kernel
theorem dX4_nearTarget_67 : decode cX4_nearTarget 67 = .ok (.iconst 5, 1) := by decide +kernel
theorem dX4_nearTarget_68 : decode cX4_nearTarget 68 = .ok (.iaload, 1) := by decide +kernel
theorem dX4_nearTarget_69 : decode cX4_nearTarget 69 = .ok (.iload_n 2, 1) := by decide +kernel
theorem dX4_nearTarget_70 : decode cX4_nearTarget 70 = .ok (.iadd, 1) := by decide +kernel
theorem dX4_nearTarget_71 : decode cX4_nearTarget 71 = .ok (.istore 4, 2) := by decide +kernel
theorem dX4_nearTarget_73 : decode cX4_nearTarget 73 = .ok (.iload 4, 2) := by decide +kernel
theorem dX4_nearTarget_75 : decode cX4_nearTarget 75 = .ok (.ldc 177, 2) := by decide +kernel
theorem dX4_nearTarget_77 : decode cX4_nearTarget 77 = .ok (.if_icmp .gt 28, 3) := by decide +kernel
theorem dX4_nearTarget_80 : decode cX4_nearTarget 80 = .ok (.aload_n 0, 1) := by decide +kernel
theorem dX4_nearTarget_81 : decode cX4_nearTarget 81 = .ok (.getfield 21, 3) := by decide +kernel
theorem dX4_nearTarget_84 : decode cX4_nearTarget 84 = .ok (.iload 4, 2) := by decide +kernel
theorem dX4_nearTarget_86 : decode cX4_nearTarget 86 = .ok (.aload_n 0, 1) := by decide +kernel
theorem dX4_nearTarget_87 : decode cX4_nearTarget 87 = .ok (.getfield 10, 3) := by decide +kernel
theorem dX4_nearTarget_90 : decode cX4_nearTarget 90 = .ok (.getfield 80, 3) := by decide +kernel
theorem dX4_nearTarget_93 : decode cX4_nearTarget 93 = .ok (.bipush 6, 2) := by decide +kernel
theorem dX4_nearTarget_95 : decode cX4_nearTarget 95 = .ok (.iaload, 1) := by decide +kernel
theorem dX4_nearTarget_96 : decode cX4_nearTarget 96 = .ok (.invokevirtual 173, 3) := by decide +kernel
theorem dX4_nearTarget_99 : decode cX4_nearTarget 99 = .ok (.ifCond .eq 6, 3) := by decide +kernel
theorem dX4_nearTarget_102 : decode cX4_nearTarget 102 = .ok (.iload 4, 2) := by decide +kernel
theorem dX4_nearTarget_104 : decode cX4_nearTarget 104 = .ok (.ireturn, 1) := by decide +kernel
theorem dX4_nearTarget_105 : decode cX4_nearTarget 105 = .ok (.iinc 2 1, 3) := by decide +kernel
theorem dX4_nearTarget_108 : decode cX4_nearTarget 108 = .ok (.goto (-93), 3) := by decide +kernel
theorem dX4_nearTarget_111 : decode cX4_nearTarget 111 = .ok (.bipush (-9), 2) := by decide +kernel
theorem dX4_nearTarget_113 : decode cX4_nearTarget 113 = .ok (.ireturn, 1) := by decide +kernel
set_option maxRecDepth 20000 in
theorem ggX4_marksWith_X2_findRises : GoodIn wsX4_marksWith wsX2_findRises := goodIn_r _ [7, 8, 9, 10, 18, 19, 20, 21, 22, 23] (by decide +kernel) (by decide +kernel)
set_option maxRecDepth 20000 in
theorem gX4_marksWith_X2_findRises : GoodIn wsX4_marksWith (wsV RX4 86 RX2 yX2_findRises wsX2_findRises) := goodIn_app (goodIn_of _ (by decide +kernel)) ggX4_marksWith_X2_findRises
theorem dX4_marksWith_0 : decode cX4_marksWith 0 = .ok (.iload_n 1, 1) := by decide +kernel
theorem dX4_marksWith_1 : decode cX4_marksWith 1 = .ok (.iconst 1, 1) := by decide +kernel
theorem dX4_marksWith_2 : decode cX4_marksWith 2 = .ok (.if_icmp .lt 10, 3) := by decide +kernel
theorem dX4_marksWith_5 : decode cX4_marksWith 5 = .ok (.iload_n 1, 1) := by decide +kernel
theorem dX4_marksWith_6 : decode cX4_marksWith 6 = .ok (.sipush 999, 3) := by decide +kernel
theorem dX4_marksWith_9 : decode cX4_marksWith 9 = .ok (.if_icmp .le 5, 3) := by decide +kernel
theorem dX4_marksWith_12 : decode cX4_marksWith 12 = .ok (.iconst (-1), 1) := by decide +kernel
theorem dX4_marksWith_13 : decode cX4_marksWith 13 = .ok (.ireturn, 1) := by decide +kernel
theorem dX4_marksWith_14 : decode cX4_marksWith 14 = .ok (.aload_n 0, 1) := by decide +kernel
theorem dX4_marksWith_15 : decode cX4_marksWith 15 = .ok (.getfield 10, 3) := by decide +kernel
theorem dX4_marksWith_18 : decode cX4_marksWith 18 = .ok (.iload_n 1, 1) := by decide +kernel
theorem dX4_marksWith_19 : decode cX4_marksWith 19 = .ok (.aload_n 0, 1) := by decide +kernel
theorem dX4_marksWith_20 : decode cX4_marksWith 20 = .ok (.getfield 49, 3) := by decide +kernel
theorem dX4_marksWith_23 : decode cX4_marksWith 23 = .ok (.invokevirtual 86, 3) := by decide +kernel
theorem dX4_marksWith_26 : decode cX4_marksWith 26 = .ok (.ireturn, 1) := by decide +kernel
set_option maxRecDepth 20000 in
theorem ggX4_thresholdFor_X2_findRises : GoodIn wsX4_thresholdFor wsX2_findRises := goodIn_r _ [9, 10, 11, 12, 20, 21, 22, 23, 24, 25] (by decide +kernel) (by decide +kernel)
set_option maxRecDepth 20000 in
theorem gX4_thresholdFor_X2_findRises : GoodIn wsX4_thresholdFor (wsV RX4 86 RX2 yX2_findRises wsX2_findRises) := goodIn_app (goodIn_of _ (by decide +kernel)) ggX4_thresholdFor_X2_findRises
theorem dX4_thresholdFor_0 : decode cX4_thresholdFor 0 = .ok (.iload_n 1, 1) := by decide +kernel
theorem dX4_thresholdFor_1 : decode cX4_thresholdFor 1 = .ok (.iconst 1, 1) := by decide +kernel
theorem dX4_thresholdFor_2 : decode cX4_thresholdFor 2 = .ok (.if_icmp .lt 9, 3) := by decide +kernel
theorem dX4_thresholdFor_5 : decode cX4_thresholdFor 5 = .ok (.iload_n 1, 1) := by decide +kernel
theorem dX4_thresholdFor_6 : decode cX4_thresholdFor 6 = .ok (.bipush 16, 2) := by decide +kernel
theorem dX4_thresholdFor_8 : decode cX4_thresholdFor 8 = .ok (.if_icmp .le 5, 3) := by decide +kernel
theorem dX4_thresholdFor_11 : decode cX4_thresholdFor 11 = .ok (.iconst (-1), 1) := by decide +kernel
theorem dX4_thresholdFor_12 : decode cX4_thresholdFor 12 = .ok (.ireturn, 1) := by decide +kernel
theorem dX4_thresholdFor_13 : decode cX4_thresholdFor 13 = .ok (.aload_n 0, 1) := by decide +kernel
theorem dX4_thresholdFor_14 : decode cX4_thresholdFor 14 = .ok (.getfield 10, 3) := by decide +kernel
theorem dX4_thresholdFor_17 : decode cX4_thresholdFor 17 = .ok (.sipush 999, 3) := by decide +kernel
theorem dX4_thresholdFor_20 : decode cX4_thresholdFor 20 = .ok (.aload_n 0, 1) := by decide +kernel
theorem dX4_thresholdFor_21 : decode cX4_thresholdFor 21 = .ok (.getfield 49, 3) := by decide +kernel
theorem dX4_thresholdFor_24 : decode cX4_thresholdFor 24 = .ok (.invokevirtual 86, 3) := by decide +kernel
theorem dX4_thresholdFor_27 : decode cX4_thresholdFor 27 = .ok (.iload_n 1, 1) := by decide +kernel
theorem dX4_thresholdFor_28 : decode cX4_thresholdFor 28 = .ok (.if_icmp .lt 7, 3) := by decide +kernel
theorem dX4_thresholdFor_31 : decode cX4_thresholdFor 31 = .ok (.sipush 999, 3) := by decide +kernel
theorem dX4_thresholdFor_34 : decode cX4_thresholdFor 34 = .ok (.ireturn, 1) := by decide +kernel
theorem dX4_thresholdFor_35 : decode cX4_thresholdFor 35 = .ok (.iconst 0, 1) := by decide +kernel
theorem dX4_thresholdFor_36 : decode cX4_thresholdFor 36 = .ok (.istore_n 2, 1) := by decide +kernel
theorem dX4_thresholdFor_37 : decode cX4_thresholdFor 37 = .ok (.iconst 1, 1) := by decide +kernel
theorem dX4_thresholdFor_38 : decode cX4_thresholdFor 38 = .ok (.istore_n 3, 1) := by decide +kernel
theorem dX4_thresholdFor_39 : decode cX4_thresholdFor 39 = .ok (.iload_n 3, 1) := by decide +kernel
theorem dX4_thresholdFor_40 : decode cX4_thresholdFor 40 = .ok (.aload_n 0, 1) := by decide +kernel
theorem dX4_thresholdFor_41 : decode cX4_thresholdFor 41 = .ok (.getfield 10, 3) := by decide +kernel
theorem dX4_thresholdFor_44 : decode cX4_thresholdFor 44 = .ok (.getfield 56, 3) := by decide +kernel
theorem dX4_thresholdFor_47 : decode cX4_thresholdFor 47 = .ok (.if_icmp .ge 58, 3) := by decide +kernel
theorem dX4_thresholdFor_50 : decode cX4_thresholdFor 50 = .ok (.aload_n 0, 1) := by decide +kernel
theorem dX4_thresholdFor_51 : decode cX4_thresholdFor 51 = .ok (.getfield 10, 3) := by decide +kernel
theorem dX4_thresholdFor_54 : decode cX4_thresholdFor 54 = .ok (.getfield 68, 3) := by decide +kernel
theorem dX4_thresholdFor_57 : decode cX4_thresholdFor 57 = .ok (.iload_n 3, 1) := by decide +kernel
theorem dX4_thresholdFor_58 : decode cX4_thresholdFor 58 = .ok (.iaload, 1) := by decide +kernel
theorem dX4_thresholdFor_59 : decode cX4_thresholdFor 59 = .ok (.aload_n 0, 1) := by decide +kernel
theorem dX4_thresholdFor_60 : decode cX4_thresholdFor 60 = .ok (.getfield 10, 3) := by decide +kernel
theorem dX4_thresholdFor_63 : decode cX4_thresholdFor 63 = .ok (.getfield 68, 3) := by decide +kernel
theorem dX4_thresholdFor_66 : decode cX4_thresholdFor 66 = .ok (.iload_n 3, 1) := by decide +kernel
theorem dX4_thresholdFor_67 : decode cX4_thresholdFor 67 = .ok (.iconst 1, 1) := by decide +kernel
theorem dX4_thresholdFor_68 : decode cX4_thresholdFor 68 = .ok (.isub, 1) := by decide +kernel
theorem dX4_thresholdFor_69 : decode cX4_thresholdFor 69 = .ok (.iaload, 1) := by decide +kernel
theorem dX4_thresholdFor_70 : decode cX4_thresholdFor 70 = .ok (.isub, 1) := by decide +kernel
theorem dX4_thresholdFor_71 : decode cX4_thresholdFor 71 = .ok (.istore 4, 2) := by decide +kernel
theorem dX4_thresholdFor_73 : decode cX4_thresholdFor 73 = .ok (.iload 4, 2) := by decide +kernel
theorem dX4_thresholdFor_75 : decode cX4_thresholdFor 75 = .ok (.iload_n 2, 1) := by decide +kernel
theorem dX4_thresholdFor_76 : decode cX4_thresholdFor 76 = .ok (.if_icmp .le 23, 3) := by decide +kernel
theorem dX4_thresholdFor_79 : decode cX4_thresholdFor 79 = .ok (.aload_n 0, 1) := by decide +kernel
theorem dX4_thresholdFor_80 : decode cX4_thresholdFor 80 = .ok (.getfield 10, 3) := by decide +kernel
theorem dX4_thresholdFor_83 : decode cX4_thresholdFor 83 = .ok (.iload 4, 2) := by decide +kernel
theorem dX4_thresholdFor_85 : decode cX4_thresholdFor 85 = .ok (.aload_n 0, 1) := by decide +kernel
theorem dX4_thresholdFor_86 : decode cX4_thresholdFor 86 = .ok (.getfield 49, 3) := by decide +kernel
theorem dX4_thresholdFor_89 : decode cX4_thresholdFor 89 = .ok (.invokevirtual 86, 3) := by decide +kernel
theorem dX4_thresholdFor_92 : decode cX4_thresholdFor 92 = .ok (.iload_n 1, 1) := by decide +kernel
theorem dX4_thresholdFor_93 : decode cX4_thresholdFor 93 = .ok (.if_icmp .lt 6, 3) := by decide +kernel
theorem dX4_thresholdFor_96 : decode cX4_thresholdFor 96 = .ok (.iload 4, 2) := by decide +kernel
theorem dX4_thresholdFor_98 : decode cX4_thresholdFor 98 = .ok (.istore_n 2, 1) := by decide +kernel
theorem dX4_thresholdFor_99 : decode cX4_thresholdFor 99 = .ok (.iinc 3 1, 3) := by decide +kernel
theorem dX4_thresholdFor_102 : decode cX4_thresholdFor 102 = .ok (.goto (-63), 3) := by decide +kernel
theorem dX4_thresholdFor_105 : decode cX4_thresholdFor 105 = .ok (.iload_n 2, 1) := by decide +kernel
theorem dX4_thresholdFor_106 : decode cX4_thresholdFor 106 = .ok (.ifCond .le 7, 3) := by decide +kernel
theorem dX4_thresholdFor_109 : decode cX4_thresholdFor 109 = .ok (.iload_n 2, 1) := by decide +kernel
theorem dX4_thresholdFor_110 : decode cX4_thresholdFor 110 = .ok (.goto 5, 3) := by decide +kernel
theorem dX4_thresholdFor_113 : decode cX4_thresholdFor 113 = .ok (.bipush (-9), 2) := by decide +kernel
theorem dX4_thresholdFor_115 : decode cX4_thresholdFor 115 = .ok (.ireturn, 1) := by decide +kernel
set_option maxRecDepth 20000 in
theorem ggX4_keep_X4_isImage : GoodIn wsX4_keep wsX4_isImage := goodIn_r _ [8] (by decide +kernel) (by decide +kernel)
set_option maxRecDepth 20000 in
theorem gX4_keep_X4_isImage : GoodIn wsX4_keep (va_wsS RX4 178 yX4_isImage wsX4_isImage) := goodIn_app (goodIn_of _ (by decide +kernel)) ggX4_keep_X4_isImage
set_option maxRecDepth 20000 in
theorem ggX4_keep_X2_copy : GoodIn wsX4_keep wsX2_copy := goodIn_r _ [13, 14, 15, 16, 17, 18, 19, 20, 21, 22, 23, 31, 32, 33, 34, 35, 36] (by decide +kernel) (by decide +kernel)
set_option maxRecDepth 20000 in
theorem gX4_keep_X2_copy : GoodIn wsX4_keep (wsV RX4 181 RX2 yX2_copy wsX2_copy) := goodIn_app (goodIn_of _ (by decide +kernel)) ggX4_keep_X2_copy
theorem dX4_keep_0 : decode cX4_keep 0 = .ok (.iload_n 1, 1) := by decide +kernel
theorem dX4_keep_1 : decode cX4_keep 1 = .ok (.invokestatic 178, 3) := by decide +kernel
theorem dX4_keep_4 : decode cX4_keep 4 = .ok (.ifCond .ne 5, 3) := by decide +kernel
theorem dX4_keep_7 : decode cX4_keep 7 = .ok (.iconst (-1), 1) := by decide +kernel
theorem dX4_keep_8 : decode cX4_keep 8 = .ok (.ireturn, 1) := by decide +kernel
theorem dX4_keep_9 : decode cX4_keep 9 = .ok (.aload_n 0, 1) := by decide +kernel
theorem dX4_keep_10 : decode cX4_keep 10 = .ok (.getfield 41, 3) := by decide +kernel
theorem dX4_keep_13 : decode cX4_keep 13 = .ok (.iload_n 1, 1) := by decide +kernel
theorem dX4_keep_14 : decode cX4_keep 14 = .ok (.aaload, 1) := by decide +kernel
theorem dX4_keep_15 : decode cX4_keep 15 = .ok (.aload_n 0, 1) := by decide +kernel
theorem dX4_keep_16 : decode cX4_keep 16 = .ok (.getfield 10, 3) := by decide +kernel
theorem dX4_keep_19 : decode cX4_keep 19 = .ok (.invokevirtual 181, 3) := by decide +kernel
theorem dX4_keep_22 : decode cX4_keep 22 = .ok (.aload_n 0, 1) := by decide +kernel
theorem dX4_keep_23 : decode cX4_keep 23 = .ok (.getfield 45, 3) := by decide +kernel
theorem dX4_keep_26 : decode cX4_keep 26 = .ok (.iload_n 1, 1) := by decide +kernel
theorem dX4_keep_27 : decode cX4_keep 27 = .ok (.iconst 1, 1) := by decide +kernel
theorem dX4_keep_28 : decode cX4_keep 28 = .ok (.bastore, 1) := by decide +kernel
theorem dX4_keep_29 : decode cX4_keep 29 = .ok (.aload_n 0, 1) := by decide +kernel
theorem dX4_keep_30 : decode cX4_keep 30 = .ok (.getfield 10, 3) := by decide +kernel
theorem dX4_keep_33 : decode cX4_keep 33 = .ok (.getfield 90, 3) := by decide +kernel
theorem dX4_keep_36 : decode cX4_keep 36 = .ok (.ireturn, 1) := by decide +kernel
set_option maxRecDepth 20000 in
theorem ggX4_back_X4_isImage : GoodIn wsX4_back wsX4_isImage := goodIn_r _ [9] (by decide +kernel) (by decide +kernel)
set_option maxRecDepth 20000 in
theorem gX4_back_X4_isImage : GoodIn wsX4_back (va_wsS RX4 178 yX4_isImage wsX4_isImage) := goodIn_app (goodIn_of _ (by decide +kernel)) ggX4_back_X4_isImage
set_option maxRecDepth 20000 in
theorem ggX4_back_X1_push : GoodIn wsX4_back wsX1_push := goodIn_r _ [14, 15, 16, 17, 18, 19, 20, 21, 22, 23, 24, 25, 26, 27, 28, 29, 30, 31, 32, 47, 48, 49, 41, 42, 43, 44, 45, 46] (by decide +kernel) (by decide +kernel)
set_option maxRecDepth 20000 in
theorem gX4_back_X1_push : GoodIn wsX4_back (wsV RX4 53 RX1 yX1_push wsX1_push) := goodIn_app (goodIn_of _ (by decide +kernel)) ggX4_back_X1_push
set_option maxRecDepth 20000 in
theorem ggX4_back_X2_copy : GoodIn wsX4_back wsX2_copy := goodIn_r _ [22, 23, 24, 25, 26, 27, 28, 29, 30, 31, 32, 41, 42, 43, 44, 45, 46] (by decide +kernel) (by decide +kernel)
set_option maxRecDepth 20000 in
theorem gX4_back_X2_copy : GoodIn wsX4_back (wsV RX4 181 RX2 yX2_copy wsX2_copy) := goodIn_app (goodIn_of _ (by decide +kernel)) ggX4_back_X2_copy
theorem dX4_back_0 : decode cX4_back 0 = .ok (.iload_n 1, 1) := by decide +kernel
theorem dX4_back_1 : decode cX4_back 1 = .ok (.invokestatic 178, 3) := by decide +kernel
theorem dX4_back_4 : decode cX4_back 4 = .ok (.ifCond .ne 5, 3) := by decide +kernel
theorem dX4_back_7 : decode cX4_back 7 = .ok (.iconst (-1), 1) := by decide +kernel
theorem dX4_back_8 : decode cX4_back 8 = .ok (.ireturn, 1) := by decide +kernel
theorem dX4_back_9 : decode cX4_back 9 = .ok (.aload_n 0, 1) := by decide +kernel
theorem dX4_back_10 : decode cX4_back 10 = .ok (.getfield 45, 3) := by decide +kernel
theorem dX4_back_13 : decode cX4_back 13 = .ok (.iload_n 1, 1) := by decide +kernel
theorem dX4_back_14 : decode cX4_back 14 = .ok (.baload, 1) := by decide +kernel
theorem dX4_back_15 : decode cX4_back 15 = .ok (.ifCond .ne 6, 3) := by decide +kernel
theorem dX4_back_18 : decode cX4_back 18 = .ok (.bipush (-2), 2) := by decide +kernel
theorem dX4_back_20 : decode cX4_back 20 = .ok (.ireturn, 1) := by decide +kernel
theorem dX4_back_21 : decode cX4_back 21 = .ok (.aload_n 0, 1) := by decide +kernel
theorem dX4_back_22 : decode cX4_back 22 = .ok (.getfield 37, 3) := by decide +kernel
theorem dX4_back_25 : decode cX4_back 25 = .ok (.aload_n 0, 1) := by decide +kernel
theorem dX4_back_26 : decode cX4_back 26 = .ok (.getfield 10, 3) := by decide +kernel
theorem dX4_back_29 : decode cX4_back 29 = .ok (.invokevirtual 53, 3) := by decide +kernel
theorem dX4_back_32 : decode cX4_back 32 = .ok (.aload_n 0, 1) := by decide +kernel
theorem dX4_back_33 : decode cX4_back 33 = .ok (.getfield 10, 3) := by decide +kernel
theorem dX4_back_36 : decode cX4_back 36 = .ok (.aload_n 0, 1) := by decide +kernel
theorem dX4_back_37 : decode cX4_back 37 = .ok (.getfield 41, 3) := by decide +kernel
theorem dX4_back_40 : decode cX4_back 40 = .ok (.iload_n 1, 1) := by decide +kernel
theorem dX4_back_41 : decode cX4_back 41 = .ok (.aaload, 1) := by decide +kernel
theorem dX4_back_42 : decode cX4_back 42 = .ok (.invokevirtual 181, 3) := by decide +kernel
theorem dX4_back_45 : decode cX4_back 45 = .ok (.aload_n 0, 1) := by decide +kernel
theorem dX4_back_46 : decode cX4_back 46 = .ok (.getfield 10, 3) := by decide +kernel
theorem dX4_back_49 : decode cX4_back 49 = .ok (.getfield 90, 3) := by decide +kernel
theorem dX4_back_52 : decode cX4_back 52 = .ok (.ireturn, 1) := by decide +kernel
theorem dX4_isSetting_0 : decode cX4_isSetting 0 = .ok (.iload_n 0, 1) := by decide +kernel
theorem dX4_isSetting_1 : decode cX4_isSetting 1 = .ok (.ifCond .lt 13, 3) := by decide +kernel
theorem dX4_isSetting_4 : decode cX4_isSetting 4 = .ok (.iload_n 0, 1) := by decide +kernel
theorem dX4_isSetting_5 : decode cX4_isSetting 5 = .ok (.bipush 9, 2) := by decide +kernel
theorem dX4_isSetting_7 : decode cX4_isSetting 7 = .ok (.if_icmp .ge 7, 3) := by decide +kernel
theorem dX4_isSetting_10 : decode cX4_isSetting 10 = .ok (.iconst 1, 1) := by decide +kernel
theorem dX4_isSetting_11 : decode cX4_isSetting 11 = .ok (.goto 4, 3) := by decide +kernel
theorem dX4_isSetting_14 : decode cX4_isSetting 14 = .ok (.iconst 0, 1) := by decide +kernel
theorem dX4_isSetting_15 : decode cX4_isSetting 15 = .ok (.ireturn, 1) := by decide +kernel
theorem dX4_isImage_0 : decode cX4_isImage 0 = .ok (.iload_n 0, 1) := by decide +kernel
theorem dX4_isImage_1 : decode cX4_isImage 1 = .ok (.ifCond .lt 12, 3) := by decide +kernel
theorem dX4_isImage_4 : decode cX4_isImage 4 = .ok (.iload_n 0, 1) := by decide +kernel
theorem dX4_isImage_5 : decode cX4_isImage 5 = .ok (.iconst 2, 1) := by decide +kernel
theorem dX4_isImage_6 : decode cX4_isImage 6 = .ok (.if_icmp .ge 7, 3) := by decide +kernel
theorem dX4_isImage_9 : decode cX4_isImage 9 = .ok (.iconst 1, 1) := by decide +kernel
theorem dX4_isImage_10 : decode cX4_isImage 10 = .ok (.goto 4, 3) := by decide +kernel
theorem dX4_isImage_13 : decode cX4_isImage 13 = .ok (.iconst 0, 1) := by decide +kernel
theorem dX4_isImage_14 : decode cX4_isImage 14 = .ok (.ireturn, 1) := by decide +kernel
set_option maxRecDepth 20000 in
theorem ggX4_isMovable_X2_isSlice : GoodIn wsX4_isMovable wsX2_isSlice := goodIn_r _ [6, 7, 15, 16, 17, 18, 19, 20] (by decide +kernel) (by decide +kernel)
set_option maxRecDepth 20000 in
theorem gX4_isMovable_X2_isSlice : GoodIn wsX4_isMovable (wsV RX4 100 RX2 yX2_isSlice wsX2_isSlice) := goodIn_app (goodIn_of _ (by decide +kernel)) ggX4_isMovable_X2_isSlice
theorem dX4_isMovable_0 : decode cX4_isMovable 0 = .ok (.iload_n 1, 1) := by decide +kernel
theorem dX4_isMovable_1 : decode cX4_isMovable 1 = .ok (.ifCond .le 18, 3) := by decide +kernel
theorem dX4_isMovable_4 : decode cX4_isMovable 4 = .ok (.aload_n 0, 1) := by decide +kernel
theorem dX4_isMovable_5 : decode cX4_isMovable 5 = .ok (.getfield 10, 3) := by decide +kernel
theorem dX4_isMovable_8 : decode cX4_isMovable 8 = .ok (.iload_n 1, 1) := by decide +kernel
theorem dX4_isMovable_9 : decode cX4_isMovable 9 = .ok (.invokevirtual 100, 3) := by decide +kernel
theorem dX4_isMovable_12 : decode cX4_isMovable 12 = .ok (.ifCond .eq 7, 3) := by decide +kernel
theorem dX4_isMovable_15 : decode cX4_isMovable 15 = .ok (.iconst 1, 1) := by decide +kernel
theorem dX4_isMovable_16 : decode cX4_isMovable 16 = .ok (.goto 4, 3) := by decide +kernel
theorem dX4_isMovable_19 : decode cX4_isMovable 19 = .ok (.iconst 0, 1) := by decide +kernel
theorem dX4_isMovable_20 : decode cX4_isMovable 20 = .ok (.ireturn, 1) := by decide +kernel
