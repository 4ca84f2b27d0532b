/-! the law: its names, instructions, what its calls need (printed) -/
set_option maxRecDepth 20000 in
theorem ggL_change_X4_told : GoodIn wsL_change wsX4_told := goodIn_r _ [5, 6, 7, 8, 9, 10, 11, 12, 13, 14, 15, 16, 17, 18, 19, 20, 21, 22, 23, 24, 25, 26, 27, 28, 29, 30, 31, 32, 33, 34, 35, 36, 37, 38, 39, 40, 41, 42, 43, 44, 45, 46, 47, 48, 49, 50, 51, 52, 53, 54, 55, 56, 57, 58, 59, 60, 61, 62, 63, 64, 65, 66, 67, 68, 69, 70, 71, 72, 73, 74, 75, 76, 77, 78, 79, 80, 81, 82, 83, 84, 85, 86, 87, 88, 89, 90, 91, 92, 93, 94, 95, 96, 97, 98, 99, 100, 101, 102, 103, 104, 105, 106, 107, 108, 109, 110, 111, 112, 113, 114, 115, 116, 117, 118, 119, 120, 121, 122, 123, 124, 125, 126, 127, 128, 129, 130, 131, 132, 133, 265, 266, 267, 268, 269, 270, 271, 272, 273, 274, 275, 276, 277, 278, 279, 280, 281, 282, 283, 284, 285, 286, 287, 288, 289, 290, 291, 292] (by decide +kernel) (by decide +kernel)
set_option maxRecDepth 20000 in
theorem gL_change_X4_told : GoodIn wsL_change (wsV RL 9 RX4 yX4_told wsX4_told) := goodIn_app (goodIn_of _ (by decide +kernel)) ggL_change_X4_told
set_option maxRecDepth 20000 in
theorem ggL_change_L_low : GoodIn wsL_change wsL_low := goodIn_r _ [137, 138] (by decide +kernel) (by decide +kernel)
set_option maxRecDepth 20000 in
theorem gL_change_L_low : GoodIn wsL_change (va_wsS RL 15 yL_low wsL_low) := goodIn_app (goodIn_of _ (by decide +kernel)) ggL_change_L_low
set_option maxRecDepth 20000 in
theorem ggL_change_X4_begin : GoodIn wsL_change wsX4_begin := goodIn_r _ [142, 11, 6, 7, 143, 144, 145, 146, 147, 148, 149, 150, 151, 152, 153, 25, 154, 45, 44, 155, 156, 157, 158, 159, 27, 39, 160, 161, 162, 163, 164, 165, 166, 167, 168, 265, 266, 267, 268, 269, 270, 271, 272, 273, 274, 275, 276, 277, 278, 279, 280] (by decide +kernel) (by decide +kernel)
set_option maxRecDepth 20000 in
theorem gL_change_X4_begin : GoodIn wsL_change (wsV RL 21 RX4 yX4_begin wsX4_begin) := goodIn_app (goodIn_of _ (by decide +kernel)) ggL_change_X4_begin
set_option maxRecDepth 20000 in
theorem ggL_change_X4_find : GoodIn wsL_change wsX4_find := goodIn_r _ [172, 11, 6, 8, 173, 9, 143, 144, 145, 146, 147, 148, 149, 150, 151, 152, 153, 25, 154, 45, 44, 155, 156, 157, 158, 159, 27, 39, 160, 174, 175, 176, 177, 178, 166, 167, 168, 265, 266, 267, 268, 269, 270, 271, 272, 273, 274, 275, 276, 277, 278, 279, 280] (by decide +kernel) (by decide +kernel)
set_option maxRecDepth 20000 in
theorem gL_change_X4_find : GoodIn wsL_change (wsV RL 24 RX4 yX4_find wsX4_find) := goodIn_app (goodIn_of _ (by decide +kernel)) ggL_change_X4_find
set_option maxRecDepth 20000 in
theorem ggL_change_X4_sound : GoodIn wsL_change wsX4_sound := goodIn_r _ [182, 6, 11, 183, 184, 185, 186, 25, 187, 45, 143, 144, 145, 146, 147, 148, 149, 150, 151, 152, 153, 154, 44, 155, 156, 157, 158, 159, 27, 39, 160, 265, 266, 267, 268, 269, 270, 271, 272, 273, 274, 275, 276, 277, 278, 279, 280] (by decide +kernel) (by decide +kernel)
set_option maxRecDepth 20000 in
theorem gL_change_X4_sound : GoodIn wsL_change (wsV RL 28 RX4 yX4_sound wsX4_sound) := goodIn_app (goodIn_of _ (by decide +kernel)) ggL_change_X4_sound
set_option maxRecDepth 20000 in
theorem ggL_change_X4_set : GoodIn wsL_change wsX4_set := goodIn_r _ [191, 192, 193, 11, 6, 8, 194, 195, 4, 196, 143, 144, 145, 146, 147, 148, 149, 150, 151, 152, 153, 25, 154, 45, 44, 155, 156, 157, 158, 159, 27, 39, 160, 265, 266, 267, 268, 269, 270, 271, 272, 273, 274, 275, 276, 277, 278, 279, 280] (by decide +kernel) (by decide +kernel)
set_option maxRecDepth 20000 in
theorem gL_change_X4_set : GoodIn wsL_change (wsV RL 32 RX4 yX4_set wsX4_set) := goodIn_app (goodIn_of _ (by decide +kernel)) ggL_change_X4_set
set_option maxRecDepth 20000 in
theorem ggL_change_X4_mark : GoodIn wsL_change wsX4_mark := goodIn_r _ [200, 6, 173, 9, 11, 184, 185, 186, 25, 187, 45, 201, 202, 203, 204, 44, 39, 205, 206, 207, 208, 143, 144, 145, 146, 147, 148, 149, 150, 151, 152, 153, 154, 155, 156, 157, 158, 159, 27, 160, 209, 210, 211, 212, 165, 166, 167, 168, 265, 266, 267, 268, 269, 270, 271, 272, 273, 274, 275, 276, 277, 278, 279, 280] (by decide +kernel) (by decide +kernel)
set_option maxRecDepth 20000 in
theorem gL_change_X4_mark : GoodIn wsL_change (wsV RL 35 RX4 yX4_mark wsX4_mark) := goodIn_app (goodIn_of _ (by decide +kernel)) ggL_change_X4_mark
set_option maxRecDepth 20000 in
theorem ggL_change_X4_unmark : GoodIn wsL_change wsX4_unmark := goodIn_r _ [216, 11, 6, 9, 217, 218, 219, 4, 220, 205, 206, 207, 25, 208, 44, 143, 144, 145, 146, 147, 148, 149, 150, 151, 152, 153, 154, 45, 155, 156, 157, 158, 159, 27, 39, 160, 221, 222, 223, 224, 165, 166, 167, 168, 265, 266, 267, 268, 269, 270, 271, 272, 273, 274, 275, 276, 277, 278, 279, 280] (by decide +kernel) (by decide +kernel)
set_option maxRecDepth 20000 in
theorem gL_change_X4_unmark : GoodIn wsL_change (wsV RL 38 RX4 yX4_unmark wsX4_unmark) := goodIn_app (goodIn_of _ (by decide +kernel)) ggL_change_X4_unmark
set_option maxRecDepth 20000 in
theorem ggL_change_X4_moveMark : GoodIn wsL_change wsX4_moveMark := goodIn_r _ [228, 6, 173, 11, 217, 218, 219, 4, 220, 205, 206, 207, 25, 208, 44, 184, 185, 186, 187, 45, 229, 41, 42, 43, 39, 143, 144, 145, 146, 147, 148, 149, 150, 151, 152, 153, 154, 155, 156, 157, 158, 159, 27, 160, 265, 266, 267, 268, 269, 270, 271, 272, 273, 274, 275, 276, 277, 278, 279, 280] (by decide +kernel) (by decide +kernel)
set_option maxRecDepth 20000 in
theorem gL_change_X4_moveMark : GoodIn wsL_change (wsV RL 41 RX4 yX4_moveMark wsX4_moveMark) := goodIn_app (goodIn_of _ (by decide +kernel)) ggL_change_X4_moveMark
set_option maxRecDepth 20000 in
theorem ggL_change_X4_reverse : GoodIn wsL_change wsX4_reverse := goodIn_r _ [233, 11, 6, 9, 234, 143, 144, 145, 146, 147, 148, 149, 150, 151, 152, 153, 25, 154, 45, 44, 155, 156, 157, 158, 159, 27, 39, 160, 235, 236, 237, 238, 265, 266, 267, 268, 269, 270, 271, 272, 273, 274, 275, 276, 277, 278, 279, 280] (by decide +kernel) (by decide +kernel)
set_option maxRecDepth 20000 in
theorem gL_change_X4_reverse : GoodIn wsL_change (wsV RL 44 RX4 yX4_reverse wsX4_reverse) := goodIn_app (goodIn_of _ (by decide +kernel)) ggL_change_X4_reverse
set_option maxRecDepth 20000 in
theorem ggL_change_X4_swap : GoodIn wsL_change wsX4_swap := goodIn_r _ [242, 6, 11, 234, 205, 206, 207, 25, 208, 44, 143, 144, 145, 146, 147, 148, 149, 150, 151, 152, 153, 154, 45, 155, 156, 157, 158, 159, 27, 39, 160, 235, 236, 237, 238, 265, 266, 267, 268, 269, 270, 271, 272, 273, 274, 275, 276, 277, 278, 279, 280] (by decide +kernel) (by decide +kernel)
set_option maxRecDepth 20000 in
theorem gL_change_X4_swap : GoodIn wsL_change (wsV RL 47 RX4 yX4_swap wsX4_swap) := goodIn_app (goodIn_of _ (by decide +kernel)) ggL_change_X4_swap
set_option maxRecDepth 20000 in
theorem ggL_change_X4_undo : GoodIn wsL_change wsX4_undo := goodIn_r _ [246, 11, 12, 6, 247, 248, 249, 146, 250, 149, 148, 150, 151, 152, 153, 25, 154, 45, 44, 155, 156, 157, 158, 159, 27, 39, 160, 265, 266, 267, 268, 269, 270, 271, 278, 279, 280, 272, 273, 274, 275, 276, 277] (by decide +kernel) (by decide +kernel)
set_option maxRecDepth 20000 in
theorem gL_change_X4_undo : GoodIn wsL_change (wsV RL 50 RX4 yX4_undo wsX4_undo) := goodIn_app (goodIn_of _ (by decide +kernel)) ggL_change_X4_undo
set_option maxRecDepth 20000 in
theorem ggL_change_X4_keep : GoodIn wsL_change wsX4_keep := goodIn_r _ [254, 255, 6, 256, 9, 257, 258, 4, 259, 260, 152, 153, 25, 154, 45, 44, 155, 156, 157, 158, 159, 27, 39, 160, 265, 266, 267, 268, 269, 270, 271, 272, 273, 274, 275, 276, 277] (by decide +kernel) (by decide +kernel)
set_option maxRecDepth 20000 in
theorem gL_change_X4_keep : GoodIn wsL_change (wsV RL 53 RX4 yX4_keep wsX4_keep) := goodIn_app (goodIn_of _ (by decide +kernel)) ggL_change_X4_keep
set_option maxRecDepth 20000 in
theorem ggL_change_X4_back : GoodIn wsL_change wsX4_back := goodIn_r _ [264, 256, 11, 6, 255, 9, 257, 258, 4, 259, 143, 144, 145, 146, 147, 148, 149, 150, 151, 152, 153, 25, 154, 45, 44, 155, 156, 157, 158, 159, 27, 39, 160, 260, 265, 266, 267, 268, 269, 270, 271, 272, 273, 274, 275, 276, 277, 278, 279, 280] (by decide +kernel) (by decide +kernel)
set_option maxRecDepth 20000 in
theorem gL_change_X4_back : GoodIn wsL_change (wsV RL 56 RX4 yX4_back wsX4_back) := goodIn_app (goodIn_of _ (by decide +kernel)) ggL_change_X4_back
set_option maxRecDepth 20000 in
theorem ggL_areSlices_X4_told : GoodIn wsL_areSlices wsX4_told := goodIn_r _ [5, 6, 7, 8, 9, 10, 11, 12, 13, 14, 15, 16, 17, 18, 19, 20, 21, 22, 23, 24, 25, 26, 27, 28, 29, 30, 31, 32, 33, 34, 35, 36, 37, 38, 39, 40, 41, 42, 43, 44, 45, 46, 47, 48, 49, 50, 51, 52, 53, 54, 55, 56, 57, 58, 59, 60, 61, 62, 63, 64, 65, 66, 67, 68, 69, 70, 71, 72, 73, 74, 75, 76, 77, 78, 79, 80, 81, 82, 83, 84, 85, 86, 87, 88, 89, 90, 91, 92, 93, 94, 95, 96, 97, 98, 99, 100, 101, 102, 103, 104, 105, 106, 107, 108, 109, 110, 111, 112, 113, 114, 115, 116, 117, 118, 119, 120, 121, 122, 123, 124, 125, 126, 127, 128, 129, 130, 131, 132, 133, 185, 186, 187, 188, 189, 190, 191, 192, 193, 194, 195, 196, 197, 198, 199, 200, 201, 202, 203, 204, 205, 206, 207, 208, 209, 210, 211, 212] (by decide +kernel) (by decide +kernel)
set_option maxRecDepth 20000 in
theorem gL_areSlices_X4_told : GoodIn wsL_areSlices (wsV RL 9 RX4 yX4_told wsX4_told) := goodIn_app (goodIn_of _ (by decide +kernel)) ggL_areSlices_X4_told
set_option maxRecDepth 20000 in
theorem ggL_areSlices_X4_slice : GoodIn wsL_areSlices wsX4_slice := goodIn_r _ [137, 6, 138, 10, 139, 140, 141, 142, 143, 144, 25, 145, 44, 146, 36, 37, 38, 39, 27, 40, 41, 42, 43, 45, 13, 14, 15, 16, 17, 18, 19, 20, 21, 22, 23, 24, 26, 28, 29, 30, 31, 32, 33, 34, 35, 46, 47, 48, 49, 50, 51, 52, 53, 54, 55, 56, 57, 58, 59, 60, 61, 62, 63, 64, 65, 66, 67, 68, 69, 70, 71, 72, 73, 74, 75, 76, 77, 78, 79, 80, 81, 82, 83, 84, 85, 86, 87, 88, 89, 90, 91, 92, 93, 94, 95, 96, 97, 98, 99, 100, 101, 102, 103, 104, 105, 106, 107, 108, 109, 110, 111, 112, 113, 114, 115, 147, 148, 149, 150, 151, 130, 152, 153, 154, 155, 156, 157, 158, 127, 128, 129, 131, 132, 133, 159, 160, 161, 162, 163, 185, 186, 187, 188, 189, 190, 191, 192, 193, 194, 195, 196, 197, 201, 202, 203, 204, 205, 206, 207, 208, 209, 210, 211, 212] (by decide +kernel) (by decide +kernel)
set_option maxRecDepth 20000 in
theorem gL_areSlices_X4_slice : GoodIn wsL_areSlices (wsV RL 59 RX4 yX4_slice wsX4_slice) := goodIn_app (goodIn_of _ (by decide +kernel)) ggL_areSlices_X4_slice
set_option maxRecDepth 20000 in
theorem ggL_areSlices_X4_order : GoodIn wsL_areSlices wsX4_order := goodIn_r _ [167, 6, 168, 142, 143, 144, 25, 145, 44, 185, 186, 187, 188, 189, 190, 191, 192, 193, 194, 195, 196, 197] (by decide +kernel) (by decide +kernel)
set_option maxRecDepth 20000 in
theorem gL_areSlices_X4_order : GoodIn wsL_areSlices (wsV RL 62 RX4 yX4_order wsX4_order) := goodIn_app (goodIn_of _ (by decide +kernel)) ggL_areSlices_X4_order
set_option maxRecDepth 20000 in
theorem ggL_areSlices_X4_setting : GoodIn wsL_areSlices wsX4_setting := goodIn_r _ [172, 6, 8, 173, 174, 4, 175, 185, 186, 187, 188, 189, 190, 191, 192, 193, 194, 195, 196, 197] (by decide +kernel) (by decide +kernel)
set_option maxRecDepth 20000 in
theorem gL_areSlices_X4_setting : GoodIn wsL_areSlices (wsV RL 65 RX4 yX4_setting wsX4_setting) := goodIn_app (goodIn_of _ (by decide +kernel)) ggL_areSlices_X4_setting
set_option maxRecDepth 20000 in
theorem ggL_areSlices_X4_energy : GoodIn wsL_areSlices wsX4_energy := goodIn_r _ [179, 6, 180, 181, 182, 183, 25, 184, 45, 185, 186, 187, 188, 189, 190, 191, 192, 193, 194, 195, 196, 197] (by decide +kernel) (by decide +kernel)
set_option maxRecDepth 20000 in
theorem gL_areSlices_X4_energy : GoodIn wsL_areSlices (wsV RL 68 RX4 yX4_energy wsX4_energy) := goodIn_app (goodIn_of _ (by decide +kernel)) ggL_areSlices_X4_energy
