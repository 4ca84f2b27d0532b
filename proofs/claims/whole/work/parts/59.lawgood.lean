/-! the law: what its calls need of its conditions -/
theorem inlX0 : ∀ w ∈ wsX00, w ∈ wsL_law := fun _ h => List.mem_append_left _ (List.mem_append_left _ (List.mem_append_left _ (List.mem_append_right _ h)))
theorem inX0 : ∀ w ∈ wsX00, w ∈ lw_tbl := fun w h => wsL_law_in w (inlX0 w h)
theorem inlX1 : ∀ w ∈ wsX10, w ∈ wsL_law := fun _ h => List.mem_append_left _ (List.mem_append_right _ h)
theorem inX1 : ∀ w ∈ wsX10, w ∈ lw_tbl := fun w h => wsL_law_in w (inlX1 w h)
theorem inlX2 : ∀ w ∈ wsX20, w ∈ wsL_law := fun _ h => List.mem_append_left _ (List.mem_append_left _ (List.mem_append_left _ (List.mem_append_left _ (List.mem_append_right _ h))))
theorem inX2 : ∀ w ∈ wsX20, w ∈ lw_tbl := fun w h => wsL_law_in w (inlX2 w h)
theorem inlX3 : ∀ w ∈ wsX30, w ∈ wsL_law := fun _ h => List.mem_append_left _ (List.mem_append_left _ (List.mem_append_right _ h))
theorem inX3 : ∀ w ∈ wsX30, w ∈ lw_tbl := fun w h => wsL_law_in w (inlX3 w h)
theorem inlX4 : ∀ w ∈ wsX40, w ∈ wsL_law := fun _ h => List.mem_append_left _ (List.mem_append_left _ (List.mem_append_left _ (List.mem_append_left _ (List.mem_append_left _ (List.mem_append_left _ (List.mem_append_right _ h))))))
theorem inX4 : ∀ w ∈ wsX40, w ∈ lw_tbl := fun w h => wsL_law_in w (inlX4 w h)
theorem inlX5 : ∀ w ∈ wsX50, w ∈ wsL_law := fun _ h => List.mem_append_left _ (List.mem_append_left _ (List.mem_append_left _ (List.mem_append_left _ (List.mem_append_left _ (List.mem_append_right _ h)))))
theorem inX5 : ∀ w ∈ wsX50, w ∈ lw_tbl := fun w h => wsL_law_in w (inlX5 w h)
set_option maxRecDepth 20000 in
theorem ggL_law_X4_init : GoodIn wsL_law wsX4_init := goodIn_r _ [8, 9, 10, 11, 12, 13, 14, 15, 16, 17, 18, 19, 20, 21, 22, 23, 24, 25, 26, 27, 28, 29, 30, 31, 32, 33, 34, 35, 36, 37, 38, 39, 40, 41, 42, 43, 44, 45, 46, 47, 48, 49, 50, 51, 52, 53, 54, 55, 56, 57, 58, 59, 60, 61, 62, 63, 64, 65, 66, 67, 68, 69, 70, 71, 72, 626, 627, 628, 629, 630, 631, 608, 609, 610, 611, 612, 613, 614, 632, 633, 634, 635, 636, 637, 638, 639, 640, 641, 642, 643, 644, 645, 646] (by decide +kernel) (by decide +kernel)
set_option maxRecDepth 20000 in
theorem gL_law_X4_init : GoodIn wsL_law (wsX4_init) := ggL_law_X4_init
set_option maxRecDepth 20000 in
theorem ggL_law_X5_init : GoodIn wsL_law wsX5_init := goodIn_r _ [75, 76, 10, 11, 31, 77, 78, 79, 80, 81, 82, 63, 83, 29, 84, 85, 86, 87, 5, 88, 89, 90, 91, 92, 615, 616, 617, 618, 619, 620, 621, 622, 623, 624, 625] (by decide +kernel) (by decide +kernel)
set_option maxRecDepth 20000 in
theorem gL_law_X5_init : GoodIn wsL_law (wsX5_init) := ggL_law_X5_init
set_option maxRecDepth 20000 in
theorem ggL_law_X4_begin : GoodIn wsL_law wsX4_begin := goodIn_r _ [96, 27, 15, 97, 98, 99, 100, 26, 101, 102, 72, 103, 104, 105, 106, 14, 107, 36, 37, 38, 108, 109, 110, 111, 45, 46, 47, 112, 113, 114, 115, 116, 117, 118, 119, 608, 609, 610, 611, 612, 613, 614, 626, 627, 628, 629, 630, 631, 644, 645, 646] (by decide +kernel) (by decide +kernel)
set_option maxRecDepth 20000 in
theorem gL_law_X4_begin : GoodIn wsL_law (wsV RL 13 RX4 yX4_begin wsX4_begin) := goodIn_app (goodIn_of _ (by decide +kernel)) ggL_law_X4_begin
set_option maxRecDepth 20000 in
theorem ggL_law_X5_begin : GoodIn wsL_law wsX5_begin := goodIn_r _ [123, 77, 124, 125, 5, 126, 127, 128, 129, 130, 131, 78, 85, 86, 87, 88, 89, 90, 91, 92, 615, 616, 617, 618, 619, 620, 621, 622, 623, 624, 625] (by decide +kernel) (by decide +kernel)
set_option maxRecDepth 20000 in
theorem gL_law_X5_begin : GoodIn wsL_law (wsV RL 17 RX5 yX5_begin wsX5_begin) := goodIn_app (goodIn_of _ (by decide +kernel)) ggL_law_X5_begin
set_option maxRecDepth 20000 in
theorem ggL_law_X4_sound : GoodIn wsL_law wsX4_sound := goodIn_r _ [135, 15, 27, 136, 137, 138, 139, 14, 140, 36, 98, 99, 100, 26, 101, 102, 72, 103, 104, 105, 106, 107, 37, 38, 108, 109, 110, 111, 45, 46, 47, 608, 609, 610, 611, 612, 613, 614, 626, 627, 628, 629, 630, 631, 644, 645, 646] (by decide +kernel) (by decide +kernel)
set_option maxRecDepth 20000 in
theorem gL_law_X4_sound : GoodIn wsL_law (wsV RL 18 RX4 yX4_sound wsX4_sound) := goodIn_app (goodIn_of _ (by decide +kernel)) ggL_law_X4_sound
set_option maxRecDepth 20000 in
theorem ggL_law_X5_sound : GoodIn wsL_law wsX5_sound := goodIn_r _ [144, 77, 145, 146, 147, 5, 148, 124, 125, 126, 127, 128, 129, 130, 131, 78, 615, 616, 617, 618, 619, 620, 621, 622, 623, 624, 625] (by decide +kernel) (by decide +kernel)
set_option maxRecDepth 20000 in
theorem gL_law_X5_sound : GoodIn wsL_law (wsV RL 22 RX5 yX5_sound wsX5_sound) := goodIn_app (goodIn_of _ (by decide +kernel)) ggL_law_X5_sound
set_option maxRecDepth 20000 in
theorem ggL_law_X4_set : GoodIn wsL_law wsX4_set := goodIn_r _ [152, 153, 154, 27, 15, 155, 156, 157, 2, 158, 98, 99, 100, 26, 101, 102, 72, 103, 104, 105, 106, 14, 107, 36, 37, 38, 108, 109, 110, 111, 45, 46, 47, 608, 609, 610, 611, 612, 613, 614, 626, 627, 628, 629, 630, 631, 644, 645, 646] (by decide +kernel) (by decide +kernel)
set_option maxRecDepth 20000 in
theorem gL_law_X4_set : GoodIn wsL_law (wsV RL 23 RX4 yX4_set wsX4_set) := goodIn_app (goodIn_of _ (by decide +kernel)) ggL_law_X4_set
set_option maxRecDepth 20000 in
theorem ggL_law_X5_set : GoodIn wsL_law wsX5_set := goodIn_r _ [162, 77, 163, 164, 5, 165, 166, 124, 125, 126, 127, 128, 129, 130, 131, 78, 615, 616, 617, 618, 619, 620, 621, 622, 623, 624, 625] (by decide +kernel) (by decide +kernel)
set_option maxRecDepth 20000 in
theorem gL_law_X5_set : GoodIn wsL_law (wsV RL 27 RX5 yX5_set wsX5_set) := goodIn_app (goodIn_of _ (by decide +kernel)) ggL_law_X5_set
set_option maxRecDepth 20000 in
theorem ggL_law_X4_find : GoodIn wsL_law wsX4_find := goodIn_r _ [170, 27, 15, 155, 171, 172, 98, 99, 100, 26, 101, 102, 72, 103, 104, 105, 106, 14, 107, 36, 37, 38, 108, 109, 110, 111, 45, 46, 47, 173, 174, 175, 176, 177, 117, 118, 119, 608, 609, 610, 611, 612, 613, 614, 626, 627, 628, 629, 630, 631, 644, 645, 646] (by decide +kernel) (by decide +kernel)
set_option maxRecDepth 20000 in
theorem gL_law_X4_find : GoodIn wsL_law (wsV RL 28 RX4 yX4_find wsX4_find) := goodIn_app (goodIn_of _ (by decide +kernel)) ggL_law_X4_find
set_option maxRecDepth 20000 in
theorem ggL_law_X5_find : GoodIn wsL_law wsX5_find := goodIn_r _ [181, 77, 80, 127, 128, 129, 5, 130, 131, 78, 182, 183, 184, 185, 89, 90, 91, 92, 615, 616, 617, 618, 619, 620, 621, 622, 623, 624, 625] (by decide +kernel) (by decide +kernel)
set_option maxRecDepth 20000 in
theorem gL_law_X5_find : GoodIn wsL_law (wsV RL 32 RX5 yX5_find wsX5_find) := goodIn_app (goodIn_of _ (by decide +kernel)) ggL_law_X5_find
set_option maxRecDepth 20000 in
theorem ggL_law_X4_mark : GoodIn wsL_law wsX4_mark := goodIn_r _ [189, 15, 171, 172, 27, 137, 138, 139, 14, 140, 36, 190, 191, 192, 193, 37, 46, 194, 195, 196, 197, 98, 99, 100, 26, 101, 102, 72, 103, 104, 105, 106, 107, 38, 108, 109, 110, 111, 45, 47, 198, 199, 200, 201, 116, 117, 118, 119, 608, 609, 610, 611, 612, 613, 614, 626, 627, 628, 629, 630, 631, 644, 645, 646] (by decide +kernel) (by decide +kernel)
set_option maxRecDepth 20000 in
theorem gL_law_X4_mark : GoodIn wsL_law (wsV RL 33 RX4 yX4_mark wsX4_mark) := goodIn_app (goodIn_of _ (by decide +kernel)) ggL_law_X4_mark
set_option maxRecDepth 20000 in
theorem ggL_law_X5_mark : GoodIn wsL_law wsX5_mark := goodIn_r _ [205, 77, 145, 146, 147, 5, 148, 124, 125, 126, 127, 128, 129, 130, 131, 78, 89, 90, 91, 92, 615, 616, 617, 618, 619, 620, 621, 622, 623, 624, 625] (by decide +kernel) (by decide +kernel)
set_option maxRecDepth 20000 in
theorem gL_law_X5_mark : GoodIn wsL_law (wsV RL 36 RX5 yX5_mark wsX5_mark) := goodIn_app (goodIn_of _ (by decide +kernel)) ggL_law_X5_mark
set_option maxRecDepth 20000 in
theorem ggL_law_X4_unmark : GoodIn wsL_law wsX4_unmark := goodIn_r _ [209, 27, 15, 172, 210, 211, 212, 2, 213, 194, 195, 196, 14, 197, 37, 98, 99, 100, 26, 101, 102, 72, 103, 104, 105, 106, 107, 36, 38, 108, 109, 110, 111, 45, 46, 47, 214, 215, 216, 217, 116, 117, 118, 119, 608, 609, 610, 611, 612, 613, 614, 626, 627, 628, 629, 630, 631, 644, 645, 646] (by decide +kernel) (by decide +kernel)
set_option maxRecDepth 20000 in
theorem gL_law_X4_unmark : GoodIn wsL_law (wsV RL 37 RX4 yX4_unmark wsX4_unmark) := goodIn_app (goodIn_of _ (by decide +kernel)) ggL_law_X4_unmark
set_option maxRecDepth 20000 in
theorem ggL_law_X5_unmark : GoodIn wsL_law wsX5_unmark := goodIn_r _ [221, 77, 222, 223, 224, 5, 225, 124, 125, 126, 127, 128, 129, 130, 131, 78, 89, 90, 91, 92, 615, 616, 617, 618, 619, 620, 621, 622, 623, 624, 625] (by decide +kernel) (by decide +kernel)
set_option maxRecDepth 20000 in
theorem gL_law_X5_unmark : GoodIn wsL_law (wsV RL 40 RX5 yX5_unmark wsX5_unmark) := goodIn_app (goodIn_of _ (by decide +kernel)) ggL_law_X5_unmark
set_option maxRecDepth 20000 in
theorem ggL_law_X4_moveMark : GoodIn wsL_law wsX4_moveMark := goodIn_r _ [229, 15, 171, 27, 210, 211, 212, 2, 213, 194, 195, 196, 14, 197, 37, 137, 138, 139, 140, 36, 230, 231, 232, 233, 46, 98, 99, 100, 26, 101, 102, 72, 103, 104, 105, 106, 107, 38, 108, 109, 110, 111, 45, 47, 608, 609, 610, 611, 612, 613, 614, 626, 627, 628, 629, 630, 631, 644, 645, 646] (by decide +kernel) (by decide +kernel)
set_option maxRecDepth 20000 in
theorem gL_law_X4_moveMark : GoodIn wsL_law (wsV RL 41 RX4 yX4_moveMark wsX4_moveMark) := goodIn_app (goodIn_of _ (by decide +kernel)) ggL_law_X4_moveMark
set_option maxRecDepth 20000 in
theorem ggL_law_X5_moveMark : GoodIn wsL_law wsX5_moveMark := goodIn_r _ [237, 77, 222, 223, 224, 5, 225, 124, 125, 126, 145, 146, 147, 148, 238, 239, 240, 241, 127, 128, 129, 130, 131, 78, 615, 616, 617, 618, 619, 620, 621, 622, 623, 624, 625] (by decide +kernel) (by decide +kernel)
set_option maxRecDepth 20000 in
theorem gL_law_X5_moveMark : GoodIn wsL_law (wsV RL 44 RX5 yX5_moveMark wsX5_moveMark) := goodIn_app (goodIn_of _ (by decide +kernel)) ggL_law_X5_moveMark
set_option maxRecDepth 20000 in
theorem ggL_law_X4_swap : GoodIn wsL_law wsX4_swap := goodIn_r _ [245, 15, 27, 246, 194, 195, 196, 14, 197, 37, 98, 99, 100, 26, 101, 102, 72, 103, 104, 105, 106, 107, 36, 38, 108, 109, 110, 111, 45, 46, 47, 247, 248, 249, 250, 608, 609, 610, 611, 612, 613, 614, 626, 627, 628, 629, 630, 631, 644, 645, 646] (by decide +kernel) (by decide +kernel)
set_option maxRecDepth 20000 in
theorem gL_law_X4_swap : GoodIn wsL_law (wsV RL 45 RX4 yX4_swap wsX4_swap) := goodIn_app (goodIn_of _ (by decide +kernel)) ggL_law_X4_swap
set_option maxRecDepth 20000 in
theorem ggL_law_X5_swap : GoodIn wsL_law wsX5_swap := goodIn_r _ [254, 77, 255, 256, 257, 5, 258, 124, 125, 126, 127, 128, 129, 130, 131, 78, 615, 616, 617, 618, 619, 620, 621, 622, 623, 624, 625] (by decide +kernel) (by decide +kernel)
set_option maxRecDepth 20000 in
theorem gL_law_X5_swap : GoodIn wsL_law (wsV RL 48 RX5 yX5_swap wsX5_swap) := goodIn_app (goodIn_of _ (by decide +kernel)) ggL_law_X5_swap
set_option maxRecDepth 20000 in
theorem ggL_law_X4_reverse : GoodIn wsL_law wsX4_reverse := goodIn_r _ [262, 27, 15, 172, 246, 98, 99, 100, 26, 101, 102, 72, 103, 104, 105, 106, 14, 107, 36, 37, 38, 108, 109, 110, 111, 45, 46, 47, 247, 248, 249, 250, 608, 609, 610, 611, 612, 613, 614, 626, 627, 628, 629, 630, 631, 644, 645, 646] (by decide +kernel) (by decide +kernel)
set_option maxRecDepth 20000 in
theorem gL_law_X4_reverse : GoodIn wsL_law (wsV RL 49 RX4 yX4_reverse wsX4_reverse) := goodIn_app (goodIn_of _ (by decide +kernel)) ggL_law_X4_reverse
set_option maxRecDepth 20000 in
theorem ggL_law_X5_reverse : GoodIn wsL_law wsX5_reverse := goodIn_r _ [266, 77, 127, 128, 129, 5, 130, 131, 78, 615, 616, 617, 618, 619, 620, 621, 622, 623, 624, 625] (by decide +kernel) (by decide +kernel)
set_option maxRecDepth 20000 in
theorem gL_law_X5_reverse : GoodIn wsL_law (wsV RL 52 RX5 yX5_reverse wsX5_reverse) := goodIn_app (goodIn_of _ (by decide +kernel)) ggL_law_X5_reverse
set_option maxRecDepth 20000 in
theorem ggL_law_X4_undo : GoodIn wsL_law wsX4_undo := goodIn_r _ [270, 27, 271, 15, 272, 273, 274, 26, 275, 72, 102, 103, 104, 105, 106, 14, 107, 36, 37, 38, 108, 109, 110, 111, 45, 46, 47, 608, 609, 610, 611, 612, 613, 614, 644, 645, 646, 626, 627, 628, 629, 630, 631] (by decide +kernel) (by decide +kernel)
set_option maxRecDepth 20000 in
theorem gL_law_X4_undo : GoodIn wsL_law (wsV RL 53 RX4 yX4_undo wsX4_undo) := goodIn_app (goodIn_of _ (by decide +kernel)) ggL_law_X4_undo
set_option maxRecDepth 20000 in
theorem ggL_law_X5_undo : GoodIn wsL_law wsX5_undo := goodIn_r _ [279, 131, 77, 78, 615, 616, 617, 618, 619, 620, 621, 622, 623, 624, 625] (by decide +kernel) (by decide +kernel)
set_option maxRecDepth 20000 in
theorem gL_law_X5_undo : GoodIn wsL_law (wsV RL 56 RX5 yX5_undo wsX5_undo) := goodIn_app (goodIn_of _ (by decide +kernel)) ggL_law_X5_undo
set_option maxRecDepth 20000 in
theorem ggL_law_X4_told : GoodIn wsL_law wsX4_told := goodIn_r _ [283, 15, 97, 155, 172, 23, 27, 271, 284, 285, 286, 22, 287, 65, 66, 288, 62, 289, 290, 291, 14, 292, 45, 293, 294, 295, 296, 297, 298, 64, 299, 300, 301, 302, 46, 303, 231, 232, 233, 37, 36, 304, 305, 306, 307, 308, 309, 310, 311, 18, 312, 57, 313, 56, 314, 315, 316, 317, 318, 319, 320, 55, 321, 322, 323, 324, 52, 53, 54, 325, 326, 327, 328, 329, 330, 331, 332, 333, 334, 335, 336, 337, 338, 339, 340, 341, 342, 343, 344, 345, 346, 347, 348, 349, 350, 351, 352, 353, 354, 355, 356, 357, 358, 359, 360, 361, 362, 363, 364, 365, 366, 367, 368, 369, 370, 371, 372, 373, 374, 375, 376, 377, 378, 379, 380, 381, 382, 383, 384, 608, 609, 610, 611, 612, 613, 614, 626, 627, 628, 629, 630, 631, 644, 645, 646, 640, 641, 642, 643, 632, 633, 634, 635, 636, 637, 638, 639] (by decide +kernel) (by decide +kernel)
set_option maxRecDepth 20000 in
theorem gL_law_X4_told : GoodIn wsL_law (wsV RL 57 RX4 yX4_told wsX4_told) := goodIn_app (goodIn_of _ (by decide +kernel)) ggL_law_X4_told
set_option maxRecDepth 20000 in
theorem ggL_law_X5_told : GoodIn wsL_law wsX5_told := goodIn_r _ [388, 77, 131, 389, 390, 391, 5, 392, 393, 394, 395, 396, 397, 398, 399, 400, 83, 401, 402, 82, 81, 403, 404, 405, 406, 407, 408, 409, 410, 411, 412, 413, 414, 415, 416, 417, 418, 238, 239, 240, 241, 419, 420, 421, 422, 423, 424, 425, 426, 84, 427, 428, 429, 430, 431, 432, 433, 434, 435, 436, 437, 438, 439, 440, 441, 442, 443, 444, 445, 446, 615, 616, 617, 618, 619, 620, 621, 622, 623, 624, 625] (by decide +kernel) (by decide +kernel)
set_option maxRecDepth 20000 in
theorem gL_law_X5_told : GoodIn wsL_law (wsV RL 60 RX5 yX5_told wsX5_told) := goodIn_app (goodIn_of _ (by decide +kernel)) ggL_law_X5_told
set_option maxRecDepth 20000 in
theorem ggL_law_X4_setting : GoodIn wsL_law wsX4_setting := goodIn_r _ [450, 15, 155, 156, 157, 2, 158, 608, 609, 610, 611, 612, 613, 614, 626, 627, 628, 629, 630, 631] (by decide +kernel) (by decide +kernel)
set_option maxRecDepth 20000 in
theorem gL_law_X4_setting : GoodIn wsL_law (wsV RL 61 RX4 yX4_setting wsX4_setting) := goodIn_app (goodIn_of _ (by decide +kernel)) ggL_law_X4_setting
