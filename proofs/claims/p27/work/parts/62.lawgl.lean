/-! the law: what its calls need of its conditions -/
theorem glX4 : GoodIn wsL_law wsX40 := goodIn_sub inlX4 (by decide +kernel)
theorem glX2 : GoodIn wsL_law wsX20 := goodIn_sub inlX2 (by decide +kernel)
theorem glX0 : GoodIn wsL_law wsX00 := goodIn_sub inlX0 (by decide +kernel)
theorem glX1 : GoodIn wsL_law wsX10 := goodIn_sub inlX1 (by decide +kernel)
theorem glX3 : GoodIn wsL_law wsX30 := goodIn_sub inlX3 (by decide +kernel)
set_option maxRecDepth 20000 in
theorem ggL_law_X4_init : GoodIn wsL_law wsX4_init := goodIn_r _ [5, 6, 7, 8, 9, 10, 11, 12, 13, 14, 15, 16, 17, 18, 19, 20, 21, 22, 23, 24, 25, 26, 27, 28, 29, 30, 31, 32, 33, 34, 35, 36, 37, 38, 39, 40, 41, 42, 43, 44, 45, 46, 47, 48, 49, 50, 51, 52, 53, 54, 55, 56, 57, 58, 59, 60, 61, 62, 63, 64, 65, 66, 67, 68, 69, 414, 415, 416, 417, 418, 419, 407, 408, 409, 410, 411, 412, 413, 420, 421, 422, 423, 424, 425, 426, 427, 428, 429, 430, 431, 432, 433, 434] (by decide +kernel) (by decide +kernel)
set_option maxRecDepth 20000 in
theorem gL_law_X4_init : GoodIn wsL_law (wsX4_init) := ggL_law_X4_init
set_option maxRecDepth 20000 in
theorem ggL_law_L_cell : GoodIn wsL_law wsL_cell := goodIn_r _ [73, 74] (by decide +kernel) (by decide +kernel)
set_option maxRecDepth 20000 in
theorem gL_law_L_cell : GoodIn wsL_law (va_wsS RL 91 yL_cell wsL_cell) := goodIn_app (goodIn_of _ (by decide +kernel)) ggL_law_L_cell
set_option maxRecDepth 20000 in
theorem ggL_law_X4_setting : GoodIn wsL_law wsX4_setting := goodIn_r _ [346, 12, 83, 245, 246, 2, 247, 407, 408, 409, 410, 411, 412, 413, 414, 415, 416, 417, 418, 419] (by decide +kernel) (by decide +kernel)
set_option maxRecDepth 20000 in
theorem gL_law_X4_setting : GoodIn wsL_law (wsV RL 65 RX4 yX4_setting wsX4_setting) := goodIn_app (goodIn_of _ (by decide +kernel)) ggL_law_X4_setting
set_option maxRecDepth 20000 in
theorem ggL_law_X4_marksWith : GoodIn wsL_law wsX4_marksWith := goodIn_r _ [399, 12, 29, 225, 226, 227, 11, 228, 33, 35, 42, 407, 408, 409, 410, 411, 412, 413, 414, 415, 416, 417, 418, 419] (by decide +kernel) (by decide +kernel)
set_option maxRecDepth 20000 in
theorem gL_law_X4_marksWith : GoodIn wsL_law (wsV RL 110 RX4 yX4_marksWith wsX4_marksWith) := goodIn_app (goodIn_of _ (by decide +kernel)) ggL_law_X4_marksWith
set_option maxRecDepth 20000 in
theorem ggL_law_X4_thresholdFor : GoodIn wsL_law wsX4_thresholdFor := goodIn_r _ [403, 12, 29, 82, 234, 225, 226, 227, 11, 228, 33, 35, 42, 407, 408, 409, 410, 411, 412, 413, 414, 415, 416, 417, 418, 419] (by decide +kernel) (by decide +kernel)
set_option maxRecDepth 20000 in
theorem gL_law_X4_thresholdFor : GoodIn wsL_law (wsV RL 113 RX4 yX4_thresholdFor wsX4_thresholdFor) := goodIn_app (goodIn_of _ (by decide +kernel)) ggL_law_X4_thresholdFor
