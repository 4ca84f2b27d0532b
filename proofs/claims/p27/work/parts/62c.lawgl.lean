/-! the law: what its calls need of its conditions -/
set_option maxRecDepth 20000 in
theorem gq_isLaid_0 : GoodIn wsL_law [.code yL_isLaid cL_isLaid 18 (some .boolean)] := goodIn_r _ [353] (by decide +kernel) (by decide +kernel)
set_option maxRecDepth 20000 in
theorem gq_isLaid_1 : GoodIn wsL_law wsL_isLaid_r1 := goodIn_r _ [354, 355, 78, 79, 80, 2, 81, 12, 82, 83, 84, 20, 24, 85, 86, 87, 88, 19, 89, 62, 63, 90, 59, 91] (by decide +kernel) (by decide +kernel)
set_option maxRecDepth 20000 in
theorem gq_isLaid_2 : GoodIn wsL_law wsL_isLaid_r2 := goodIn_r _ [92, 93, 11, 94, 42, 95, 96, 97, 98, 99, 100, 61, 101, 102, 103, 104, 43, 105, 106, 107, 108, 34, 33, 109] (by decide +kernel) (by decide +kernel)
set_option maxRecDepth 20000 in
theorem gq_isLaid_3 : GoodIn wsL_law wsL_isLaid_r3 := goodIn_r _ [110, 111, 112, 113, 114, 115, 116, 15, 117, 54, 118, 53, 119, 120, 121, 122, 123, 124, 125, 52, 126, 127, 128, 129] (by decide +kernel) (by decide +kernel)
set_option maxRecDepth 20000 in
theorem gq_isLaid_4 : GoodIn wsL_law wsL_isLaid_r4 := goodIn_r _ [49, 50, 51, 130, 131, 132, 133, 134, 135, 136, 137, 138, 139, 140, 141, 142, 143, 144, 145, 146, 147, 148, 149, 150] (by decide +kernel) (by decide +kernel)
set_option maxRecDepth 20000 in
theorem gq_isLaid_5 : GoodIn wsL_law wsL_isLaid_r5 := goodIn_r _ [151, 152, 153, 154, 155, 156, 157, 158, 159, 160, 161, 162, 163, 164, 165, 166, 167, 168, 169, 170, 171, 172, 173, 174] (by decide +kernel) (by decide +kernel)
set_option maxRecDepth 20000 in
theorem gq_isLaid_6 : GoodIn wsL_law wsL_isLaid_r6 := goodIn_r _ [175, 176, 177, 178, 179, 180, 181, 182, 183, 184, 185, 186, 187, 188, 189, 343, 344, 345, 346, 245, 246, 247, 317, 318] (by decide +kernel) (by decide +kernel)
set_option maxRecDepth 20000 in
theorem gq_isLaid_7 : GoodIn wsL_law wsL_isLaid_r7 := goodIn_r _ [319, 320, 224, 321, 16, 322, 256, 257, 258, 259, 323, 324, 325, 326, 327, 328, 329, 330, 331, 332, 44, 333, 334, 335] (by decide +kernel) (by decide +kernel)
set_option maxRecDepth 20000 in
theorem gq_isLaid_8 : GoodIn wsL_law wsL_isLaid_r8 := goodIn_r _ [336, 337, 338, 35, 356, 357, 358, 359, 285, 360, 361, 362, 363, 364, 365, 366, 367, 368, 369, 370, 371, 372, 373, 374] (by decide +kernel) (by decide +kernel)
set_option maxRecDepth 20000 in
theorem gq_isLaid_9 : GoodIn wsL_law wsL_isLaid_r9 := goodIn_r _ [375, 376, 377, 378, 379, 339, 340, 341, 342, 190, 191, 72, 192, 193] (by decide +kernel) (by decide +kernel)
theorem ggL_law_L_isLaid : GoodIn wsL_law wsL_isLaid := goodIn_app gq_isLaid_0 (goodIn_app (goodIn_app (goodIn_app (goodIn_app (goodIn_app (goodIn_app gq_isLaid_1 (goodIn_app gq_isLaid_2 (goodIn_app gq_isLaid_3 (goodIn_app gq_isLaid_4 (goodIn_app gq_isLaid_5 (goodIn_app gq_isLaid_6 (goodIn_app gq_isLaid_7 (goodIn_app gq_isLaid_8 gq_isLaid_9)))))))) glX4) glX2) glX1) glX3) glX0)
set_option maxRecDepth 20000 in
theorem gL_law_L_isLaid : GoodIn wsL_law (va_wsS RL 103 yL_isLaid wsL_isLaid) := goodIn_app (goodIn_of _ (by decide +kernel)) ggL_law_L_isLaid
