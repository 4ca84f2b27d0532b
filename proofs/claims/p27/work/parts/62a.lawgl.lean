/-! the law: what its calls need of its conditions -/
set_option maxRecDepth 20000 in
theorem gq_change_0 : GoodIn wsL_law [.code yL_change cL_change 6 (some .int)] := goodIn_r _ [77] (by decide +kernel) (by decide +kernel)
set_option maxRecDepth 20000 in
theorem gq_change_1 : GoodIn wsL_law wsL_change_r1 := goodIn_r _ [78, 79, 80, 2, 81, 12, 82, 83, 84, 20, 24, 85, 86, 87, 88, 19, 89, 62, 63, 90, 59, 91, 92, 93] (by decide +kernel) (by decide +kernel)
set_option maxRecDepth 20000 in
theorem gq_change_2 : GoodIn wsL_law wsL_change_r2 := goodIn_r _ [11, 94, 42, 95, 96, 97, 98, 99, 100, 61, 101, 102, 103, 104, 43, 105, 106, 107, 108, 34, 33, 109, 110, 111] (by decide +kernel) (by decide +kernel)
set_option maxRecDepth 20000 in
theorem gq_change_3 : GoodIn wsL_law wsL_change_r3 := goodIn_r _ [112, 113, 114, 115, 116, 15, 117, 54, 118, 53, 119, 120, 121, 122, 123, 124, 125, 52, 126, 127, 128, 129, 49, 50] (by decide +kernel) (by decide +kernel)
set_option maxRecDepth 20000 in
theorem gq_change_4 : GoodIn wsL_law wsL_change_r4 := goodIn_r _ [51, 130, 131, 132, 133, 134, 135, 136, 137, 138, 139, 140, 141, 142, 143, 144, 145, 146, 147, 148, 149, 150, 151, 152] (by decide +kernel) (by decide +kernel)
set_option maxRecDepth 20000 in
theorem gq_change_5 : GoodIn wsL_law wsL_change_r5 := goodIn_r _ [153, 154, 155, 156, 157, 158, 159, 160, 161, 162, 163, 164, 165, 166, 167, 168, 169, 170, 171, 172, 173, 174, 175, 176] (by decide +kernel) (by decide +kernel)
set_option maxRecDepth 20000 in
theorem gq_change_6 : GoodIn wsL_law wsL_change_r6 := goodIn_r _ [177, 178, 179, 180, 181, 182, 183, 184, 185, 186, 187, 188, 189, 190, 191, 72, 192, 193, 194, 195, 196, 197, 198, 199] (by decide +kernel) (by decide +kernel)
set_option maxRecDepth 20000 in
theorem gq_change_7 : GoodIn wsL_law wsL_change_r7 := goodIn_r _ [200, 23, 201, 202, 69, 203, 204, 205, 206, 207, 35, 208, 209, 210, 211, 44, 212, 213, 214, 215, 216, 217, 218, 219] (by decide +kernel) (by decide +kernel)
set_option maxRecDepth 20000 in
theorem gq_change_8 : GoodIn wsL_law wsL_change_r8 := goodIn_r _ [220, 221, 222, 223, 224, 225, 226, 227, 228, 229, 230, 231, 232, 233, 234, 235, 236, 237, 238, 239, 240, 241, 242, 243] (by decide +kernel) (by decide +kernel)
set_option maxRecDepth 20000 in
theorem gq_change_9 : GoodIn wsL_law wsL_change_r9 := goodIn_r _ [244, 245, 246, 247, 248, 249, 250, 251, 252, 253, 254, 255, 256, 257, 258, 259, 260, 261, 262, 263, 264, 265, 266, 267] (by decide +kernel) (by decide +kernel)
set_option maxRecDepth 20000 in
theorem gq_change_10 : GoodIn wsL_law wsL_change_r10 := goodIn_r _ [268, 269, 270, 271, 272, 273, 274, 275, 276, 277, 278, 279, 280, 281, 282, 283, 284, 285, 286, 287, 288, 289, 290, 291] (by decide +kernel) (by decide +kernel)
set_option maxRecDepth 20000 in
theorem gq_change_11 : GoodIn wsL_law wsL_change_r11 := goodIn_r _ [292, 293, 294, 295, 296, 297, 298, 299, 300, 301, 302, 303, 304, 305, 25, 27, 306, 307, 308, 309, 310, 311, 312, 313] (by decide +kernel) (by decide +kernel)
theorem ggL_law_L_change : GoodIn wsL_law wsL_change := goodIn_app gq_change_0 (goodIn_app (goodIn_app (goodIn_app (goodIn_app (goodIn_app (goodIn_app gq_change_1 (goodIn_app gq_change_2 (goodIn_app gq_change_3 (goodIn_app gq_change_4 (goodIn_app gq_change_5 (goodIn_app gq_change_6 (goodIn_app gq_change_7 (goodIn_app gq_change_8 (goodIn_app gq_change_9 (goodIn_app gq_change_10 gq_change_11)))))))))) glX4) glX2) glX1) glX3) glX0)
set_option maxRecDepth 20000 in
theorem gL_law_L_change : GoodIn wsL_law (va_wsS RL 95 yL_change wsL_change) := goodIn_app (goodIn_of _ (by decide +kernel)) ggL_law_L_change
