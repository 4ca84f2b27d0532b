/-! the law: what its calls need of its conditions -/
set_option maxRecDepth 20000 in
theorem gq_areSlices_0 : GoodIn wsL_law [.code yL_areSlices cL_areSlices 10 (some .boolean)] := goodIn_r _ [316] (by decide +kernel) (by decide +kernel)
set_option maxRecDepth 20000 in
theorem gq_areSlices_1 : GoodIn wsL_law wsL_areSlices_r1 := goodIn_r _ [78, 79, 80, 2, 81, 12, 82, 83, 84, 20, 24, 85, 86, 87, 88, 19, 89, 62, 63, 90, 59, 91, 92, 93] (by decide +kernel) (by decide +kernel)
set_option maxRecDepth 20000 in
theorem gq_areSlices_2 : GoodIn wsL_law wsL_areSlices_r2 := goodIn_r _ [11, 94, 42, 95, 96, 97, 98, 99, 100, 61, 101, 102, 103, 104, 43, 105, 106, 107, 108, 34, 33, 109, 110, 111] (by decide +kernel) (by decide +kernel)
set_option maxRecDepth 20000 in
theorem gq_areSlices_3 : GoodIn wsL_law wsL_areSlices_r3 := goodIn_r _ [112, 113, 114, 115, 116, 15, 117, 54, 118, 53, 119, 120, 121, 122, 123, 124, 125, 52, 126, 127, 128, 129, 49, 50] (by decide +kernel) (by decide +kernel)
set_option maxRecDepth 20000 in
theorem gq_areSlices_4 : GoodIn wsL_law wsL_areSlices_r4 := goodIn_r _ [51, 130, 131, 132, 133, 134, 135, 136, 137, 138, 139, 140, 141, 142, 143, 144, 145, 146, 147, 148, 149, 150, 151, 152] (by decide +kernel) (by decide +kernel)
set_option maxRecDepth 20000 in
theorem gq_areSlices_5 : GoodIn wsL_law wsL_areSlices_r5 := goodIn_r _ [153, 154, 155, 156, 157, 158, 159, 160, 161, 162, 163, 164, 165, 166, 167, 168, 169, 170, 171, 172, 173, 174, 175, 176] (by decide +kernel) (by decide +kernel)
set_option maxRecDepth 20000 in
theorem gq_areSlices_6 : GoodIn wsL_law wsL_areSlices_r6 := goodIn_r _ [177, 178, 179, 180, 181, 182, 183, 184, 185, 186, 187, 188, 189, 317, 318, 319, 320, 224, 321, 16, 322, 256, 257, 258] (by decide +kernel) (by decide +kernel)
set_option maxRecDepth 20000 in
theorem gq_areSlices_7 : GoodIn wsL_law wsL_areSlices_r7 := goodIn_r _ [259, 323, 324, 325, 326, 327, 328, 329, 330, 331, 332, 44, 333, 334, 335, 336, 337, 338, 35, 339, 340, 341, 342, 285] (by decide +kernel) (by decide +kernel)
set_option maxRecDepth 20000 in
theorem gq_areSlices_8 : GoodIn wsL_law wsL_areSlices_r8 := goodIn_r _ [343, 344, 345, 346, 245, 246, 247, 347, 348, 349, 350, 234, 235, 236, 237, 238] (by decide +kernel) (by decide +kernel)
theorem ggL_law_L_areSlices : GoodIn wsL_law wsL_areSlices := goodIn_app gq_areSlices_0 (goodIn_app (goodIn_app (goodIn_app (goodIn_app (goodIn_app (goodIn_app gq_areSlices_1 (goodIn_app gq_areSlices_2 (goodIn_app gq_areSlices_3 (goodIn_app gq_areSlices_4 (goodIn_app gq_areSlices_5 (goodIn_app gq_areSlices_6 (goodIn_app gq_areSlices_7 gq_areSlices_8))))))) glX4) glX2) glX1) glX3) glX0)
set_option maxRecDepth 20000 in
theorem gL_law_L_areSlices : GoodIn wsL_law (va_wsS RL 99 yL_areSlices wsL_areSlices) := goodIn_app (goodIn_of _ (by decide +kernel)) ggL_law_L_areSlices
