/-! the law: what its calls need of its conditions -/
set_option maxRecDepth 20000 in
theorem gq_areSteps_0 : GoodIn wsL_law [.code yL_areSteps cL_areSteps 12 (some .boolean)] := goodIn_r _ [382] (by decide +kernel) (by decide +kernel)
set_option maxRecDepth 20000 in
theorem gq_areSteps_1 : GoodIn wsL_law wsL_areSteps_r1 := goodIn_r _ [343, 344, 345, 2, 346, 12, 83, 245, 246, 247, 78, 79, 80, 81, 82, 84, 20, 24, 85, 86, 87, 88, 19, 89] (by decide +kernel) (by decide +kernel)
set_option maxRecDepth 20000 in
theorem gq_areSteps_2 : GoodIn wsL_law wsL_areSteps_r2 := goodIn_r _ [62, 63, 90, 59, 91, 92, 93, 11, 94, 42, 95, 96, 97, 98, 99, 100, 61, 101, 102, 103, 104, 43, 105, 106] (by decide +kernel) (by decide +kernel)
set_option maxRecDepth 20000 in
theorem gq_areSteps_3 : GoodIn wsL_law wsL_areSteps_r3 := goodIn_r _ [107, 108, 34, 33, 109, 110, 111, 112, 113, 114, 115, 116, 15, 117, 54, 118, 53, 119, 120, 121, 122, 123, 124, 125] (by decide +kernel) (by decide +kernel)
set_option maxRecDepth 20000 in
theorem gq_areSteps_4 : GoodIn wsL_law wsL_areSteps_r4 := goodIn_r _ [52, 126, 127, 128, 129, 49, 50, 51, 130, 131, 132, 133, 134, 135, 136, 137, 138, 139, 140, 141, 142, 143, 144, 145] (by decide +kernel) (by decide +kernel)
set_option maxRecDepth 20000 in
theorem gq_areSteps_5 : GoodIn wsL_law wsL_areSteps_r5 := goodIn_r _ [146, 147, 148, 149, 150, 151, 152, 153, 154, 155, 156, 157, 158, 159, 160, 161, 162, 163, 164, 165, 166, 167, 168, 169] (by decide +kernel) (by decide +kernel)
set_option maxRecDepth 20000 in
theorem gq_areSteps_6 : GoodIn wsL_law wsL_areSteps_r6 := goodIn_r _ [170, 171, 172, 173, 174, 175, 176, 177, 178, 179, 180, 181, 182, 183, 184, 185, 186, 187, 188, 189, 317, 318, 319, 320] (by decide +kernel) (by decide +kernel)
set_option maxRecDepth 20000 in
theorem gq_areSteps_7 : GoodIn wsL_law wsL_areSteps_r7 := goodIn_r _ [224, 321, 16, 322, 256, 257, 258, 259, 323, 324, 325, 326, 327, 328, 329, 330, 331, 332, 44, 333, 334, 335, 336, 337] (by decide +kernel) (by decide +kernel)
set_option maxRecDepth 20000 in
theorem gq_areSteps_8 : GoodIn wsL_law wsL_areSteps_r8 := goodIn_r _ [338, 35, 383, 384, 385, 386, 387, 388, 389, 390, 375, 376, 377, 378, 379, 391, 392, 393, 394, 395] (by decide +kernel) (by decide +kernel)
theorem ggL_law_L_areSteps : GoodIn wsL_law wsL_areSteps := goodIn_app gq_areSteps_0 (goodIn_app (goodIn_app (goodIn_app (goodIn_app (goodIn_app (goodIn_app gq_areSteps_1 (goodIn_app gq_areSteps_2 (goodIn_app gq_areSteps_3 (goodIn_app gq_areSteps_4 (goodIn_app gq_areSteps_5 (goodIn_app gq_areSteps_6 (goodIn_app gq_areSteps_7 gq_areSteps_8))))))) glX4) glX2) glX1) glX3) glX0)
set_option maxRecDepth 20000 in
theorem gL_law_L_areSteps : GoodIn wsL_law (va_wsS RL 107 yL_areSteps wsL_areSteps) := goodIn_app (goodIn_of _ (by decide +kernel)) ggL_law_L_areSteps
