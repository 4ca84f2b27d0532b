/-! the law: what its calls need of its conditions, on -/
set_option maxRecDepth 20000 in
theorem ggL_law_X5_setting : GoodIn wsL_law wsX5_setting := goodIn_r _ [454, 77, 124, 125, 5, 126, 615, 616, 617, 618, 619, 620, 621, 622, 623, 624, 625] (by decide +kernel) (by decide +kernel)
set_option maxRecDepth 20000 in
theorem gL_law_X5_setting : GoodIn wsL_law (wsV RL 64 RX5 yX5_setting wsX5_setting) := goodIn_app (goodIn_of _ (by decide +kernel)) ggL_law_X5_setting
set_option maxRecDepth 20000 in
theorem ggL_law_X4_energy : GoodIn wsL_law wsX4_energy := goodIn_r _ [458, 15, 136, 137, 138, 139, 14, 140, 36, 608, 609, 610, 611, 612, 613, 614, 626, 627, 628, 629, 630, 631] (by decide +kernel) (by decide +kernel)
set_option maxRecDepth 20000 in
theorem gL_law_X4_energy : GoodIn wsL_law (wsV RL 65 RX4 yX4_energy wsX4_energy) := goodIn_app (goodIn_of _ (by decide +kernel)) ggL_law_X4_energy
set_option maxRecDepth 20000 in
theorem ggL_law_X5_energy : GoodIn wsL_law wsX5_energy := goodIn_r _ [462, 77, 145, 146, 147, 5, 148, 124, 125, 126, 615, 616, 617, 618, 619, 620, 621, 622, 623, 624, 625] (by decide +kernel) (by decide +kernel)
set_option maxRecDepth 20000 in
theorem gL_law_X5_energy : GoodIn wsL_law (wsV RL 68 RX5 yX5_energy wsX5_energy) := goodIn_app (goodIn_of _ (by decide +kernel)) ggL_law_X5_energy
set_option maxRecDepth 20000 in
theorem ggL_law_X4_slice : GoodIn wsL_law wsX4_slice := goodIn_r _ [466, 15, 171, 23, 467, 19, 468, 194, 195, 196, 14, 197, 37, 469, 300, 301, 302, 46, 45, 303, 231, 232, 233, 36, 284, 285, 286, 22, 287, 65, 66, 288, 62, 289, 290, 291, 292, 293, 294, 295, 296, 297, 298, 64, 299, 304, 305, 306, 307, 308, 309, 310, 311, 18, 312, 57, 313, 56, 314, 315, 316, 317, 318, 319, 320, 55, 321, 322, 323, 324, 52, 53, 54, 325, 326, 327, 328, 329, 330, 331, 332, 333, 334, 335, 336, 337, 338, 339, 340, 341, 342, 343, 344, 345, 346, 347, 348, 349, 350, 351, 352, 353, 354, 355, 356, 357, 358, 359, 360, 361, 362, 363, 364, 365, 366, 470, 471, 472, 473, 474, 381, 475, 476, 477, 478, 47, 479, 480, 378, 379, 380, 382, 383, 384, 481, 482, 483, 484, 38, 608, 609, 610, 611, 612, 613, 614, 626, 627, 628, 629, 630, 631, 640, 641, 642, 643, 632, 633, 634, 635, 636, 637, 638, 639] (by decide +kernel) (by decide +kernel)
set_option maxRecDepth 20000 in
theorem gL_law_X4_slice : GoodIn wsL_law (wsV RL 69 RX4 yX4_slice wsX4_slice) := goodIn_app (goodIn_of _ (by decide +kernel)) ggL_law_X4_slice
set_option maxRecDepth 20000 in
theorem ggL_law_X5_slice : GoodIn wsL_law wsX5_slice := goodIn_r _ [488, 81, 77, 82, 255, 256, 257, 5, 258, 124, 125, 126, 238, 239, 240, 241, 415, 416, 417, 418, 443, 444, 445, 446, 489, 490, 491, 492, 393, 394, 395, 396, 397, 398, 399, 400, 83, 401, 402, 403, 404, 405, 406, 407, 408, 409, 410, 411, 412, 413, 414, 419, 420, 421, 422, 423, 424, 425, 426, 84, 389, 390, 391, 392, 427, 428, 429, 430, 493, 494, 495, 496, 439, 440, 441, 442, 615, 616, 617, 618, 619, 620, 621, 622, 623, 624, 625] (by decide +kernel) (by decide +kernel)
set_option maxRecDepth 20000 in
theorem gL_law_X5_slice : GoodIn wsL_law (wsV RL 72 RX5 yX5_slice wsX5_slice) := goodIn_app (goodIn_of _ (by decide +kernel)) ggL_law_X5_slice
set_option maxRecDepth 20000 in
theorem ggL_law_X4_order : GoodIn wsL_law wsX4_order := goodIn_r _ [500, 15, 246, 194, 195, 196, 14, 197, 37, 608, 609, 610, 611, 612, 613, 614, 626, 627, 628, 629, 630, 631] (by decide +kernel) (by decide +kernel)
set_option maxRecDepth 20000 in
theorem gL_law_X4_order : GoodIn wsL_law (wsV RL 73 RX4 yX4_order wsX4_order) := goodIn_app (goodIn_of _ (by decide +kernel)) ggL_law_X4_order
set_option maxRecDepth 20000 in
theorem ggL_law_X5_order : GoodIn wsL_law wsX5_order := goodIn_r _ [504, 77, 255, 256, 257, 5, 258, 124, 125, 126, 615, 616, 617, 618, 619, 620, 621, 622, 623, 624, 625] (by decide +kernel) (by decide +kernel)
set_option maxRecDepth 20000 in
theorem gL_law_X5_order : GoodIn wsL_law (wsV RL 76 RX5 yX5_order wsX5_order) := goodIn_app (goodIn_of _ (by decide +kernel)) ggL_law_X5_order
set_option maxRecDepth 20000 in
theorem ggL_law_X4_source : GoodIn wsL_law wsX4_source := goodIn_r _ [508, 15, 155, 23, 172, 467, 246, 284, 285, 286, 22, 287, 65, 66, 288, 62, 289, 290, 291, 14, 292, 45, 293, 294, 295, 296, 297, 298, 64, 299, 300, 301, 302, 46, 303, 231, 232, 233, 37, 36, 304, 305, 306, 307, 308, 309, 310, 311, 18, 312, 57, 313, 56, 314, 315, 316, 317, 318, 319, 320, 55, 321, 322, 323, 324, 52, 53, 54, 325, 326, 327, 328, 329, 330, 331, 332, 333, 334, 335, 336, 337, 338, 339, 340, 341, 342, 343, 344, 345, 346, 347, 348, 349, 350, 351, 352, 353, 354, 355, 356, 357, 358, 359, 360, 361, 362, 363, 364, 365, 366, 509, 510, 511, 512, 381, 513, 514, 515, 516, 517, 377, 378, 379, 380, 382, 383, 384, 608, 609, 610, 611, 612, 613, 614, 626, 627, 628, 629, 630, 631, 640, 641, 642, 643, 632, 633, 634, 635, 636, 637, 638, 639] (by decide +kernel) (by decide +kernel)
set_option maxRecDepth 20000 in
theorem gL_law_X4_source : GoodIn wsL_law (wsV RL 77 RX4 yX4_source wsX4_source) := goodIn_app (goodIn_of _ (by decide +kernel)) ggL_law_X4_source
set_option maxRecDepth 20000 in
theorem ggL_law_X5_source : GoodIn wsL_law wsX5_source := goodIn_r _ [521, 77, 81, 124, 125, 5, 126, 393, 394, 395, 396, 397, 398, 399, 400, 83, 401, 402, 82, 403, 404, 405, 406, 407, 408, 409, 410, 411, 412, 413, 414, 415, 416, 417, 418, 238, 239, 240, 241, 419, 420, 421, 422, 423, 424, 425, 426, 84, 389, 390, 391, 392, 427, 428, 429, 430, 439, 440, 441, 442, 443, 444, 445, 446, 615, 616, 617, 618, 619, 620, 621, 622, 623, 624, 625] (by decide +kernel) (by decide +kernel)
set_option maxRecDepth 20000 in
theorem gL_law_X5_source : GoodIn wsL_law (wsV RL 80 RX5 yX5_source wsX5_source) := goodIn_app (goodIn_of _ (by decide +kernel)) ggL_law_X5_source
set_option maxRecDepth 20000 in
theorem ggL_law_X4_warp : GoodIn wsL_law wsX4_warp := goodIn_r _ [525, 15, 526, 23, 527, 467, 194, 195, 196, 14, 197, 37, 284, 285, 286, 22, 287, 65, 66, 288, 62, 289, 290, 291, 292, 45, 293, 294, 295, 296, 297, 298, 64, 299, 300, 301, 302, 46, 303, 231, 232, 233, 36, 304, 305, 306, 307, 308, 309, 310, 311, 18, 312, 57, 313, 56, 314, 315, 316, 317, 318, 319, 320, 55, 321, 322, 323, 324, 52, 53, 54, 325, 326, 327, 328, 329, 330, 331, 332, 333, 334, 335, 336, 337, 338, 339, 340, 341, 342, 343, 344, 345, 346, 347, 348, 349, 350, 351, 352, 353, 354, 355, 356, 357, 358, 359, 360, 361, 362, 363, 364, 365, 366, 469, 608, 609, 610, 611, 612, 613, 614, 640, 641, 642, 643, 626, 627, 628, 629, 630, 631, 632, 633, 634, 635, 636, 637, 638, 639] (by decide +kernel) (by decide +kernel)
set_option maxRecDepth 20000 in
theorem gL_law_X4_warp : GoodIn wsL_law (wsV RL 81 RX4 yX4_warp wsX4_warp) := goodIn_app (goodIn_of _ (by decide +kernel)) ggL_law_X4_warp
set_option maxRecDepth 20000 in
theorem ggL_law_X5_warp : GoodIn wsL_law wsX5_warp := goodIn_r _ [531, 532, 81, 533, 255, 256, 257, 5, 258, 77, 124, 125, 126, 393, 394, 395, 396, 397, 398, 399, 400, 83, 401, 402, 82, 403, 404, 405, 406, 407, 408, 409, 410, 411, 412, 413, 414, 415, 416, 417, 418, 238, 239, 240, 241, 419, 420, 421, 422, 423, 424, 425, 426, 84, 389, 390, 391, 392, 427, 428, 429, 430, 615, 616, 617, 618, 619, 620, 621, 622, 623, 624, 625] (by decide +kernel) (by decide +kernel)
set_option maxRecDepth 20000 in
theorem gL_law_X5_warp : GoodIn wsL_law (wsV RL 85 RX5 yX5_warp wsX5_warp) := goodIn_app (goodIn_of _ (by decide +kernel)) ggL_law_X5_warp
set_option maxRecDepth 20000 in
theorem ggL_law_X4_shift : GoodIn wsL_law wsX4_shift := goodIn_r _ [537, 19, 15, 155, 97, 538, 316, 317, 18, 318, 57, 314, 319, 320, 55, 321, 322, 323, 324, 52, 53, 54, 325, 300, 301, 14, 302, 46, 45, 303, 231, 232, 233, 37, 36, 326, 327, 328, 329, 330, 331, 332, 333, 334, 335, 336, 337, 338, 339, 340, 341, 342, 343, 344, 345, 346, 347, 348, 349, 350, 351, 352, 353, 354, 355, 356, 357, 358, 359, 360, 361, 362, 608, 609, 610, 611, 612, 613, 614, 626, 627, 628, 629, 630, 631, 632, 633, 634, 635, 636, 637, 638, 639] (by decide +kernel) (by decide +kernel)
set_option maxRecDepth 20000 in
theorem gL_law_X4_shift : GoodIn wsL_law (wsV RL 86 RX4 yX4_shift wsX4_shift) := goodIn_app (goodIn_of _ (by decide +kernel)) ggL_law_X4_shift
set_option maxRecDepth 20000 in
theorem ggL_law_X5_shift : GoodIn wsL_law wsX5_shift := goodIn_r _ [542, 77, 402, 397, 398, 399, 5, 400, 83, 401, 82, 81, 403, 404, 405, 406, 407, 408, 409, 410, 411, 412, 413, 414, 415, 416, 417, 418, 238, 239, 240, 241, 419, 420, 421, 422, 615, 616, 617, 618, 619, 620, 621, 622, 623, 624, 625] (by decide +kernel) (by decide +kernel)
set_option maxRecDepth 20000 in
theorem gL_law_X5_shift : GoodIn wsL_law (wsV RL 89 RX5 yX5_shift wsX5_shift) := goodIn_app (goodIn_of _ (by decide +kernel)) ggL_law_X5_shift
set_option maxRecDepth 20000 in
theorem ggL_law_X4_leastGrid : GoodIn wsL_law wsX4_leastGrid := goodIn_r _ [546, 19, 15, 155, 547, 548, 549, 18, 550, 315, 316, 317, 318, 57, 314, 319, 320, 55, 321, 322, 323, 324, 52, 53, 54, 325, 300, 301, 14, 302, 46, 45, 303, 231, 232, 233, 37, 36, 326, 327, 328, 329, 330, 331, 332, 333, 334, 335, 336, 337, 338, 339, 340, 341, 342, 343, 344, 345, 346, 347, 348, 349, 350, 351, 352, 353, 354, 355, 356, 357, 358, 359, 360, 361, 362, 608, 609, 610, 611, 612, 613, 614, 626, 627, 628, 629, 630, 631, 632, 633, 634, 635, 636, 637, 638, 639] (by decide +kernel) (by decide +kernel)
set_option maxRecDepth 20000 in
theorem gL_law_X4_leastGrid : GoodIn wsL_law (wsV RL 90 RX4 yX4_leastGrid wsX4_leastGrid) := goodIn_app (goodIn_of _ (by decide +kernel)) ggL_law_X4_leastGrid
set_option maxRecDepth 20000 in
theorem ggL_law_X5_leastGrid : GoodIn wsL_law wsX5_leastGrid := goodIn_r _ [554, 77, 397, 398, 399, 5, 400, 83, 401, 402, 82, 81, 403, 404, 405, 406, 407, 408, 409, 410, 411, 412, 413, 414, 415, 416, 417, 418, 238, 239, 240, 241, 419, 420, 421, 422, 615, 616, 617, 618, 619, 620, 621, 622, 623, 624, 625] (by decide +kernel) (by decide +kernel)
set_option maxRecDepth 20000 in
theorem gL_law_X5_leastGrid : GoodIn wsL_law (wsV RL 93 RX5 yX5_leastGrid wsX5_leastGrid) := goodIn_app (goodIn_of _ (by decide +kernel)) ggL_law_X5_leastGrid
set_option maxRecDepth 20000 in
theorem ggL_law_X4_nearTarget : GoodIn wsL_law wsX4_nearTarget := goodIn_r _ [558, 15, 155, 19, 559, 547, 548, 549, 18, 550, 315, 316, 317, 318, 57, 314, 319, 320, 55, 321, 322, 323, 324, 52, 53, 54, 325, 300, 301, 14, 302, 46, 45, 303, 231, 232, 233, 37, 36, 326, 327, 328, 329, 330, 331, 332, 333, 334, 335, 336, 337, 338, 339, 340, 341, 342, 343, 344, 345, 346, 347, 348, 349, 350, 351, 352, 353, 354, 355, 356, 357, 358, 359, 360, 361, 362, 608, 609, 610, 611, 612, 613, 614, 626, 627, 628, 629, 630, 631, 632, 633, 634, 635, 636, 637, 638, 639] (by decide +kernel) (by decide +kernel)
set_option maxRecDepth 20000 in
theorem gL_law_X4_nearTarget : GoodIn wsL_law (wsV RL 94 RX4 yX4_nearTarget wsX4_nearTarget) := goodIn_app (goodIn_of _ (by decide +kernel)) ggL_law_X4_nearTarget
set_option maxRecDepth 20000 in
theorem ggL_law_X5_nearTarget : GoodIn wsL_law wsX5_nearTarget := goodIn_r _ [563, 77, 124, 125, 5, 126, 564, 565, 566, 567, 166, 397, 398, 399, 400, 83, 401, 402, 82, 81, 403, 404, 405, 406, 407, 408, 409, 410, 411, 412, 413, 414, 415, 416, 417, 418, 238, 239, 240, 241, 419, 420, 421, 422, 615, 616, 617, 618, 619, 620, 621, 622, 623, 624, 625] (by decide +kernel) (by decide +kernel)
set_option maxRecDepth 20000 in
theorem gL_law_X5_nearTarget : GoodIn wsL_law (wsV RL 97 RX5 yX5_nearTarget wsX5_nearTarget) := goodIn_app (goodIn_of _ (by decide +kernel)) ggL_law_X5_nearTarget
set_option maxRecDepth 20000 in
theorem ggL_law_X4_marksWith : GoodIn wsL_law wsX4_marksWith := goodIn_r _ [571, 15, 32, 173, 174, 175, 14, 176, 36, 38, 45, 608, 609, 610, 611, 612, 613, 614, 626, 627, 628, 629, 630, 631] (by decide +kernel) (by decide +kernel)
set_option maxRecDepth 20000 in
theorem gL_law_X4_marksWith : GoodIn wsL_law (wsV RL 98 RX4 yX4_marksWith wsX4_marksWith) := goodIn_app (goodIn_of _ (by decide +kernel)) ggL_law_X4_marksWith
set_option maxRecDepth 20000 in
theorem ggL_law_X5_marksWith : GoodIn wsL_law wsX5_marksWith := goodIn_r _ [575, 124, 125, 5, 126, 182, 183, 184, 185, 80, 77, 615, 616, 617, 618, 619, 620, 621, 622, 623, 624, 625] (by decide +kernel) (by decide +kernel)
set_option maxRecDepth 20000 in
theorem gL_law_X5_marksWith : GoodIn wsL_law (wsV RL 101 RX5 yX5_marksWith wsX5_marksWith) := goodIn_app (goodIn_of _ (by decide +kernel)) ggL_law_X5_marksWith
set_option maxRecDepth 20000 in
theorem ggL_law_X4_thresholdFor : GoodIn wsL_law wsX4_thresholdFor := goodIn_r _ [579, 15, 32, 97, 136, 173, 174, 175, 14, 176, 36, 38, 45, 608, 609, 610, 611, 612, 613, 614, 626, 627, 628, 629, 630, 631] (by decide +kernel) (by decide +kernel)
set_option maxRecDepth 20000 in
theorem gL_law_X4_thresholdFor : GoodIn wsL_law (wsV RL 102 RX4 yX4_thresholdFor wsX4_thresholdFor) := goodIn_app (goodIn_of _ (by decide +kernel)) ggL_law_X4_thresholdFor
set_option maxRecDepth 20000 in
theorem ggL_law_X5_thresholdFor : GoodIn wsL_law wsX5_thresholdFor := goodIn_r _ [583, 124, 125, 5, 126, 182, 183, 184, 185, 80, 77, 615, 616, 617, 618, 619, 620, 621, 622, 623, 624, 625] (by decide +kernel) (by decide +kernel)
set_option maxRecDepth 20000 in
theorem gL_law_X5_thresholdFor : GoodIn wsL_law (wsV RL 105 RX5 yX5_thresholdFor wsX5_thresholdFor) := goodIn_app (goodIn_of _ (by decide +kernel)) ggL_law_X5_thresholdFor
set_option maxRecDepth 20000 in
theorem ggL_law_X4_keep : GoodIn wsL_law wsX4_keep := goodIn_r _ [587, 28, 15, 30, 172, 588, 589, 2, 590, 591, 105, 106, 14, 107, 36, 37, 38, 108, 109, 110, 111, 45, 46, 47, 608, 609, 610, 611, 612, 613, 614, 626, 627, 628, 629, 630, 631] (by decide +kernel) (by decide +kernel)
set_option maxRecDepth 20000 in
theorem gL_law_X4_keep : GoodIn wsL_law (wsV RL 106 RX4 yX4_keep wsX4_keep) := goodIn_app (goodIn_of _ (by decide +kernel)) ggL_law_X4_keep
set_option maxRecDepth 20000 in
theorem ggL_law_X5_keep : GoodIn wsL_law wsX5_keep := goodIn_r _ [595, 79, 77, 596, 597, 598, 5, 599, 124, 125, 126, 615, 616, 617, 618, 619, 620, 621, 622, 623, 624, 625] (by decide +kernel) (by decide +kernel)
set_option maxRecDepth 20000 in
theorem gL_law_X5_keep : GoodIn wsL_law (wsV RL 109 RX5 yX5_keep wsX5_keep) := goodIn_app (goodIn_of _ (by decide +kernel)) ggL_law_X5_keep
set_option maxRecDepth 20000 in
theorem ggL_law_X4_back : GoodIn wsL_law wsX4_back := goodIn_r _ [603, 30, 27, 15, 28, 172, 588, 589, 2, 590, 98, 99, 100, 26, 101, 102, 72, 103, 104, 105, 106, 14, 107, 36, 37, 38, 108, 109, 110, 111, 45, 46, 47, 591, 608, 609, 610, 611, 612, 613, 614, 626, 627, 628, 629, 630, 631, 644, 645, 646] (by decide +kernel) (by decide +kernel)
set_option maxRecDepth 20000 in
theorem gL_law_X4_back : GoodIn wsL_law (wsV RL 110 RX4 yX4_back wsX4_back) := goodIn_app (goodIn_of _ (by decide +kernel)) ggL_law_X4_back
set_option maxRecDepth 20000 in
theorem ggL_law_X5_back : GoodIn wsL_law wsX5_back := goodIn_r _ [607, 596, 77, 79, 597, 598, 5, 599, 124, 125, 126, 127, 128, 129, 130, 131, 78, 615, 616, 617, 618, 619, 620, 621, 622, 623, 624, 625] (by decide +kernel) (by decide +kernel)
set_option maxRecDepth 20000 in
theorem gL_law_X5_back : GoodIn wsL_law (wsV RL 113 RX5 yX5_back wsX5_back) := goodIn_app (goodIn_of _ (by decide +kernel)) ggL_law_X5_back
