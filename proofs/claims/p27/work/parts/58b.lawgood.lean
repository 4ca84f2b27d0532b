/-! the law: its names, instructions, what its calls need (printed) -/
set_option maxRecDepth 20000 in
theorem ggL_isLaid_X4_told : GoodIn wsL_isLaid wsX4_told := goodIn_r _ [7, 8, 9, 10, 11, 12, 13, 14, 15, 16, 17, 18, 19, 20, 21, 22, 23, 24, 25, 26, 27, 28, 29, 30, 31, 32, 33, 34, 35, 36, 37, 38, 39, 40, 41, 42, 43, 44, 45, 46, 47, 48, 49, 50, 51, 52, 53, 54, 55, 56, 57, 58, 59, 60, 61, 62, 63, 64, 65, 66, 67, 68, 69, 70, 71, 72, 73, 74, 75, 76, 77, 78, 79, 80, 81, 82, 83, 84, 85, 86, 87, 88, 89, 90, 91, 92, 93, 94, 95, 96, 97, 98, 99, 100, 101, 102, 103, 104, 105, 106, 107, 108, 109, 110, 111, 112, 113, 114, 115, 116, 117, 118, 119, 120, 121, 122, 123, 124, 125, 126, 127, 128, 129, 130, 131, 132, 133, 134, 135, 207, 208, 209, 210, 211, 212, 213, 214, 215, 216, 217, 218, 219, 220, 221, 222, 223, 224, 225, 226, 227, 228, 229, 230, 231, 232, 233, 234] (by decide +kernel) (by decide +kernel)
set_option maxRecDepth 20000 in
theorem gL_isLaid_X4_told : GoodIn wsL_isLaid (wsV RL 9 RX4 yX4_told wsX4_told) := goodIn_app (goodIn_of _ (by decide +kernel)) ggL_isLaid_X4_told
set_option maxRecDepth 20000 in
theorem ggL_isLaid_X4_setting : GoodIn wsL_isLaid wsX4_setting := goodIn_r _ [139, 8, 10, 140, 141, 6, 142, 207, 208, 209, 210, 211, 212, 213, 214, 215, 216, 217, 218, 219] (by decide +kernel) (by decide +kernel)
set_option maxRecDepth 20000 in
theorem gL_isLaid_X4_setting : GoodIn wsL_isLaid (wsV RL 65 RX4 yX4_setting wsX4_setting) := goodIn_app (goodIn_of _ (by decide +kernel)) ggL_isLaid_X4_setting
set_option maxRecDepth 20000 in
theorem ggL_isLaid_X4_slice : GoodIn wsL_isLaid wsX4_slice := goodIn_r _ [146, 8, 147, 12, 148, 149, 150, 151, 152, 153, 27, 154, 46, 155, 38, 39, 40, 41, 29, 42, 43, 44, 45, 47, 15, 16, 17, 18, 19, 20, 21, 22, 23, 24, 25, 26, 28, 30, 31, 32, 33, 34, 35, 36, 37, 48, 49, 50, 51, 52, 53, 54, 55, 56, 57, 58, 59, 60, 61, 62, 63, 64, 65, 66, 67, 68, 69, 70, 71, 72, 73, 74, 75, 76, 77, 78, 79, 80, 81, 82, 83, 84, 85, 86, 87, 88, 89, 90, 91, 92, 93, 94, 95, 96, 97, 98, 99, 100, 101, 102, 103, 104, 105, 106, 107, 108, 109, 110, 111, 112, 113, 114, 115, 116, 117, 156, 157, 158, 159, 160, 132, 161, 162, 163, 164, 165, 166, 167, 129, 130, 131, 133, 134, 135, 168, 169, 170, 171, 172, 207, 208, 209, 210, 211, 212, 213, 214, 215, 216, 217, 218, 219, 223, 224, 225, 226, 227, 228, 229, 230, 231, 232, 233, 234] (by decide +kernel) (by decide +kernel)
set_option maxRecDepth 20000 in
theorem gL_isLaid_X4_slice : GoodIn wsL_isLaid (wsV RL 59 RX4 yX4_slice wsX4_slice) := goodIn_app (goodIn_of _ (by decide +kernel)) ggL_isLaid_X4_slice
set_option maxRecDepth 20000 in
theorem ggL_isLaid_X4_source : GoodIn wsL_isLaid wsX4_source := goodIn_r _ [176, 8, 10, 12, 11, 148, 177, 15, 16, 17, 18, 19, 20, 21, 22, 23, 24, 25, 26, 27, 28, 29, 30, 31, 32, 33, 34, 35, 36, 37, 38, 39, 40, 41, 42, 43, 44, 45, 46, 47, 48, 49, 50, 51, 52, 53, 54, 55, 56, 57, 58, 59, 60, 61, 62, 63, 64, 65, 66, 67, 68, 69, 70, 71, 72, 73, 74, 75, 76, 77, 78, 79, 80, 81, 82, 83, 84, 85, 86, 87, 88, 89, 90, 91, 92, 93, 94, 95, 96, 97, 98, 99, 100, 101, 102, 103, 104, 105, 106, 107, 108, 109, 110, 111, 112, 113, 114, 115, 116, 117, 178, 179, 180, 181, 132, 182, 183, 184, 185, 186, 128, 129, 130, 131, 133, 134, 135, 207, 208, 209, 210, 211, 212, 213, 214, 215, 216, 217, 218, 219, 223, 224, 225, 226, 227, 228, 229, 230, 231, 232, 233, 234] (by decide +kernel) (by decide +kernel)
set_option maxRecDepth 20000 in
theorem gL_isLaid_X4_source : GoodIn wsL_isLaid (wsV RL 71 RX4 yX4_source wsX4_source) := goodIn_app (goodIn_of _ (by decide +kernel)) ggL_isLaid_X4_source
set_option maxRecDepth 20000 in
theorem ggL_isLaid_X4_warp : GoodIn wsL_isLaid wsX4_warp := goodIn_r _ [190, 8, 191, 12, 192, 148, 151, 152, 153, 27, 154, 46, 15, 16, 17, 18, 19, 20, 21, 22, 23, 24, 25, 26, 28, 29, 30, 31, 32, 33, 34, 35, 36, 37, 38, 39, 40, 41, 42, 43, 44, 45, 47, 48, 49, 50, 51, 52, 53, 54, 55, 56, 57, 58, 59, 60, 61, 62, 63, 64, 65, 66, 67, 68, 69, 70, 71, 72, 73, 74, 75, 76, 77, 78, 79, 80, 81, 82, 83, 84, 85, 86, 87, 88, 89, 90, 91, 92, 93, 94, 95, 96, 97, 98, 99, 100, 101, 102, 103, 104, 105, 106, 107, 108, 109, 110, 111, 112, 113, 114, 115, 116, 117, 155, 207, 208, 209, 210, 211, 212, 213, 223, 224, 225, 226, 214, 215, 216, 217, 218, 219, 227, 228, 229, 230, 231, 232, 233, 234] (by decide +kernel) (by decide +kernel)
set_option maxRecDepth 20000 in
theorem gL_isLaid_X4_warp : GoodIn wsL_isLaid (wsV RL 74 RX4 yX4_warp wsX4_warp) := goodIn_app (goodIn_of _ (by decide +kernel)) ggL_isLaid_X4_warp
set_option maxRecDepth 20000 in
theorem ggL_isLaid_X4_shift : GoodIn wsL_isLaid wsX4_shift := goodIn_r _ [196, 149, 8, 10, 9, 197, 63, 64, 56, 65, 58, 61, 66, 67, 68, 69, 70, 71, 72, 73, 74, 75, 76, 38, 39, 27, 40, 41, 29, 42, 43, 44, 45, 46, 47, 77, 78, 79, 80, 81, 82, 83, 84, 85, 86, 87, 88, 89, 90, 91, 92, 93, 94, 95, 96, 97, 98, 99, 100, 101, 102, 103, 104, 105, 106, 107, 108, 109, 110, 111, 112, 113, 207, 208, 209, 210, 211, 212, 213, 214, 215, 216, 217, 218, 219, 227, 228, 229, 230, 231, 232, 233, 234] (by decide +kernel) (by decide +kernel)
set_option maxRecDepth 20000 in
theorem gL_isLaid_X4_shift : GoodIn wsL_isLaid (wsV RL 79 RX4 yX4_shift wsX4_shift) := goodIn_app (goodIn_of _ (by decide +kernel)) ggL_isLaid_X4_shift
set_option maxRecDepth 20000 in
theorem ggL_isLaid_X4_order : GoodIn wsL_isLaid wsX4_order := goodIn_r _ [201, 8, 177, 151, 152, 153, 27, 154, 46, 207, 208, 209, 210, 211, 212, 213, 214, 215, 216, 217, 218, 219] (by decide +kernel) (by decide +kernel)
set_option maxRecDepth 20000 in
theorem gL_isLaid_X4_order : GoodIn wsL_isLaid (wsV RL 62 RX4 yX4_order wsX4_order) := goodIn_app (goodIn_of _ (by decide +kernel)) ggL_isLaid_X4_order
set_option maxRecDepth 20000 in
theorem ggL_isLaid_L_low : GoodIn wsL_isLaid wsL_low := goodIn_r _ [205, 206] (by decide +kernel) (by decide +kernel)
set_option maxRecDepth 20000 in
theorem gL_isLaid_L_low : GoodIn wsL_isLaid (va_wsS RL 15 yL_low wsL_low) := goodIn_app (goodIn_of _ (by decide +kernel)) ggL_isLaid_L_low
set_option maxRecDepth 20000 in
theorem ggL_areSteps_X4_setting : GoodIn wsL_areSteps wsX4_setting := goodIn_r _ [5, 6, 7, 8, 9, 4, 10, 189, 190, 191, 192, 193, 194, 195, 196, 197, 198, 199, 200, 201] (by decide +kernel) (by decide +kernel)
set_option maxRecDepth 20000 in
theorem gL_areSteps_X4_setting : GoodIn wsL_areSteps (wsV RL 65 RX4 yX4_setting wsX4_setting) := goodIn_app (goodIn_of _ (by decide +kernel)) ggL_areSteps_X4_setting
set_option maxRecDepth 20000 in
theorem ggL_areSteps_X4_told : GoodIn wsL_areSteps wsX4_told := goodIn_r _ [14, 6, 15, 7, 16, 17, 18, 19, 20, 21, 22, 23, 24, 25, 26, 27, 28, 29, 30, 31, 32, 33, 34, 35, 36, 37, 38, 39, 40, 41, 42, 43, 44, 45, 46, 47, 48, 49, 50, 51, 52, 53, 54, 55, 56, 57, 58, 59, 60, 61, 62, 63, 64, 65, 66, 67, 68, 69, 70, 71, 72, 73, 74, 75, 76, 77, 78, 79, 80, 81, 82, 83, 84, 85, 86, 87, 88, 89, 90, 91, 92, 93, 94, 95, 96, 97, 98, 99, 100, 101, 102, 103, 104, 105, 106, 107, 108, 109, 110, 111, 112, 113, 114, 115, 116, 117, 118, 119, 120, 121, 122, 123, 124, 125, 126, 127, 128, 129, 130, 131, 132, 133, 134, 135, 136, 137, 138, 139, 140, 189, 190, 191, 192, 193, 194, 195, 196, 197, 198, 199, 200, 201, 202, 203, 204, 205, 206, 207, 208, 209, 210, 211, 212, 213, 214, 215, 216] (by decide +kernel) (by decide +kernel)
set_option maxRecDepth 20000 in
theorem gL_areSteps_X4_told : GoodIn wsL_areSteps (wsV RL 9 RX4 yX4_told wsX4_told) := goodIn_app (goodIn_of _ (by decide +kernel)) ggL_areSteps_X4_told
set_option maxRecDepth 20000 in
theorem ggL_areSteps_X4_slice : GoodIn wsL_areSteps wsX4_slice := goodIn_r _ [144, 6, 145, 17, 146, 147, 148, 149, 150, 151, 32, 152, 51, 153, 43, 44, 45, 46, 34, 47, 48, 49, 50, 52, 20, 21, 22, 23, 24, 25, 26, 27, 28, 29, 30, 31, 33, 35, 36, 37, 38, 39, 40, 41, 42, 53, 54, 55, 56, 57, 58, 59, 60, 61, 62, 63, 64, 65, 66, 67, 68, 69, 70, 71, 72, 73, 74, 75, 76, 77, 78, 79, 80, 81, 82, 83, 84, 85, 86, 87, 88, 89, 90, 91, 92, 93, 94, 95, 96, 97, 98, 99, 100, 101, 102, 103, 104, 105, 106, 107, 108, 109, 110, 111, 112, 113, 114, 115, 116, 117, 118, 119, 120, 121, 122, 154, 155, 156, 157, 158, 137, 159, 160, 161, 162, 163, 164, 165, 134, 135, 136, 138, 139, 140, 166, 167, 168, 169, 170, 189, 190, 191, 192, 193, 194, 195, 196, 197, 198, 199, 200, 201, 205, 206, 207, 208, 209, 210, 211, 212, 213, 214, 215, 216] (by decide +kernel) (by decide +kernel)
set_option maxRecDepth 20000 in
theorem gL_areSteps_X4_slice : GoodIn wsL_areSteps (wsV RL 59 RX4 yX4_slice wsX4_slice) := goodIn_app (goodIn_of _ (by decide +kernel)) ggL_areSteps_X4_slice
set_option maxRecDepth 20000 in
theorem ggL_areSteps_X4_leastGrid : GoodIn wsL_areSteps wsX4_leastGrid := goodIn_r _ [174, 147, 6, 7, 175, 176, 177, 61, 178, 67, 68, 69, 70, 63, 66, 71, 72, 73, 74, 75, 76, 77, 78, 79, 80, 81, 43, 44, 32, 45, 46, 34, 47, 48, 49, 50, 51, 52, 82, 83, 84, 85, 86, 87, 88, 89, 90, 91, 92, 93, 94, 95, 96, 97, 98, 99, 100, 101, 102, 103, 104, 105, 106, 107, 108, 109, 110, 111, 112, 113, 114, 115, 116, 117, 118, 189, 190, 191, 192, 193, 194, 195, 196, 197, 198, 199, 200, 201, 209, 210, 211, 212, 213, 214, 215, 216] (by decide +kernel) (by decide +kernel)
set_option maxRecDepth 20000 in
theorem gL_areSteps_X4_leastGrid : GoodIn wsL_areSteps (wsV RL 84 RX4 yX4_leastGrid wsX4_leastGrid) := goodIn_app (goodIn_of _ (by decide +kernel)) ggL_areSteps_X4_leastGrid
set_option maxRecDepth 20000 in
theorem ggL_areSteps_X4_shift : GoodIn wsL_areSteps wsX4_shift := goodIn_r _ [182, 147, 6, 7, 15, 183, 68, 69, 61, 70, 63, 66, 71, 72, 73, 74, 75, 76, 77, 78, 79, 80, 81, 43, 44, 32, 45, 46, 34, 47, 48, 49, 50, 51, 52, 82, 83, 84, 85, 86, 87, 88, 89, 90, 91, 92, 93, 94, 95, 96, 97, 98, 99, 100, 101, 102, 103, 104, 105, 106, 107, 108, 109, 110, 111, 112, 113, 114, 115, 116, 117, 118, 189, 190, 191, 192, 193, 194, 195, 196, 197, 198, 199, 200, 201, 209, 210, 211, 212, 213, 214, 215, 216] (by decide +kernel) (by decide +kernel)
set_option maxRecDepth 20000 in
theorem gL_areSteps_X4_shift : GoodIn wsL_areSteps (wsV RL 79 RX4 yX4_shift wsX4_shift) := goodIn_app (goodIn_of _ (by decide +kernel)) ggL_areSteps_X4_shift
set_option maxRecDepth 20000 in
theorem ggL_areSteps_X4_nearTarget : GoodIn wsL_areSteps wsX4_nearTarget := goodIn_r _ [187, 6, 7, 147, 188, 175, 176, 177, 61, 178, 67, 68, 69, 70, 63, 66, 71, 72, 73, 74, 75, 76, 77, 78, 79, 80, 81, 43, 44, 32, 45, 46, 34, 47, 48, 49, 50, 51, 52, 82, 83, 84, 85, 86, 87, 88, 89, 90, 91, 92, 93, 94, 95, 96, 97, 98, 99, 100, 101, 102, 103, 104, 105, 106, 107, 108, 109, 110, 111, 112, 113, 114, 115, 116, 117, 118, 189, 190, 191, 192, 193, 194, 195, 196, 197, 198, 199, 200, 201, 209, 210, 211, 212, 213, 214, 215, 216] (by decide +kernel) (by decide +kernel)
set_option maxRecDepth 20000 in
theorem gL_areSteps_X4_nearTarget : GoodIn wsL_areSteps (wsV RL 87 RX4 yX4_nearTarget wsX4_nearTarget) := goodIn_app (goodIn_of _ (by decide +kernel)) ggL_areSteps_X4_nearTarget
set_option maxRecDepth 20000 in
theorem ggL_areAlike_X4_told : GoodIn wsL_areAlike wsX4_told := goodIn_r _ [5, 6, 7, 8, 9, 10, 11, 12, 13, 14, 15, 16, 17, 18, 19, 20, 21, 22, 23, 24, 25, 26, 27, 28, 29, 30, 31, 32, 33, 34, 35, 36, 37, 38, 39, 40, 41, 42, 43, 44, 45, 46, 47, 48, 49, 50, 51, 52, 53, 54, 55, 56, 57, 58, 59, 60, 61, 62, 63, 64, 65, 66, 67, 68, 69, 70, 71, 72, 73, 74, 75, 76, 77, 78, 79, 80, 81, 82, 83, 84, 85, 86, 87, 88, 89, 90, 91, 92, 93, 94, 95, 96, 97, 98, 99, 100, 101, 102, 103, 104, 105, 106, 107, 108, 109, 110, 111, 112, 113, 114, 115, 116, 117, 118, 119, 120, 121, 122, 123, 124, 125, 126, 127, 128, 129, 130, 131, 132, 133, 172, 173, 174, 175, 176, 177, 178, 179, 180, 181, 182, 183, 184, 185, 186, 187, 188, 189, 190, 191, 192, 193, 194, 195, 196, 197, 198, 199] (by decide +kernel) (by decide +kernel)
set_option maxRecDepth 20000 in
theorem gL_areAlike_X4_told : GoodIn wsL_areAlike (wsV RL 9 RX4 yX4_told wsX4_told) := goodIn_app (goodIn_of _ (by decide +kernel)) ggL_areAlike_X4_told
set_option maxRecDepth 20000 in
theorem ggL_areAlike_X4_slice : GoodIn wsL_areAlike wsX4_slice := goodIn_r _ [137, 6, 138, 10, 139, 140, 141, 142, 143, 144, 25, 145, 44, 146, 36, 37, 38, 39, 27, 40, 41, 42, 43, 45, 13, 14, 15, 16, 17, 18, 19, 20, 21, 22, 23, 24, 26, 28, 29, 30, 31, 32, 33, 34, 35, 46, 47, 48, 49, 50, 51, 52, 53, 54, 55, 56, 57, 58, 59, 60, 61, 62, 63, 64, 65, 66, 67, 68, 69, 70, 71, 72, 73, 74, 75, 76, 77, 78, 79, 80, 81, 82, 83, 84, 85, 86, 87, 88, 89, 90, 91, 92, 93, 94, 95, 96, 97, 98, 99, 100, 101, 102, 103, 104, 105, 106, 107, 108, 109, 110, 111, 112, 113, 114, 115, 147, 148, 149, 150, 151, 130, 152, 153, 154, 155, 156, 157, 158, 127, 128, 129, 131, 132, 133, 159, 160, 161, 162, 163, 172, 173, 174, 175, 176, 177, 178, 179, 180, 181, 182, 183, 184, 188, 189, 190, 191, 192, 193, 194, 195, 196, 197, 198, 199] (by decide +kernel) (by decide +kernel)
set_option maxRecDepth 20000 in
theorem gL_areAlike_X4_slice : GoodIn wsL_areAlike (wsV RL 59 RX4 yX4_slice wsX4_slice) := goodIn_app (goodIn_of _ (by decide +kernel)) ggL_areAlike_X4_slice
set_option maxRecDepth 20000 in
theorem ggL_areAlike_X4_leastGrid : GoodIn wsL_areAlike wsX4_leastGrid := goodIn_r _ [167, 140, 6, 8, 168, 169, 170, 54, 171, 60, 61, 62, 63, 56, 59, 64, 65, 66, 67, 68, 69, 70, 71, 72, 73, 74, 36, 37, 25, 38, 39, 27, 40, 41, 42, 43, 44, 45, 75, 76, 77, 78, 79, 80, 81, 82, 83, 84, 85, 86, 87, 88, 89, 90, 91, 92, 93, 94, 95, 96, 97, 98, 99, 100, 101, 102, 103, 104, 105, 106, 107, 108, 109, 110, 111, 172, 173, 174, 175, 176, 177, 178, 179, 180, 181, 182, 183, 184, 192, 193, 194, 195, 196, 197, 198, 199] (by decide +kernel) (by decide +kernel)
set_option maxRecDepth 20000 in
theorem gL_areAlike_X4_leastGrid : GoodIn wsL_areAlike (wsV RL 84 RX4 yX4_leastGrid wsX4_leastGrid) := goodIn_app (goodIn_of _ (by decide +kernel)) ggL_areAlike_X4_leastGrid
