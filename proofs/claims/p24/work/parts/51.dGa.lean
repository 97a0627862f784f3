set_option maxRecDepth 20000 in
theorem ggL_fails_X5_fingerprint : GoodIn wsL_fails wsX5_fingerprint := goodIn_r _ [10, 11, 12, 13, 14, 15, 16, 17, 9, 18, 19, 20, 21, 22, 23, 24, 25, 26, 27, 28, 29, 30, 31, 32, 33, 34, 35, 36, 37, 38, 39, 40, 41, 42, 43, 44, 45, 46, 47, 48, 49, 50, 51, 52, 53, 54, 55, 56, 57, 58, 59, 60, 61, 62, 63, 64, 65, 66, 67, 68, 69, 70, 71, 72, 73, 74, 75, 76, 77, 78, 79, 80, 81, 82, 83, 84, 85, 86, 87, 88, 89, 90, 91, 92, 93, 94, 95, 96, 97, 98, 99, 100, 101, 102, 103, 104, 105, 106, 107, 108, 109, 110, 111, 112, 113, 114, 115, 116, 117, 118, 119, 120, 121, 122, 123, 124, 125, 126, 127, 351, 352, 353, 354, 355, 356, 357, 358, 359, 360, 361, 362, 363, 364, 365, 366, 367, 368, 369, 370, 371, 372, 373, 374, 375, 376] (by decide +kernel) (by decide +kernel)
set_option maxRecDepth 20000 in
theorem gL_fails_X5_fingerprint : GoodIn wsL_fails (wsV RL 9 RX5 yX5_fingerprint wsX5_fingerprint) := goodIn_app (goodIn_of _ (by decide +kernel)) ggL_fails_X5_fingerprint
set_option maxRecDepth 20000 in
theorem ggL_fails_X5_addWheel : GoodIn wsL_fails wsX5_addWheel := goodIn_r _ [131, 132, 133, 29, 12, 13, 134, 135, 78, 136, 137, 9, 138, 30, 31, 32, 139, 140, 141, 142, 143, 144, 145, 146, 147, 148, 149, 150, 151, 152, 44, 153, 154, 155, 156, 157, 158, 159, 50, 46, 47, 48, 49, 66, 67, 160, 161, 162, 163, 164, 86, 165, 88, 166, 89, 90, 91, 92, 93, 167, 168, 169, 170, 351, 352, 353, 354, 355, 356, 357, 358, 359, 360, 361, 362, 363, 364, 365, 366, 377, 378, 367, 368, 369, 370, 371, 372] (by decide +kernel) (by decide +kernel)
set_option maxRecDepth 20000 in
theorem gL_fails_X5_addWheel : GoodIn wsL_fails (wsV RL 15 RX5 yX5_addWheel wsX5_addWheel) := goodIn_app (goodIn_of _ (by decide +kernel)) ggL_fails_X5_addWheel
set_option maxRecDepth 20000 in
theorem ggL_fails_X5_fail : GoodIn wsL_fails wsX5_fail := goodIn_r _ [174, 29, 135, 12, 78, 175, 79, 80, 81, 9, 82, 13, 30, 31, 32, 139, 140, 141, 142, 143, 144, 145, 146, 147, 148, 149, 150, 151, 152, 44, 153, 154, 155, 156, 157, 158, 159, 50, 46, 47, 48, 49, 66, 67, 160, 161, 162, 163, 164, 86, 165, 88, 166, 89, 90, 91, 92, 93, 351, 352, 353, 354, 355, 356, 357, 358, 359, 360, 361, 362, 363, 364, 365, 366, 367, 368, 369, 370, 371, 372, 377, 378] (by decide +kernel) (by decide +kernel)
set_option maxRecDepth 20000 in
theorem gL_fails_X5_fail : GoodIn wsL_fails (wsV RL 23 RX5 yX5_fail wsX5_fail) := goodIn_app (goodIn_of _ (by decide +kernel)) ggL_fails_X5_fail
set_option maxRecDepth 20000 in
theorem ggL_fails_X5_setMost : GoodIn wsL_fails wsX5_setMost := goodIn_r _ [179, 133, 132, 29, 135, 12, 78, 180, 181, 79, 80, 81, 9, 82, 13, 30, 31, 32, 139, 140, 141, 142, 143, 144, 145, 146, 147, 148, 149, 150, 151, 152, 44, 153, 154, 155, 156, 157, 158, 159, 50, 46, 47, 48, 49, 66, 67, 160, 161, 162, 163, 164, 86, 165, 88, 166, 89, 90, 91, 92, 93, 351, 352, 353, 354, 355, 356, 357, 358, 359, 360, 361, 362, 363, 364, 365, 366, 367, 368, 369, 370, 371, 372, 377, 378] (by decide +kernel) (by decide +kernel)
set_option maxRecDepth 20000 in
theorem gL_fails_X5_setMost : GoodIn wsL_fails (wsV RL 27 RX5 yX5_setMost wsX5_setMost) := goodIn_app (goodIn_of _ (by decide +kernel)) ggL_fails_X5_setMost
set_option maxRecDepth 20000 in
theorem ggL_fails_X5_wheel : GoodIn wsL_fails wsX5_wheel := goodIn_r _ [77, 29, 12, 78, 79, 80, 81, 9, 82, 13, 30, 31, 32, 83, 84, 85, 86, 87, 88, 89, 90, 91, 92, 93, 351, 352, 353, 354, 355, 356, 357, 358, 359, 360, 361, 362, 363, 364, 365, 366, 367, 368, 369, 370, 371, 372] (by decide +kernel) (by decide +kernel)
set_option maxRecDepth 20000 in
theorem gL_fails_X5_wheel : GoodIn wsL_fails (wsV RL 31 RX5 yX5_wheel wsX5_wheel) := goodIn_app (goodIn_of _ (by decide +kernel)) ggL_fails_X5_wheel
set_option maxRecDepth 20000 in
theorem ggL_fails_X5_setAxis : GoodIn wsL_fails wsX5_setAxis := goodIn_r _ [186, 187, 188, 29, 135, 12, 189, 38, 39, 9, 40, 30, 31, 32, 139, 140, 141, 142, 143, 144, 145, 146, 147, 148, 149, 150, 151, 152, 44, 153, 154, 155, 156, 157, 158, 159, 50, 46, 47, 48, 49, 66, 67, 160, 161, 162, 163, 164, 86, 165, 88, 166, 89, 90, 91, 92, 93, 351, 352, 353, 354, 355, 356, 357, 358, 359, 360, 361, 362, 363, 364, 365, 366, 377, 378, 367, 368, 369, 370, 371, 372] (by decide +kernel) (by decide +kernel)
set_option maxRecDepth 20000 in
theorem gL_fails_X5_setAxis : GoodIn wsL_fails (wsV RL 35 RX5 yX5_setAxis wsX5_setAxis) := goodIn_app (goodIn_of _ (by decide +kernel)) ggL_fails_X5_setAxis
set_option maxRecDepth 20000 in
theorem ggL_fails_X5_set : GoodIn wsL_fails wsX5_set := goodIn_r _ [193, 194, 195, 29, 135, 12, 28, 30, 31, 9, 32, 139, 140, 141, 142, 143, 144, 145, 146, 147, 148, 149, 150, 151, 152, 44, 153, 154, 155, 156, 157, 158, 159, 50, 46, 47, 48, 49, 66, 67, 160, 161, 162, 163, 164, 86, 165, 88, 166, 89, 90, 91, 92, 93, 351, 352, 353, 354, 355, 356, 357, 358, 359, 360, 361, 362, 363, 364, 365, 366, 377, 378, 367, 368, 369, 370, 371, 372] (by decide +kernel) (by decide +kernel)
set_option maxRecDepth 20000 in
theorem gL_fails_X5_set : GoodIn wsL_fails (wsV RL 40 RX5 yX5_set wsX5_set) := goodIn_app (goodIn_of _ (by decide +kernel)) ggL_fails_X5_set
set_option maxRecDepth 20000 in
theorem ggL_fails_X5_setting : GoodIn wsL_fails wsX5_setting := goodIn_r _ [27, 12, 28, 29, 30, 31, 9, 32, 351, 352, 353, 354, 355, 356, 357, 358, 359, 360, 361, 362, 363, 364, 365, 366] (by decide +kernel) (by decide +kernel)
set_option maxRecDepth 20000 in
theorem gL_fails_X5_setting : GoodIn wsL_fails (wsV RL 43 RX5 yX5_setting wsX5_setting) := goodIn_app (goodIn_of _ (by decide +kernel)) ggL_fails_X5_setting
set_option maxRecDepth 20000 in
theorem ggL_fails_X5_strike : GoodIn wsL_fails wsX5_strike := goodIn_r _ [200, 201, 133, 37, 135, 12, 38, 39, 9, 40, 30, 31, 32, 139, 140, 141, 142, 143, 144, 145, 146, 147, 148, 149, 150, 151, 152, 44, 153, 154, 155, 156, 157, 158, 159, 50, 46, 47, 48, 49, 66, 67, 160, 161, 162, 163, 164, 86, 165, 88, 166, 89, 90, 91, 92, 93, 202, 203, 204, 205, 206, 53, 54, 55, 56, 57, 58, 59, 60, 61, 351, 352, 353, 354, 355, 377, 378, 356, 357, 358, 359, 360, 361, 362, 363, 364, 365, 366, 367, 368, 369, 370, 371, 372] (by decide +kernel) (by decide +kernel)
set_option maxRecDepth 20000 in
theorem gL_fails_X5_strike : GoodIn wsL_fails (wsV RL 47 RX5 yX5_strike wsX5_strike) := goodIn_app (goodIn_of _ (by decide +kernel)) ggL_fails_X5_strike
set_option maxRecDepth 20000 in
theorem ggL_fails_X5_tick : GoodIn wsL_fails wsX5_tick := goodIn_r _ [210, 29, 12, 19, 211, 212, 135, 98, 99, 30, 31, 9, 32, 139, 140, 141, 142, 143, 144, 145, 146, 147, 148, 149, 150, 151, 152, 44, 153, 154, 155, 156, 157, 158, 159, 50, 46, 47, 48, 49, 66, 67, 160, 161, 162, 163, 164, 86, 165, 88, 166, 89, 90, 91, 92, 93, 101, 102, 103, 104, 105, 106, 107, 108, 109, 110, 111, 112, 113, 114, 115, 116, 117, 118, 119, 120, 121, 122, 213, 214, 215, 216, 217, 218, 219, 220, 221, 222, 56, 57, 58, 59, 60, 61, 223, 224, 52, 53, 54, 55, 225, 226, 227, 228, 229, 230, 231, 232, 233, 234, 235, 236, 237, 238, 239, 240, 241, 242, 243, 244, 245, 246, 247, 248, 249, 250, 251, 252, 253, 254, 255, 256, 257, 258, 259, 260, 261, 262, 263, 264, 265, 266, 267, 268, 269, 270, 271, 272, 273, 274, 275, 276, 277, 278, 279, 280, 281, 282, 283, 284, 285, 286, 287, 288, 289, 290, 291, 292, 293, 294, 295, 63, 64, 65, 68, 69, 296, 297, 298, 299, 203, 204, 205, 300, 301, 302, 303, 304, 305, 306, 307, 308, 309, 351, 352, 353, 354, 355, 356, 357, 358, 359, 360, 361, 362, 363, 364, 365, 366, 377, 378, 367, 368, 369, 370, 371, 372, 373, 374, 375, 376, 379, 380] (by decide +kernel) (by decide +kernel)
set_option maxRecDepth 20000 in
theorem gL_fails_X5_tick : GoodIn wsL_fails (wsV RL 53 RX5 yX5_tick wsX5_tick) := goodIn_app (goodIn_of _ (by decide +kernel)) ggL_fails_X5_tick
set_option maxRecDepth 20000 in
theorem ggL_fails_X5_axis : GoodIn wsL_fails wsX5_axis := goodIn_r _ [36, 37, 12, 38, 39, 9, 40, 30, 31, 32, 41, 42, 43, 44, 45, 46, 47, 48, 49, 50, 51, 52, 53, 54, 55, 56, 57, 58, 59, 60, 61, 62, 63, 64, 65, 66, 67, 68, 69, 351, 352, 353, 354, 355, 356, 357, 358, 359, 360, 361, 362, 363, 364, 365, 366, 367, 368, 369, 370, 371, 372] (by decide +kernel) (by decide +kernel)
set_option maxRecDepth 20000 in
theorem gL_fails_X5_axis : GoodIn wsL_fails (wsV RL 56 RX5 yX5_axis wsX5_axis) := goodIn_app (goodIn_of _ (by decide +kernel)) ggL_fails_X5_axis
set_option maxRecDepth 20000 in
theorem ggL_fails_X5_wish : GoodIn wsL_fails wsX5_wish := goodIn_r _ [314, 37, 12, 78, 98, 99, 175, 79, 80, 81, 9, 82, 13, 30, 31, 32, 315, 316, 317, 201, 133, 101, 102, 103, 104, 105, 106, 107, 108, 109, 110, 111, 112, 113, 114, 115, 116, 117, 118, 119, 120, 121, 122, 318, 232, 233, 234, 319, 245, 246, 247, 248, 320, 256, 257, 258, 259, 231, 260, 59, 60, 61, 351, 352, 353, 354, 355, 356, 357, 358, 359, 360, 361, 362, 363, 364, 365, 366, 367, 368, 369, 370, 371, 372, 373, 374, 375, 376] (by decide +kernel) (by decide +kernel)
set_option maxRecDepth 20000 in
theorem gL_fails_X5_wish : GoodIn wsL_fails (wsV RL 59 RX5 yX5_wish wsX5_wish) := goodIn_app (goodIn_of _ (by decide +kernel)) ggL_fails_X5_wish
