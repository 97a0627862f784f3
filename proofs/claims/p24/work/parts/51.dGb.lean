set_option maxRecDepth 20000 in
theorem ggL_fails_X5_why : GoodIn wsL_fails wsX5_why := goodIn_r _ [126, 29, 12, 14, 127, 99, 351, 352, 353, 354, 355, 356, 357, 358, 359, 360, 361, 362, 363, 364, 365, 366] (by decide +kernel) (by decide +kernel)
set_option maxRecDepth 20000 in
theorem gL_fails_X5_why : GoodIn wsL_fails (wsV RL 63 RX5 yX5_why wsX5_why) := goodIn_app (goodIn_of _ (by decide +kernel)) ggL_fails_X5_why
set_option maxRecDepth 20000 in
theorem ggL_fails_X5_arrives : GoodIn wsL_fails wsX5_arrives := goodIn_r _ [325, 132, 29, 326, 12, 98, 99, 30, 31, 9, 32, 327, 151, 152, 44, 153, 154, 155, 156, 157, 158, 159, 50, 46, 47, 48, 49, 66, 67, 160, 161, 162, 163, 164, 86, 165, 88, 166, 89, 90, 91, 92, 93, 101, 102, 103, 104, 105, 106, 107, 108, 109, 110, 111, 112, 113, 114, 115, 116, 117, 118, 119, 120, 121, 122, 328, 329, 330, 331, 332, 333, 271, 334, 335, 336, 337, 338, 52, 53, 54, 55, 56, 57, 58, 59, 60, 61, 213, 214, 215, 216, 19, 217, 218, 219, 220, 221, 222, 223, 224, 225, 226, 227, 228, 229, 230, 231, 232, 233, 234, 235, 236, 237, 238, 239, 240, 241, 242, 243, 244, 245, 246, 247, 248, 249, 250, 251, 252, 253, 254, 255, 256, 257, 258, 259, 260, 261, 262, 263, 264, 265, 266, 267, 268, 269, 270, 272, 273, 274, 275, 276, 277, 278, 279, 280, 281, 282, 283, 284, 285, 286, 287, 288, 289, 290, 291, 292, 293, 294, 295, 63, 64, 65, 68, 69, 296, 297, 298, 299, 203, 204, 205, 300, 301, 302, 303, 304, 305, 306, 307, 308, 351, 352, 353, 354, 355, 356, 357, 358, 359, 360, 361, 362, 363, 364, 365, 366, 367, 368, 369, 370, 371, 372, 373, 374, 375, 376, 379, 380] (by decide +kernel) (by decide +kernel)
set_option maxRecDepth 20000 in
theorem gL_fails_X5_arrives : GoodIn wsL_fails (wsV RL 67 RX5 yX5_arrives wsX5_arrives) := goodIn_app (goodIn_of _ (by decide +kernel)) ggL_fails_X5_arrives
set_option maxRecDepth 20000 in
theorem ggL_fails_X5_gravest : GoodIn wsL_fails wsX5_gravest := goodIn_r _ [342, 29, 99, 12, 13, 78, 175, 30, 31, 9, 32, 343, 344, 345, 346, 326, 98, 327, 151, 152, 44, 153, 154, 155, 156, 157, 158, 159, 50, 46, 47, 48, 49, 66, 67, 160, 161, 162, 163, 164, 86, 165, 88, 166, 89, 90, 91, 92, 93, 101, 102, 103, 104, 105, 106, 107, 108, 109, 110, 111, 112, 113, 114, 115, 116, 117, 118, 119, 120, 121, 122, 213, 214, 215, 216, 19, 217, 218, 219, 220, 221, 222, 56, 57, 58, 59, 60, 61, 223, 224, 52, 53, 54, 55, 225, 226, 227, 228, 229, 230, 231, 232, 233, 234, 235, 236, 237, 238, 239, 240, 241, 242, 243, 244, 245, 246, 247, 248, 249, 250, 251, 252, 253, 254, 255, 256, 257, 258, 259, 260, 261, 262, 263, 264, 265, 266, 267, 268, 269, 270, 271, 272, 273, 274, 275, 276, 277, 278, 279, 280, 281, 282, 283, 284, 285, 286, 287, 288, 289, 290, 291, 292, 293, 294, 295, 63, 64, 65, 68, 69, 296, 297, 298, 299, 203, 204, 205, 300, 301, 302, 303, 304, 305, 306, 307, 308, 347, 348, 349, 350, 335, 336, 337, 338, 332, 333, 334, 351, 352, 353, 354, 355, 356, 357, 358, 359, 360, 361, 362, 363, 364, 365, 366, 367, 368, 369, 370, 371, 372, 373, 374, 375, 376, 379, 380] (by decide +kernel) (by decide +kernel)
set_option maxRecDepth 20000 in
theorem gL_fails_X5_gravest : GoodIn wsL_fails (wsV RL 70 RX5 yX5_gravest wsX5_gravest) := goodIn_app (goodIn_of _ (by decide +kernel)) ggL_fails_X5_gravest
set_option maxRecDepth 20000 in
theorem ggL_keeps_X5_axis : GoodIn wsL_keeps wsX5_axis := goodIn_r _ [5, 6, 7, 8, 9, 4, 10, 11, 12, 13, 14, 15, 16, 17, 18, 19, 20, 21, 22, 23, 24, 25, 26, 27, 28, 29, 30, 31, 32, 33, 34, 35, 36, 37, 38, 39, 40, 41, 42, 65, 66, 67, 68, 69, 70, 71, 72, 73, 74, 75, 76, 77, 78, 79, 80, 81, 82, 83, 84, 85, 86] (by decide +kernel) (by decide +kernel)
set_option maxRecDepth 20000 in
theorem gL_keeps_X5_axis : GoodIn wsL_keeps (wsV RL 56 RX5 yX5_axis wsX5_axis) := goodIn_app (goodIn_of _ (by decide +kernel)) ggL_keeps_X5_axis
set_option maxRecDepth 20000 in
theorem ggL_keeps_X5_wheel : GoodIn wsL_keeps wsX5_wheel := goodIn_r _ [46, 47, 7, 48, 49, 50, 51, 4, 52, 53, 11, 12, 13, 54, 55, 56, 57, 58, 59, 60, 61, 62, 63, 64, 65, 66, 67, 68, 69, 70, 71, 72, 73, 74, 75, 76, 77, 78, 79, 80, 81, 82, 83, 84, 85, 86] (by decide +kernel) (by decide +kernel)
set_option maxRecDepth 20000 in
theorem gL_keeps_X5_wheel : GoodIn wsL_keeps (wsV RL 31 RX5 yX5_wheel wsX5_wheel) := goodIn_app (goodIn_of _ (by decide +kernel)) ggL_keeps_X5_wheel
set_option maxRecDepth 20000 in
theorem ggL_reasons_X5_why : GoodIn wsL_reasons wsX5_why := goodIn_r _ [6, 7, 8, 9, 10, 11, 12, 13, 14, 15, 16, 17, 18, 19, 20, 21, 22, 23, 24, 25, 26, 27] (by decide +kernel) (by decide +kernel)
set_option maxRecDepth 20000 in
theorem gL_reasons_X5_why : GoodIn wsL_reasons (wsV RL 63 RX5 yX5_why wsX5_why) := goodIn_app (goodIn_of _ (by decide +kernel)) ggL_reasons_X5_why
set_option maxRecDepth 20000 in
theorem ggL_wishes_X5_wish : GoodIn wsL_wishes wsX5_wish := goodIn_r _ [7, 8, 9, 10, 11, 12, 13, 14, 15, 16, 6, 17, 18, 19, 20, 21, 22, 23, 24, 25, 26, 27, 28, 29, 30, 31, 32, 33, 34, 35, 36, 37, 38, 39, 40, 41, 42, 43, 44, 45, 46, 47, 48, 49, 50, 51, 52, 53, 54, 55, 56, 57, 58, 59, 60, 61, 62, 63, 64, 65, 66, 67, 97, 98, 99, 100, 101, 102, 103, 104, 105, 106, 107, 108, 109, 110, 111, 112, 113, 114, 115, 116, 117, 118, 119, 120, 121, 122] (by decide +kernel) (by decide +kernel)
set_option maxRecDepth 20000 in
theorem gL_wishes_X5_wish : GoodIn wsL_wishes (wsV RL 59 RX5 yX5_wish wsX5_wish) := goodIn_app (goodIn_of _ (by decide +kernel)) ggL_wishes_X5_wish
set_option maxRecDepth 20000 in
theorem ggL_wishes_X5_wheel : GoodIn wsL_wishes wsX5_wheel := goodIn_r _ [71, 72, 9, 10, 14, 15, 16, 6, 17, 18, 19, 20, 21, 73, 74, 75, 76, 77, 78, 79, 80, 81, 82, 83, 97, 98, 99, 100, 101, 102, 103, 104, 105, 106, 107, 108, 109, 110, 111, 112, 113, 114, 115, 116, 117, 118] (by decide +kernel) (by decide +kernel)
set_option maxRecDepth 20000 in
theorem gL_wishes_X5_wheel : GoodIn wsL_wishes (wsV RL 31 RX5 yX5_wheel wsX5_wheel) := goodIn_app (goodIn_of _ (by decide +kernel)) ggL_wishes_X5_wheel
set_option maxRecDepth 20000 in
theorem ggL_wishes_X5_span : GoodIn wsL_wishes wsX5_span := goodIn_r _ [87, 11, 9, 12, 88, 27, 28, 29, 30, 31, 32, 33, 34, 35, 36, 37, 38, 39, 40, 41, 42, 43, 44, 45, 46, 47, 6, 48, 97, 98, 99, 100, 101, 119, 120, 121, 122, 102, 103, 104, 105, 106, 107, 108, 109, 110, 111, 112, 113, 114, 115, 116, 117, 118] (by decide +kernel) (by decide +kernel)
set_option maxRecDepth 20000 in
theorem gL_wishes_X5_span : GoodIn wsL_wishes (wsV RL 73 RX5 yX5_span wsX5_span) := goodIn_app (goodIn_of _ (by decide +kernel)) ggL_wishes_X5_span
set_option maxRecDepth 20000 in
theorem ggL_wishes_L_size : GoodIn wsL_wishes wsL_size := goodIn_r _ [92] (by decide +kernel) (by decide +kernel)
set_option maxRecDepth 20000 in
theorem gL_wishes_L_size : GoodIn wsL_wishes (va_wsS RL 76 yL_size wsL_size) := goodIn_app (goodIn_of _ (by decide +kernel)) ggL_wishes_L_size
set_option maxRecDepth 20000 in
theorem ggL_wishes_X5_spare : GoodIn wsL_wishes wsX5_spare := goodIn_r _ [96, 9, 18, 11, 10, 13, 27, 28, 29, 30, 31, 32, 33, 34, 35, 36, 37, 38, 39, 40, 41, 42, 43, 44, 45, 46, 47, 6, 48, 49, 50, 51, 52, 97, 98, 99, 100, 101, 102, 103, 104, 105, 106, 107, 108, 109, 110, 111, 112, 113, 114, 115, 116, 117, 118, 119, 120, 121, 122] (by decide +kernel) (by decide +kernel)
set_option maxRecDepth 20000 in
theorem gL_wishes_X5_spare : GoodIn wsL_wishes (wsV RL 80 RX5 yX5_spare wsX5_spare) := goodIn_app (goodIn_of _ (by decide +kernel)) ggL_wishes_X5_spare
set_option maxRecDepth 20000 in
theorem ggL_ticks_X5_fingerprint : GoodIn wsL_ticks wsX5_fingerprint := goodIn_r _ [6, 7, 8, 9, 10, 11, 12, 13, 5, 14, 15, 16, 17, 18, 19, 20, 21, 22, 23, 24, 25, 26, 27, 28, 29, 30, 31, 32, 33, 34, 35, 36, 37, 38, 39, 40, 41, 42, 43, 44, 45, 46, 47, 48, 49, 50, 51, 52, 53, 54, 55, 56, 57, 58, 59, 60, 61, 62, 63, 64, 65, 66, 67, 68, 69, 70, 71, 72, 73, 74, 75, 76, 77, 78, 79, 80, 81, 82, 83, 84, 85, 86, 87, 88, 89, 90, 91, 92, 93, 94, 95, 96, 97, 98, 99, 100, 101, 102, 103, 104, 105, 106, 107, 108, 109, 110, 111, 112, 113, 114, 115, 116, 117, 118, 119, 120, 121, 122, 123, 310, 311, 312, 313, 314, 315, 316, 317, 318, 319, 320, 321, 322, 323, 324, 325, 326, 327, 328, 329, 330, 331, 332, 333, 334, 335] (by decide +kernel) (by decide +kernel)
set_option maxRecDepth 20000 in
theorem gL_ticks_X5_fingerprint : GoodIn wsL_ticks (wsV RL 9 RX5 yX5_fingerprint wsX5_fingerprint) := goodIn_app (goodIn_of _ (by decide +kernel)) ggL_ticks_X5_fingerprint
