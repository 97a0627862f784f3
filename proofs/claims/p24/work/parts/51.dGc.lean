set_option maxRecDepth 20000 in
theorem ggL_ticks_X5_time : GoodIn wsL_ticks wsX5_time := goodIn_r _ [14, 8, 15, 310, 311, 312, 313, 314, 315, 316, 317, 318, 319, 320, 321, 322, 323, 324, 325] (by decide +kernel) (by decide +kernel)
set_option maxRecDepth 20000 in
theorem gL_ticks_X5_time : GoodIn wsL_ticks (wsV RL 84 RX5 yX5_time wsX5_time) := goodIn_app (goodIn_of _ (by decide +kernel)) ggL_ticks_X5_time
set_option maxRecDepth 20000 in
theorem ggL_ticks_X5_arrives : GoodIn wsL_ticks wsX5_arrives := goodIn_r _ [128, 129, 25, 130, 8, 94, 95, 26, 27, 5, 28, 131, 132, 133, 40, 134, 135, 136, 137, 138, 139, 140, 46, 42, 43, 44, 45, 62, 63, 141, 142, 143, 144, 145, 82, 146, 84, 147, 85, 86, 87, 88, 89, 97, 98, 99, 100, 101, 102, 103, 104, 105, 106, 107, 108, 109, 110, 111, 112, 113, 114, 115, 116, 117, 118, 148, 149, 150, 151, 152, 153, 154, 155, 156, 157, 158, 159, 48, 49, 50, 51, 52, 53, 54, 55, 56, 57, 160, 161, 162, 163, 15, 164, 165, 166, 167, 168, 169, 170, 171, 172, 173, 174, 175, 176, 177, 178, 179, 180, 181, 182, 183, 184, 185, 186, 187, 188, 189, 190, 191, 192, 193, 194, 195, 196, 197, 198, 199, 200, 201, 202, 203, 204, 205, 206, 207, 208, 209, 210, 211, 212, 213, 214, 215, 216, 217, 218, 219, 220, 221, 222, 223, 224, 225, 226, 227, 228, 229, 230, 231, 232, 233, 234, 235, 236, 237, 238, 239, 240, 241, 59, 60, 61, 64, 65, 242, 243, 244, 245, 246, 247, 248, 249, 250, 251, 252, 253, 254, 255, 256, 257, 310, 311, 312, 313, 314, 315, 316, 317, 318, 319, 320, 321, 322, 323, 324, 325, 326, 327, 328, 329, 330, 331, 332, 333, 334, 335, 336, 337] (by decide +kernel) (by decide +kernel)
set_option maxRecDepth 20000 in
theorem gL_ticks_X5_arrives : GoodIn wsL_ticks (wsV RL 67 RX5 yX5_arrives wsX5_arrives) := goodIn_app (goodIn_of _ (by decide +kernel)) ggL_ticks_X5_arrives
set_option maxRecDepth 20000 in
theorem ggL_ticks_X5_gravest : GoodIn wsL_ticks wsX5_gravest := goodIn_r _ [261, 25, 95, 8, 9, 74, 262, 26, 27, 5, 28, 263, 264, 265, 266, 130, 94, 131, 132, 133, 40, 134, 135, 136, 137, 138, 139, 140, 46, 42, 43, 44, 45, 62, 63, 141, 142, 143, 144, 145, 82, 146, 84, 147, 85, 86, 87, 88, 89, 97, 98, 99, 100, 101, 102, 103, 104, 105, 106, 107, 108, 109, 110, 111, 112, 113, 114, 115, 116, 117, 118, 160, 161, 162, 163, 15, 164, 165, 166, 167, 168, 169, 52, 53, 54, 55, 56, 57, 170, 171, 48, 49, 50, 51, 172, 173, 174, 175, 176, 177, 178, 179, 180, 181, 182, 183, 184, 185, 186, 187, 188, 189, 190, 191, 192, 193, 194, 195, 196, 197, 198, 199, 200, 201, 202, 203, 204, 205, 206, 207, 208, 209, 210, 211, 212, 213, 214, 215, 216, 217, 154, 218, 219, 220, 221, 222, 223, 224, 225, 226, 227, 228, 229, 230, 231, 232, 233, 234, 235, 236, 237, 238, 239, 240, 241, 59, 60, 61, 64, 65, 242, 243, 244, 245, 246, 247, 248, 249, 250, 251, 252, 253, 254, 255, 256, 257, 267, 268, 269, 270, 156, 157, 158, 159, 152, 153, 155, 310, 311, 312, 313, 314, 315, 316, 317, 318, 319, 320, 321, 322, 323, 324, 325, 326, 327, 328, 329, 330, 331, 332, 333, 334, 335, 336, 337] (by decide +kernel) (by decide +kernel)
set_option maxRecDepth 20000 in
theorem gL_ticks_X5_gravest : GoodIn wsL_ticks (wsV RL 70 RX5 yX5_gravest wsX5_gravest) := goodIn_app (goodIn_of _ (by decide +kernel)) ggL_ticks_X5_gravest
set_option maxRecDepth 20000 in
theorem ggL_ticks_X5_wheel : GoodIn wsL_ticks wsX5_wheel := goodIn_r _ [73, 25, 8, 74, 75, 76, 77, 5, 78, 9, 26, 27, 28, 79, 80, 81, 82, 83, 84, 85, 86, 87, 88, 89, 310, 311, 312, 313, 314, 315, 316, 317, 318, 319, 320, 321, 322, 323, 324, 325, 326, 327, 328, 329, 330, 331] (by decide +kernel) (by decide +kernel)
set_option maxRecDepth 20000 in
theorem gL_ticks_X5_wheel : GoodIn wsL_ticks (wsV RL 31 RX5 yX5_wheel wsX5_wheel) := goodIn_app (goodIn_of _ (by decide +kernel)) ggL_ticks_X5_wheel
set_option maxRecDepth 20000 in
theorem ggL_ticks_X5_tick : GoodIn wsL_ticks wsX5_tick := goodIn_r _ [275, 25, 8, 15, 276, 277, 278, 94, 95, 26, 27, 5, 28, 279, 280, 281, 282, 283, 284, 285, 286, 287, 288, 289, 290, 132, 133, 40, 134, 135, 136, 137, 138, 139, 140, 46, 42, 43, 44, 45, 62, 63, 141, 142, 143, 144, 145, 82, 146, 84, 147, 85, 86, 87, 88, 89, 97, 98, 99, 100, 101, 102, 103, 104, 105, 106, 107, 108, 109, 110, 111, 112, 113, 114, 115, 116, 117, 118, 160, 161, 162, 163, 164, 165, 166, 167, 168, 169, 52, 53, 54, 55, 56, 57, 170, 171, 48, 49, 50, 51, 172, 173, 174, 175, 176, 177, 178, 179, 180, 181, 182, 183, 184, 185, 186, 187, 188, 189, 190, 191, 192, 193, 194, 195, 196, 197, 198, 199, 200, 201, 202, 203, 204, 205, 206, 207, 208, 209, 210, 211, 212, 213, 214, 215, 216, 217, 154, 218, 219, 220, 221, 222, 223, 224, 225, 226, 227, 228, 229, 230, 231, 232, 233, 234, 235, 236, 237, 238, 239, 240, 241, 59, 60, 61, 64, 65, 242, 243, 244, 245, 246, 247, 248, 249, 250, 251, 252, 253, 254, 255, 256, 257, 291, 310, 311, 312, 313, 314, 315, 316, 317, 318, 319, 320, 321, 322, 323, 324, 325, 338, 339, 326, 327, 328, 329, 330, 331, 332, 333, 334, 335, 336, 337] (by decide +kernel) (by decide +kernel)
set_option maxRecDepth 20000 in
theorem gL_ticks_X5_tick : GoodIn wsL_ticks (wsV RL 53 RX5 yX5_tick wsX5_tick) := goodIn_app (goodIn_of _ (by decide +kernel)) ggL_ticks_X5_tick
set_option maxRecDepth 20000 in
theorem ggL_ticks_L_reasons : GoodIn wsL_ticks wsL_reasons := goodIn_r _ [295, 1, 296, 120, 121, 5, 122, 25, 8, 10, 123, 95, 310, 311, 312, 313, 314, 315, 316, 317, 318, 319, 320, 321, 322, 323, 324, 325] (by decide +kernel) (by decide +kernel)
set_option maxRecDepth 20000 in
theorem gL_ticks_L_reasons : GoodIn wsL_ticks (va_wsS RL 87 yL_reasons wsL_reasons) := goodIn_app (goodIn_of _ (by decide +kernel)) ggL_ticks_L_reasons
set_option maxRecDepth 20000 in
theorem ggL_ticks_X5_why : GoodIn wsL_ticks wsX5_why := goodIn_r _ [122, 25, 8, 10, 123, 95, 310, 311, 312, 313, 314, 315, 316, 317, 318, 319, 320, 321, 322, 323, 324, 325] (by decide +kernel) (by decide +kernel)
set_option maxRecDepth 20000 in
theorem gL_ticks_X5_why : GoodIn wsL_ticks (wsV RL 63 RX5 yX5_why wsX5_why) := goodIn_app (goodIn_of _ (by decide +kernel)) ggL_ticks_X5_why
set_option maxRecDepth 20000 in
theorem ggL_ticks_X5_axis : GoodIn wsL_ticks wsX5_axis := goodIn_r _ [32, 33, 8, 34, 35, 5, 36, 26, 27, 28, 37, 38, 39, 40, 41, 42, 43, 44, 45, 46, 47, 48, 49, 50, 51, 52, 53, 54, 55, 56, 57, 58, 59, 60, 61, 62, 63, 64, 65, 310, 311, 312, 313, 314, 315, 316, 317, 318, 319, 320, 321, 322, 323, 324, 325, 326, 327, 328, 329, 330, 331] (by decide +kernel) (by decide +kernel)
set_option maxRecDepth 20000 in
theorem gL_ticks_X5_axis : GoodIn wsL_ticks (wsV RL 56 RX5 yX5_axis wsX5_axis) := goodIn_app (goodIn_of _ (by decide +kernel)) ggL_ticks_X5_axis
set_option maxRecDepth 20000 in
theorem ggL_ticks_L_size : GoodIn wsL_ticks wsL_size := goodIn_r _ [300] (by decide +kernel) (by decide +kernel)
set_option maxRecDepth 20000 in
theorem gL_ticks_L_size : GoodIn wsL_ticks (va_wsS RL 76 yL_size wsL_size) := goodIn_app (goodIn_of _ (by decide +kernel)) ggL_ticks_L_size
set_option maxRecDepth 20000 in
theorem ggL_ticks_X5_undo : GoodIn wsL_ticks wsX5_undo := goodIn_r _ [304, 278, 8, 305, 306, 307, 282, 308, 284, 309, 285, 290, 132, 133, 40, 134, 135, 136, 137, 138, 139, 140, 46, 42, 43, 44, 45, 62, 63, 141, 142, 143, 144, 145, 82, 146, 84, 147, 85, 86, 87, 88, 89, 310, 311, 312, 313, 314, 338, 339, 315, 316, 317, 318, 319, 320, 321, 322, 323, 324, 325, 326, 327, 328, 329, 330, 331] (by decide +kernel) (by decide +kernel)
set_option maxRecDepth 20000 in
theorem gL_ticks_X5_undo : GoodIn wsL_ticks (wsV RL 91 RX5 yX5_undo wsX5_undo) := goodIn_app (goodIn_of _ (by decide +kernel)) ggL_ticks_X5_undo
set_option maxRecDepth 20000 in
theorem ggL_law_X5_init : GoodIn wsL_law wsX5_init := goodIn_r _ [8, 9, 10, 11, 12, 13, 14, 15, 16, 17, 18, 19, 20, 21, 22, 23, 24, 25, 26, 27, 28, 29, 30, 31, 32, 33, 34, 35, 36, 37, 38, 39, 40, 41, 42, 43, 44, 45, 46, 47, 48, 49, 50, 51, 52, 53, 54, 55, 56, 57, 58, 59, 60, 61, 62, 63, 64, 65, 66, 67, 68, 69, 70, 451, 452, 453, 454, 455, 456, 457, 458, 459, 460, 461, 446, 447, 448, 449, 450, 462, 463, 464, 465, 466, 467, 468, 469, 470, 471, 472, 473, 474, 475] (by decide +kernel) (by decide +kernel)
set_option maxRecDepth 20000 in
theorem gL_law_X5_init : GoodIn wsL_law (wsX5_init) := ggL_law_X5_init
set_option maxRecDepth 20000 in
theorem ggL_law_X5_undo : GoodIn wsL_law wsX5_undo := goodIn_r _ [74, 28, 15, 75, 76, 77, 27, 78, 79, 80, 69, 81, 82, 83, 14, 84, 85, 34, 86, 87, 88, 89, 36, 38, 39, 40, 41, 90, 43, 44, 47, 91, 92, 93, 46, 94, 51, 95, 96, 97, 98, 99, 100, 446, 447, 448, 449, 450, 468, 469, 451, 452, 453, 454, 455, 456, 457, 458, 459, 460, 461, 470, 471, 472, 473, 474, 475] (by decide +kernel) (by decide +kernel)
set_option maxRecDepth 20000 in
theorem gL_law_X5_undo : GoodIn wsL_law (wsV RL 91 RX5 yX5_undo wsX5_undo) := goodIn_app (goodIn_of _ (by decide +kernel)) ggL_law_X5_undo
