set_option maxRecDepth 20000 in
theorem ggL_law_X5_wheels : GoodIn wsL_law wsX5_wheels := goodIn_r _ [104, 15, 105, 446, 447, 448, 449, 450, 451, 452, 453, 454, 455, 456, 457, 458, 459, 460, 461] (by decide +kernel) (by decide +kernel)
set_option maxRecDepth 20000 in
theorem gL_law_X5_wheels : GoodIn wsL_law (wsV RL 95 RX5 yX5_wheels wsX5_wheels) := goodIn_app (goodIn_of _ (by decide +kernel)) ggL_law_X5_wheels
set_option maxRecDepth 20000 in
theorem ggL_law_X5_span : GoodIn wsL_law wsX5_span := goodIn_r _ [109, 20, 15, 110, 111, 112, 113, 114, 19, 115, 56, 116, 117, 118, 119, 120, 57, 121, 122, 123, 124, 125, 126, 127, 128, 129, 2, 130, 446, 447, 448, 449, 450, 462, 463, 464, 465, 451, 452, 453, 454, 455, 456, 457, 458, 459, 460, 461, 470, 471, 472, 473, 474, 475] (by decide +kernel) (by decide +kernel)
set_option maxRecDepth 20000 in
theorem gL_law_X5_span : GoodIn wsL_law (wsV RL 73 RX5 yX5_span wsX5_span) := goodIn_app (goodIn_of _ (by decide +kernel)) ggL_law_X5_span
set_option maxRecDepth 20000 in
theorem ggL_law_X5_why : GoodIn wsL_law wsX5_why := goodIn_r _ [134, 135, 15, 136, 137, 110, 446, 447, 448, 449, 450, 451, 452, 453, 454, 455, 456, 457, 458, 459, 460, 461] (by decide +kernel) (by decide +kernel)
set_option maxRecDepth 20000 in
theorem gL_law_X5_why : GoodIn wsL_law (wsV RL 63 RX5 yX5_why wsX5_why) := goodIn_app (goodIn_of _ (by decide +kernel)) ggL_law_X5_why
set_option maxRecDepth 20000 in
theorem ggL_law_X5_fullness : GoodIn wsL_law wsX5_fullness := goodIn_r _ [141, 15, 105, 142, 143, 144, 145, 46, 146, 97, 96, 147, 148, 149, 150, 446, 447, 448, 449, 450, 451, 452, 453, 454, 455, 456, 457, 458, 459, 460, 461, 470, 471, 472, 473, 474, 475] (by decide +kernel) (by decide +kernel)
set_option maxRecDepth 20000 in
theorem gL_law_X5_fullness : GoodIn wsL_law (wsV RL 98 RX5 yX5_fullness wsX5_fullness) := goodIn_app (goodIn_of _ (by decide +kernel)) ggL_law_X5_fullness
set_option maxRecDepth 20000 in
theorem ggL_law_X5_arrives : GoodIn wsL_law wsX5_arrives := goodIn_r _ [154, 155, 135, 16, 15, 20, 110, 156, 157, 2, 158, 159, 82, 83, 14, 84, 85, 34, 86, 87, 88, 89, 36, 38, 39, 40, 41, 90, 43, 44, 47, 91, 92, 93, 46, 94, 51, 95, 96, 97, 98, 99, 100, 112, 113, 114, 19, 115, 56, 116, 117, 118, 119, 120, 57, 121, 122, 123, 124, 125, 126, 127, 128, 129, 130, 160, 161, 162, 163, 164, 165, 149, 166, 167, 168, 169, 170, 171, 172, 173, 174, 175, 176, 177, 178, 179, 180, 181, 182, 183, 184, 185, 24, 186, 187, 188, 189, 190, 191, 192, 193, 194, 195, 196, 197, 198, 199, 200, 201, 202, 203, 204, 205, 206, 207, 208, 209, 210, 211, 212, 213, 214, 215, 58, 216, 217, 218, 219, 220, 221, 222, 223, 224, 225, 226, 227, 228, 229, 230, 231, 232, 233, 234, 235, 236, 237, 238, 239, 240, 241, 242, 243, 244, 245, 246, 247, 248, 249, 250, 251, 252, 23, 253, 254, 255, 62, 63, 256, 257, 258, 259, 260, 261, 262, 263, 264, 265, 266, 267, 268, 269, 270, 271, 272, 273, 274, 275, 276, 277, 278, 279, 446, 447, 448, 449, 450, 451, 452, 453, 454, 455, 456, 457, 458, 459, 460, 461, 470, 471, 472, 473, 474, 475, 462, 463, 464, 465, 466, 467] (by decide +kernel) (by decide +kernel)
set_option maxRecDepth 20000 in
theorem gL_law_X5_arrives : GoodIn wsL_law (wsV RL 67 RX5 yX5_arrives wsX5_arrives) := goodIn_app (goodIn_of _ (by decide +kernel)) ggL_law_X5_arrives
set_option maxRecDepth 20000 in
theorem ggL_law_X5_spare : GoodIn wsL_law wsX5_spare := goodIn_r _ [283, 15, 105, 20, 142, 284, 112, 113, 114, 19, 115, 56, 116, 117, 118, 119, 120, 57, 121, 122, 123, 124, 125, 126, 127, 128, 129, 2, 130, 285, 200, 201, 202, 446, 447, 448, 449, 450, 451, 452, 453, 454, 455, 456, 457, 458, 459, 460, 461, 470, 471, 472, 473, 474, 475, 462, 463, 464, 465] (by decide +kernel) (by decide +kernel)
set_option maxRecDepth 20000 in
theorem gL_law_X5_spare : GoodIn wsL_law (wsV RL 80 RX5 yX5_spare wsX5_spare) := goodIn_app (goodIn_of _ (by decide +kernel)) ggL_law_X5_spare
set_option maxRecDepth 20000 in
theorem ggL_law_X5_gravest : GoodIn wsL_law wsX5_gravest := goodIn_r _ [289, 135, 110, 15, 105, 142, 284, 156, 157, 2, 158, 290, 291, 292, 293, 16, 20, 159, 82, 83, 14, 84, 85, 34, 86, 87, 88, 89, 36, 38, 39, 40, 41, 90, 43, 44, 47, 91, 92, 93, 46, 94, 51, 95, 96, 97, 98, 99, 100, 112, 113, 114, 19, 115, 56, 116, 117, 118, 119, 120, 57, 121, 122, 123, 124, 125, 126, 127, 128, 129, 130, 181, 182, 183, 184, 185, 24, 186, 187, 188, 189, 190, 175, 176, 177, 178, 179, 180, 191, 192, 171, 172, 173, 174, 193, 194, 195, 196, 197, 198, 199, 200, 201, 202, 203, 204, 205, 206, 207, 208, 209, 210, 211, 212, 213, 214, 215, 58, 216, 217, 218, 219, 220, 221, 222, 223, 224, 225, 226, 227, 228, 229, 230, 231, 232, 233, 234, 235, 236, 237, 149, 238, 239, 240, 241, 242, 243, 244, 245, 246, 247, 248, 249, 250, 251, 252, 23, 253, 254, 255, 62, 63, 256, 257, 258, 259, 260, 261, 262, 263, 264, 265, 266, 267, 268, 269, 270, 271, 272, 273, 274, 275, 276, 277, 278, 279, 294, 295, 296, 297, 167, 168, 169, 170, 164, 165, 166, 446, 447, 448, 449, 450, 451, 452, 453, 454, 455, 456, 457, 458, 459, 460, 461, 470, 471, 472, 473, 474, 475, 462, 463, 464, 465, 466, 467] (by decide +kernel) (by decide +kernel)
set_option maxRecDepth 20000 in
theorem gL_law_X5_gravest : GoodIn wsL_law (wsV RL 70 RX5 yX5_gravest wsX5_gravest) := goodIn_app (goodIn_of _ (by decide +kernel)) ggL_law_X5_gravest
set_option maxRecDepth 20000 in
theorem gL_law_L_fails : GoodIn wsL_law (va_wsS RL 102 yL_fails wsL_fails) := goodIn_app (goodIn_of _ (by decide +kernel)) ggL_law_L_fails
set_option maxRecDepth 20000 in
theorem ggL_law_L_cell : GoodIn wsL_law wsL_cell := goodIn_r _ [424, 425] (by decide +kernel) (by decide +kernel)
set_option maxRecDepth 20000 in
theorem gL_law_L_cell : GoodIn wsL_law (va_wsS RL 105 yL_cell wsL_cell) := goodIn_app (goodIn_of _ (by decide +kernel)) ggL_law_L_cell
set_option maxRecDepth 20000 in
theorem ggL_law_L_up : GoodIn wsL_law wsL_up := goodIn_r _ [428, 429] (by decide +kernel) (by decide +kernel)
set_option maxRecDepth 20000 in
theorem gL_law_L_up : GoodIn wsL_law (va_wsS RL 109 yL_up wsL_up) := goodIn_app (goodIn_of _ (by decide +kernel)) ggL_law_L_up
set_option maxRecDepth 20000 in
theorem ggL_law_X5_addWheel : GoodIn wsL_law wsX5_addWheel := goodIn_r _ [355, 155, 356, 135, 15, 105, 357, 28, 142, 358, 359, 2, 360, 156, 157, 158, 361, 362, 363, 27, 364, 79, 69, 365, 366, 367, 368, 81, 82, 83, 14, 84, 85, 34, 86, 87, 88, 89, 36, 38, 39, 40, 41, 90, 43, 44, 47, 91, 92, 93, 46, 94, 51, 95, 96, 97, 98, 99, 100, 369, 370, 371, 372, 446, 447, 448, 449, 450, 451, 452, 453, 454, 455, 456, 457, 458, 459, 460, 461, 468, 469, 470, 471, 472, 473, 474, 475] (by decide +kernel) (by decide +kernel)
set_option maxRecDepth 20000 in
theorem gL_law_X5_addWheel : GoodIn wsL_law (wsV RL 15 RX5 yX5_addWheel wsX5_addWheel) := goodIn_app (goodIn_of _ (by decide +kernel)) ggL_law_X5_addWheel
set_option maxRecDepth 20000 in
theorem gL_law_L_ticks : GoodIn wsL_law (va_wsS RL 113 yL_ticks wsL_ticks) := goodIn_app (goodIn_of _ (by decide +kernel)) ggL_law_L_ticks
