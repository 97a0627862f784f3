set_option maxRecDepth 20000 in
theorem ggL_law_X5_axis : GoodIn wsL_law wsX5_axis := goodIn_r _ [326, 327, 15, 328, 329, 2, 330, 156, 157, 158, 331, 332, 333, 14, 334, 38, 39, 40, 41, 36, 335, 171, 172, 173, 174, 175, 176, 177, 178, 179, 180, 336, 259, 260, 261, 90, 43, 262, 263, 446, 447, 448, 449, 450, 451, 452, 453, 454, 455, 456, 457, 458, 459, 460, 461, 470, 471, 472, 473, 474, 475] (by decide +kernel) (by decide +kernel)
set_option maxRecDepth 20000 in
theorem gL_law_X5_axis : GoodIn wsL_law (wsV RL 56 RX5 yX5_axis wsX5_axis) := goodIn_app (goodIn_of _ (by decide +kernel)) ggL_law_X5_axis
set_option maxRecDepth 20000 in
theorem ggL_law_X5_setAxis : GoodIn wsL_law wsX5_setAxis := goodIn_r _ [387, 388, 389, 135, 28, 15, 390, 328, 329, 2, 330, 156, 157, 158, 361, 362, 363, 27, 364, 79, 69, 365, 366, 367, 368, 81, 82, 83, 14, 84, 85, 34, 86, 87, 88, 89, 36, 38, 39, 40, 41, 90, 43, 44, 47, 91, 92, 93, 46, 94, 51, 95, 96, 97, 98, 99, 100, 446, 447, 448, 449, 450, 451, 452, 453, 454, 455, 456, 457, 458, 459, 460, 461, 468, 469, 470, 471, 472, 473, 474, 475] (by decide +kernel) (by decide +kernel)
set_option maxRecDepth 20000 in
theorem gL_law_X5_setAxis : GoodIn wsL_law (wsV RL 35 RX5 yX5_setAxis wsX5_setAxis) := goodIn_app (goodIn_of _ (by decide +kernel)) ggL_law_X5_setAxis
set_option maxRecDepth 20000 in
theorem ggL_law_X5_setting : GoodIn wsL_law wsX5_setting := goodIn_r _ [321, 15, 322, 135, 156, 157, 2, 158, 446, 447, 448, 449, 450, 451, 452, 453, 454, 455, 456, 457, 458, 459, 460, 461] (by decide +kernel) (by decide +kernel)
set_option maxRecDepth 20000 in
theorem gL_law_X5_setting : GoodIn wsL_law (wsV RL 43 RX5 yX5_setting wsX5_setting) := goodIn_app (goodIn_of _ (by decide +kernel)) ggL_law_X5_setting
set_option maxRecDepth 20000 in
theorem ggL_law_X5_set : GoodIn wsL_law wsX5_set := goodIn_r _ [394, 395, 396, 135, 28, 15, 322, 156, 157, 2, 158, 361, 362, 363, 27, 364, 79, 69, 365, 366, 367, 368, 81, 82, 83, 14, 84, 85, 34, 86, 87, 88, 89, 36, 38, 39, 40, 41, 90, 43, 44, 47, 91, 92, 93, 46, 94, 51, 95, 96, 97, 98, 99, 100, 446, 447, 448, 449, 450, 451, 452, 453, 454, 455, 456, 457, 458, 459, 460, 461, 468, 469, 470, 471, 472, 473, 474, 475] (by decide +kernel) (by decide +kernel)
set_option maxRecDepth 20000 in
theorem gL_law_X5_set : GoodIn wsL_law (wsV RL 40 RX5 yX5_set wsX5_set) := goodIn_app (goodIn_of _ (by decide +kernel)) ggL_law_X5_set
set_option maxRecDepth 20000 in
theorem ggL_law_X5_strike : GoodIn wsL_law wsX5_strike := goodIn_r _ [401, 402, 356, 327, 28, 15, 328, 329, 2, 330, 156, 157, 158, 361, 362, 363, 27, 364, 79, 69, 365, 366, 367, 368, 81, 82, 83, 14, 84, 85, 34, 86, 87, 88, 89, 36, 38, 39, 40, 41, 90, 43, 44, 47, 91, 92, 93, 46, 94, 51, 95, 96, 97, 98, 99, 100, 403, 268, 269, 270, 404, 172, 173, 174, 175, 176, 177, 178, 179, 180, 446, 447, 448, 449, 450, 468, 469, 451, 452, 453, 454, 455, 456, 457, 458, 459, 460, 461, 470, 471, 472, 473, 474, 475] (by decide +kernel) (by decide +kernel)
set_option maxRecDepth 20000 in
theorem gL_law_X5_strike : GoodIn wsL_law (wsV RL 47 RX5 yX5_strike wsX5_strike) := goodIn_app (goodIn_of _ (by decide +kernel)) ggL_law_X5_strike
set_option maxRecDepth 20000 in
theorem ggL_law_X5_wheel : GoodIn wsL_law wsX5_wheel := goodIn_r _ [341, 135, 15, 142, 342, 343, 344, 2, 345, 105, 156, 157, 158, 346, 347, 348, 46, 349, 51, 96, 97, 98, 99, 100, 446, 447, 448, 449, 450, 451, 452, 453, 454, 455, 456, 457, 458, 459, 460, 461, 470, 471, 472, 473, 474, 475] (by decide +kernel) (by decide +kernel)
set_option maxRecDepth 20000 in
theorem gL_law_X5_wheel : GoodIn wsL_law (wsV RL 31 RX5 yX5_wheel wsX5_wheel) := goodIn_app (goodIn_of _ (by decide +kernel)) ggL_law_X5_wheel
set_option maxRecDepth 20000 in
theorem ggL_law_X5_fail : GoodIn wsL_law wsX5_fail := goodIn_r _ [376, 135, 28, 15, 142, 284, 342, 343, 344, 2, 345, 105, 156, 157, 158, 361, 362, 363, 27, 364, 79, 69, 365, 366, 367, 368, 81, 82, 83, 14, 84, 85, 34, 86, 87, 88, 89, 36, 38, 39, 40, 41, 90, 43, 44, 47, 91, 92, 93, 46, 94, 51, 95, 96, 97, 98, 99, 100, 446, 447, 448, 449, 450, 451, 452, 453, 454, 455, 456, 457, 458, 459, 460, 461, 470, 471, 472, 473, 474, 475, 468, 469] (by decide +kernel) (by decide +kernel)
set_option maxRecDepth 20000 in
theorem gL_law_X5_fail : GoodIn wsL_law (wsV RL 23 RX5 yX5_fail wsX5_fail) := goodIn_app (goodIn_of _ (by decide +kernel)) ggL_law_X5_fail
set_option maxRecDepth 20000 in
theorem ggL_law_X5_setMost : GoodIn wsL_law wsX5_setMost := goodIn_r _ [380, 356, 155, 135, 28, 15, 142, 381, 382, 342, 343, 344, 2, 345, 105, 156, 157, 158, 361, 362, 363, 27, 364, 79, 69, 365, 366, 367, 368, 81, 82, 83, 14, 84, 85, 34, 86, 87, 88, 89, 36, 38, 39, 40, 41, 90, 43, 44, 47, 91, 92, 93, 46, 94, 51, 95, 96, 97, 98, 99, 100, 446, 447, 448, 449, 450, 451, 452, 453, 454, 455, 456, 457, 458, 459, 460, 461, 470, 471, 472, 473, 474, 475, 468, 469] (by decide +kernel) (by decide +kernel)
set_option maxRecDepth 20000 in
theorem gL_law_X5_setMost : GoodIn wsL_law (wsV RL 27 RX5 yX5_setMost wsX5_setMost) := goodIn_app (goodIn_of _ (by decide +kernel)) ggL_law_X5_setMost
set_option maxRecDepth 20000 in
theorem ggL_law_L_wishes : GoodIn wsL_law wsL_wishes := goodIn_r _ [442, 37, 304, 413, 414, 415, 2, 416, 327, 15, 142, 20, 110, 284, 342, 343, 344, 345, 105, 156, 157, 158, 417, 418, 419, 402, 356, 112, 113, 114, 19, 115, 56, 116, 117, 118, 119, 120, 57, 121, 122, 123, 124, 125, 126, 127, 128, 129, 130, 285, 200, 201, 202, 420, 213, 214, 215, 58, 421, 223, 224, 225, 226, 199, 227, 178, 179, 180, 383, 339, 340, 341, 135, 346, 347, 348, 46, 349, 51, 96, 97, 98, 99, 100, 106, 107, 108, 109, 111, 437, 438, 300, 439, 280, 281, 282, 283, 446, 447, 448, 449, 450, 451, 452, 453, 454, 455, 456, 457, 458, 459, 460, 461, 470, 471, 472, 473, 474, 475, 462, 463, 464, 465] (by decide +kernel) (by decide +kernel)
set_option maxRecDepth 20000 in
theorem gL_law_L_wishes : GoodIn wsL_law (va_wsS RL 117 yL_wishes wsL_wishes) := goodIn_app (goodIn_of _ (by decide +kernel)) ggL_law_L_wishes
set_option maxRecDepth 20000 in
theorem ggL_law_L_keeps : GoodIn wsL_law wsL_keeps := goodIn_r _ [445, 412, 324, 325, 2, 326, 327, 15, 328, 329, 330, 156, 157, 158, 331, 332, 333, 14, 334, 38, 39, 40, 41, 36, 335, 171, 172, 173, 174, 175, 176, 177, 178, 179, 180, 336, 259, 260, 261, 90, 43, 262, 263, 383, 339, 340, 341, 135, 142, 342, 343, 344, 345, 105, 346, 347, 348, 46, 349, 51, 96, 97, 98, 99, 100, 446, 447, 448, 449, 450, 451, 452, 453, 454, 455, 456, 457, 458, 459, 460, 461, 470, 471, 472, 473, 474, 475] (by decide +kernel) (by decide +kernel)
set_option maxRecDepth 20000 in
theorem gL_law_L_keeps : GoodIn wsL_law (va_wsS RL 121 yL_keeps wsL_keeps) := goodIn_app (goodIn_of _ (by decide +kernel)) ggL_law_L_keeps
