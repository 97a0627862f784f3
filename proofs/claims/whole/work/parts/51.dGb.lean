set_option maxRecDepth 20000 in
theorem ggL_law_X5_setAxis : GoodIn wsL_law wsX5_setAxis := goodIn_r _ [223, 224, 225, 103, 28, 15, 226, 227, 228, 2, 229, 110, 111, 112, 113, 114, 115, 27, 116, 117, 69, 118, 119, 120, 121, 122, 123, 124, 14, 125, 126, 34, 127, 128, 129, 130, 36, 38, 39, 40, 41, 131, 43, 44, 47, 132, 133, 134, 46, 135, 51, 136, 137, 138, 139, 140, 141, 647, 648, 649, 650, 651, 663, 664, 665, 666, 667, 668, 669, 670, 671, 672, 673, 680, 681, 682, 683, 684, 685, 686, 687] (by decide +kernel) (by decide +kernel)
set_option maxRecDepth 20000 in
theorem gL_law_X5_setAxis : GoodIn wsL_law (wsV RL 38 RX5 yX5_setAxis wsX5_setAxis) := goodIn_app (goodIn_of _ (by decide +kernel)) ggL_law_X5_setAxis
set_option maxRecDepth 20000 in
theorem ggL_law_X6_setAxis : GoodIn wsL_law wsX6_setAxis := goodIn_r _ [233, 234, 150, 152, 158, 159, 5, 160, 235, 236, 237, 90, 91, 92, 186, 187, 188, 189, 75, 161, 162, 163, 164, 165, 77, 652, 653, 654, 655, 656, 657, 658, 659, 660, 661, 662] (by decide +kernel) (by decide +kernel)
set_option maxRecDepth 20000 in
theorem gL_law_X6_setAxis : GoodIn wsL_law (wsV RL 42 RX6 yX6_setAxis wsX6_setAxis) := goodIn_app (goodIn_of _ (by decide +kernel)) ggL_law_X6_setAxis
set_option maxRecDepth 20000 in
theorem ggL_law_X5_set : GoodIn wsL_law wsX5_set := goodIn_r _ [241, 242, 243, 103, 28, 15, 244, 110, 111, 2, 112, 113, 114, 115, 27, 116, 117, 69, 118, 119, 120, 121, 122, 123, 124, 14, 125, 126, 34, 127, 128, 129, 130, 36, 38, 39, 40, 41, 131, 43, 44, 47, 132, 133, 134, 46, 135, 51, 136, 137, 138, 139, 140, 141, 647, 648, 649, 650, 651, 663, 664, 665, 666, 667, 668, 669, 670, 671, 672, 673, 680, 681, 682, 683, 684, 685, 686, 687] (by decide +kernel) (by decide +kernel)
set_option maxRecDepth 20000 in
theorem gL_law_X5_set : GoodIn wsL_law (wsV RL 43 RX5 yX5_set wsX5_set) := goodIn_app (goodIn_of _ (by decide +kernel)) ggL_law_X5_set
set_option maxRecDepth 20000 in
theorem ggL_law_X6_set : GoodIn wsL_law wsX6_set := goodIn_r _ [248, 151, 152, 158, 159, 5, 160, 186, 187, 188, 189, 75, 161, 162, 163, 164, 165, 77, 652, 653, 654, 655, 656, 657, 658, 659, 660, 661, 662] (by decide +kernel) (by decide +kernel)
set_option maxRecDepth 20000 in
theorem gL_law_X6_set : GoodIn wsL_law (wsV RL 46 RX6 yX6_set wsX6_set) := goodIn_app (goodIn_of _ (by decide +kernel)) ggL_law_X6_set
set_option maxRecDepth 20000 in
theorem ggL_law_X5_setting : GoodIn wsL_law wsX5_setting := goodIn_r _ [252, 15, 244, 103, 110, 111, 2, 112, 647, 648, 649, 650, 651, 663, 664, 665, 666, 667, 668, 669, 670, 671, 672, 673] (by decide +kernel) (by decide +kernel)
set_option maxRecDepth 20000 in
theorem gL_law_X5_setting : GoodIn wsL_law (wsV RL 47 RX5 yX5_setting wsX5_setting) := goodIn_app (goodIn_of _ (by decide +kernel)) ggL_law_X5_setting
set_option maxRecDepth 20000 in
theorem ggL_law_X6_setting : GoodIn wsL_law wsX6_setting := goodIn_r _ [256, 75, 152, 158, 159, 5, 160, 652, 653, 654, 655, 656, 657, 658, 659, 660, 661, 662] (by decide +kernel) (by decide +kernel)
set_option maxRecDepth 20000 in
theorem gL_law_X6_setting : GoodIn wsL_law (wsV RL 51 RX6 yX6_setting wsX6_setting) := goodIn_app (goodIn_of _ (by decide +kernel)) ggL_law_X6_setting
set_option maxRecDepth 20000 in
theorem ggL_law_X5_strike : GoodIn wsL_law wsX5_strike := goodIn_r _ [260, 261, 102, 262, 28, 15, 227, 228, 2, 229, 110, 111, 112, 113, 114, 115, 27, 116, 117, 69, 118, 119, 120, 121, 122, 123, 124, 14, 125, 126, 34, 127, 128, 129, 130, 36, 38, 39, 40, 41, 131, 43, 44, 47, 132, 133, 134, 46, 135, 51, 136, 137, 138, 139, 140, 141, 263, 264, 265, 266, 267, 268, 269, 270, 271, 272, 273, 274, 275, 276, 647, 648, 649, 650, 651, 680, 681, 663, 664, 665, 666, 667, 668, 669, 670, 671, 672, 673, 682, 683, 684, 685, 686, 687] (by decide +kernel) (by decide +kernel)
set_option maxRecDepth 20000 in
theorem gL_law_X5_strike : GoodIn wsL_law (wsV RL 52 RX5 yX5_strike wsX5_strike) := goodIn_app (goodIn_of _ (by decide +kernel)) ggL_law_X5_strike
set_option maxRecDepth 20000 in
theorem ggL_law_X6_strike : GoodIn wsL_law wsX6_strike := goodIn_r _ [280, 281, 151, 282, 235, 236, 5, 237, 158, 159, 160, 161, 162, 163, 164, 165, 77, 75, 283, 284, 285, 286, 90, 91, 92, 287, 288, 289, 290, 291, 292, 293, 652, 653, 654, 655, 656, 657, 658, 659, 660, 661, 662] (by decide +kernel) (by decide +kernel)
set_option maxRecDepth 20000 in
theorem gL_law_X6_strike : GoodIn wsL_law (wsV RL 56 RX6 yX6_strike wsX6_strike) := goodIn_app (goodIn_of _ (by decide +kernel)) ggL_law_X6_strike
set_option maxRecDepth 20000 in
theorem ggL_law_X5_tick : GoodIn wsL_law wsX5_tick := goodIn_r _ [297, 103, 15, 298, 299, 300, 28, 20, 301, 110, 111, 2, 112, 113, 114, 115, 27, 116, 117, 69, 118, 119, 120, 121, 122, 123, 124, 14, 125, 126, 34, 127, 128, 129, 130, 36, 38, 39, 40, 41, 131, 43, 44, 47, 132, 133, 134, 46, 135, 51, 136, 137, 138, 139, 140, 141, 302, 303, 304, 19, 305, 56, 306, 307, 308, 309, 310, 57, 311, 312, 313, 314, 315, 316, 317, 318, 319, 320, 321, 322, 323, 324, 24, 325, 326, 327, 328, 329, 271, 272, 273, 274, 275, 276, 330, 331, 332, 268, 269, 270, 333, 334, 335, 336, 337, 338, 339, 340, 341, 342, 343, 344, 345, 346, 347, 348, 349, 350, 351, 352, 353, 354, 355, 58, 356, 357, 358, 359, 360, 361, 362, 363, 364, 365, 366, 367, 368, 369, 370, 371, 372, 373, 374, 375, 376, 377, 378, 379, 380, 381, 382, 383, 384, 385, 386, 387, 388, 389, 390, 391, 392, 393, 23, 394, 395, 396, 62, 63, 397, 398, 399, 400, 401, 402, 403, 404, 405, 406, 407, 408, 264, 265, 266, 409, 410, 411, 412, 413, 414, 415, 416, 417, 418, 647, 648, 649, 650, 651, 663, 664, 665, 666, 667, 668, 669, 670, 671, 672, 673, 680, 681, 682, 683, 684, 685, 686, 687, 674, 675, 676, 677, 678, 679] (by decide +kernel) (by decide +kernel)
set_option maxRecDepth 20000 in
theorem gL_law_X5_tick : GoodIn wsL_law (wsV RL 57 RX5 yX5_tick wsX5_tick) := goodIn_app (goodIn_of _ (by decide +kernel)) ggL_law_X5_tick
set_option maxRecDepth 20000 in
theorem ggL_law_X6_tick : GoodIn wsL_law wsX6_tick := goodIn_r _ [422, 152, 75, 423, 424, 158, 159, 5, 160, 161, 162, 163, 164, 165, 77, 425, 426, 427, 428, 88, 80, 90, 91, 92, 291, 292, 293, 429, 430, 431, 287, 288, 289, 290, 432, 433, 434, 435, 436, 437, 89, 84, 438, 439, 440, 441, 442, 443, 444, 445, 78, 79, 446, 447, 448, 449, 166, 167, 168, 450, 451, 452, 93, 94, 95, 96, 453, 454, 455, 456, 457, 458, 459, 460, 461, 462, 463, 464, 465, 466, 467, 468, 469, 470, 471, 82, 81, 83, 472, 473, 474, 475, 283, 284, 285, 286, 652, 653, 654, 655, 656, 657, 658, 659, 660, 661, 662] (by decide +kernel) (by decide +kernel)
set_option maxRecDepth 20000 in
theorem gL_law_X6_tick : GoodIn wsL_law (wsV RL 60 RX6 yX6_tick wsX6_tick) := goodIn_app (goodIn_of _ (by decide +kernel)) ggL_law_X6_tick
set_option maxRecDepth 20000 in
theorem ggL_law_X5_time : GoodIn wsL_law wsX5_time := goodIn_r _ [479, 15, 298, 647, 648, 649, 650, 651, 663, 664, 665, 666, 667, 668, 669, 670, 671, 672, 673] (by decide +kernel) (by decide +kernel)
set_option maxRecDepth 20000 in
theorem gL_law_X5_time : GoodIn wsL_law (wsV RL 61 RX5 yX5_time wsX5_time) := goodIn_app (goodIn_of _ (by decide +kernel)) ggL_law_X5_time
set_option maxRecDepth 20000 in
theorem ggL_law_X6_time : GoodIn wsL_law wsX6_time := goodIn_r _ [483, 75, 652, 653, 654, 655, 656, 657, 658, 659, 660, 661, 662] (by decide +kernel) (by decide +kernel)
set_option maxRecDepth 20000 in
theorem gL_law_X6_time : GoodIn wsL_law (wsV RL 64 RX6 yX6_time wsX6_time) := goodIn_app (goodIn_of _ (by decide +kernel)) ggL_law_X6_time
