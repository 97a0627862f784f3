set_option maxRecDepth 20000 in
theorem ggL_law_X5_axis : GoodIn wsL_law wsX5_axis := goodIn_r _ [487, 262, 15, 227, 228, 2, 229, 110, 111, 112, 488, 489, 490, 14, 491, 38, 39, 40, 41, 36, 492, 332, 268, 269, 270, 271, 272, 273, 274, 275, 276, 493, 400, 401, 402, 131, 43, 403, 404, 647, 648, 649, 650, 651, 663, 664, 665, 666, 667, 668, 669, 670, 671, 672, 673, 682, 683, 684, 685, 686, 687] (by decide +kernel) (by decide +kernel)
set_option maxRecDepth 20000 in
theorem gL_law_X5_axis : GoodIn wsL_law (wsV RL 65 RX5 yX5_axis wsX5_axis) := goodIn_app (goodIn_of _ (by decide +kernel)) ggL_law_X5_axis
set_option maxRecDepth 20000 in
theorem ggL_law_X6_axis : GoodIn wsL_law wsX6_axis := goodIn_r _ [497, 282, 235, 236, 5, 237, 158, 159, 160, 498, 499, 500, 501, 75, 90, 91, 92, 287, 288, 289, 290, 291, 292, 293, 502, 503, 504, 505, 166, 167, 168, 652, 653, 654, 655, 656, 657, 658, 659, 660, 661, 662] (by decide +kernel) (by decide +kernel)
set_option maxRecDepth 20000 in
theorem gL_law_X6_axis : GoodIn wsL_law (wsV RL 68 RX6 yX6_axis wsX6_axis) := goodIn_app (goodIn_of _ (by decide +kernel)) ggL_law_X6_axis
set_option maxRecDepth 20000 in
theorem ggL_law_X5_span : GoodIn wsL_law wsX5_span := goodIn_r _ [509, 20, 15, 301, 510, 302, 303, 304, 19, 305, 56, 306, 307, 308, 309, 310, 57, 311, 312, 313, 314, 315, 316, 317, 318, 319, 2, 320, 647, 648, 649, 650, 651, 674, 675, 676, 677, 663, 664, 665, 666, 667, 668, 669, 670, 671, 672, 673, 682, 683, 684, 685, 686, 687] (by decide +kernel) (by decide +kernel)
set_option maxRecDepth 20000 in
theorem gL_law_X5_span : GoodIn wsL_law (wsV RL 69 RX5 yX5_span wsX5_span) := goodIn_app (goodIn_of _ (by decide +kernel)) ggL_law_X5_span
set_option maxRecDepth 20000 in
theorem ggL_law_X6_span : GoodIn wsL_law wsX6_span := goodIn_r _ [514, 436, 437, 442, 443, 444, 5, 445, 78, 75, 79, 446, 447, 448, 449, 166, 167, 168, 450, 451, 452, 652, 653, 654, 655, 656, 657, 658, 659, 660, 661, 662] (by decide +kernel) (by decide +kernel)
set_option maxRecDepth 20000 in
theorem gL_law_X6_span : GoodIn wsL_law (wsV RL 73 RX6 yX6_span wsX6_span) := goodIn_app (goodIn_of _ (by decide +kernel)) ggL_law_X6_span
set_option maxRecDepth 20000 in
theorem ggL_law_X5_wish : GoodIn wsL_law wsX5_wish := goodIn_r _ [518, 262, 15, 106, 20, 301, 173, 174, 175, 176, 2, 177, 104, 110, 111, 112, 519, 520, 521, 261, 102, 302, 303, 304, 19, 305, 56, 306, 307, 308, 309, 310, 57, 311, 312, 313, 314, 315, 316, 317, 318, 319, 320, 522, 340, 341, 342, 523, 353, 354, 355, 58, 524, 363, 364, 365, 366, 339, 367, 274, 275, 276, 647, 648, 649, 650, 651, 663, 664, 665, 666, 667, 668, 669, 670, 671, 672, 673, 682, 683, 684, 685, 686, 687, 674, 675, 676, 677] (by decide +kernel) (by decide +kernel)
set_option maxRecDepth 20000 in
theorem gL_law_X5_wish : GoodIn wsL_law (wsV RL 74 RX5 yX5_wish wsX5_wish) := goodIn_app (goodIn_of _ (by decide +kernel)) ggL_law_X5_wish
set_option maxRecDepth 20000 in
theorem ggL_law_X6_wish : GoodIn wsL_law wsX6_wish := goodIn_r _ [528, 282, 436, 437, 182, 183, 184, 5, 185, 75, 158, 159, 160, 446, 447, 448, 449, 166, 167, 168, 529, 530, 531, 281, 151, 442, 443, 444, 445, 78, 79, 450, 451, 452, 453, 454, 455, 456, 457, 458, 459, 438, 291, 292, 293, 652, 653, 654, 655, 656, 657, 658, 659, 660, 661, 662] (by decide +kernel) (by decide +kernel)
set_option maxRecDepth 20000 in
theorem gL_law_X6_wish : GoodIn wsL_law (wsV RL 78 RX6 yX6_wish wsX6_wish) := goodIn_app (goodIn_of _ (by decide +kernel)) ggL_law_X6_wish
set_option maxRecDepth 20000 in
theorem ggL_law_X5_why : GoodIn wsL_law wsX5_why := goodIn_r _ [535, 103, 15, 536, 537, 301, 647, 648, 649, 650, 651, 663, 664, 665, 666, 667, 668, 669, 670, 671, 672, 673] (by decide +kernel) (by decide +kernel)
set_option maxRecDepth 20000 in
theorem gL_law_X5_why : GoodIn wsL_law (wsV RL 79 RX5 yX5_why wsX5_why) := goodIn_app (goodIn_of _ (by decide +kernel)) ggL_law_X5_why
set_option maxRecDepth 20000 in
theorem ggL_law_X6_why : GoodIn wsL_law wsX6_why := goodIn_r _ [541, 152, 436, 75, 652, 653, 654, 655, 656, 657, 658, 659, 660, 661, 662] (by decide +kernel) (by decide +kernel)
set_option maxRecDepth 20000 in
theorem gL_law_X6_why : GoodIn wsL_law (wsV RL 82 RX6 yX6_why wsX6_why) := goodIn_app (goodIn_of _ (by decide +kernel)) ggL_law_X6_why
set_option maxRecDepth 20000 in
theorem ggL_law_X5_fullness : GoodIn wsL_law wsX5_fullness := goodIn_r _ [545, 15, 104, 106, 546, 547, 548, 46, 549, 138, 137, 550, 551, 378, 552, 647, 648, 649, 650, 651, 663, 664, 665, 666, 667, 668, 669, 670, 671, 672, 673, 682, 683, 684, 685, 686, 687] (by decide +kernel) (by decide +kernel)
set_option maxRecDepth 20000 in
theorem gL_law_X5_fullness : GoodIn wsL_law (wsV RL 83 RX5 yX5_fullness wsX5_fullness) := goodIn_app (goodIn_of _ (by decide +kernel)) ggL_law_X5_fullness
set_option maxRecDepth 20000 in
theorem ggL_law_X6_fullness : GoodIn wsL_law wsX6_fullness := goodIn_r _ [556, 75, 166, 167, 5, 168, 557, 558, 559, 652, 653, 654, 655, 656, 657, 658, 659, 660, 661, 662] (by decide +kernel) (by decide +kernel)
set_option maxRecDepth 20000 in
theorem gL_law_X6_fullness : GoodIn wsL_law (wsV RL 87 RX6 yX6_fullness wsX6_fullness) := goodIn_app (goodIn_of _ (by decide +kernel)) ggL_law_X6_fullness
set_option maxRecDepth 20000 in
theorem ggL_law_X5_arrives : GoodIn wsL_law wsX5_arrives := goodIn_r _ [563, 101, 103, 16, 15, 20, 301, 110, 111, 2, 112, 564, 123, 124, 14, 125, 126, 34, 127, 128, 129, 130, 36, 38, 39, 40, 41, 131, 43, 44, 47, 132, 133, 134, 46, 135, 51, 136, 137, 138, 139, 140, 141, 302, 303, 304, 19, 305, 56, 306, 307, 308, 309, 310, 57, 311, 312, 313, 314, 315, 316, 317, 318, 319, 320, 565, 566, 567, 568, 569, 570, 378, 571, 572, 573, 574, 575, 332, 268, 269, 270, 271, 272, 273, 274, 275, 276, 321, 322, 323, 324, 298, 24, 325, 326, 327, 328, 329, 330, 331, 333, 334, 335, 336, 337, 338, 339, 340, 341, 342, 343, 344, 345, 346, 347, 348, 349, 350, 351, 352, 353, 354, 355, 58, 356, 357, 358, 359, 360, 361, 362, 363, 364, 365, 366, 367, 368, 369, 370, 371, 372, 373, 374, 375, 376, 377, 379, 380, 381, 382, 383, 384, 385, 386, 387, 388, 389, 390, 391, 392, 393, 23, 394, 395, 396, 62, 63, 397, 398, 399, 400, 401, 402, 403, 404, 405, 406, 407, 408, 264, 265, 266, 409, 410, 411, 412, 413, 414, 415, 416, 417, 647, 648, 649, 650, 651, 663, 664, 665, 666, 667, 668, 669, 670, 671, 672, 673, 682, 683, 684, 685, 686, 687, 674, 675, 676, 677, 678, 679] (by decide +kernel) (by decide +kernel)
set_option maxRecDepth 20000 in
theorem gL_law_X5_arrives : GoodIn wsL_law (wsV RL 88 RX5 yX5_arrives wsX5_arrives) := goodIn_app (goodIn_of _ (by decide +kernel)) ggL_law_X5_arrives
set_option maxRecDepth 20000 in
theorem ggL_law_X6_arrives : GoodIn wsL_law wsX6_arrives := goodIn_r _ [579, 150, 152, 75, 76, 436, 158, 159, 5, 160, 580, 581, 582, 583, 584, 585, 586, 90, 91, 92, 557, 558, 559, 287, 288, 289, 290, 291, 292, 293, 425, 426, 427, 428, 88, 80, 429, 430, 431, 432, 433, 434, 435, 437, 89, 84, 438, 439, 440, 441, 442, 443, 444, 445, 78, 79, 446, 447, 448, 449, 166, 167, 168, 450, 451, 452, 93, 94, 95, 96, 453, 454, 455, 456, 457, 458, 459, 460, 461, 462, 463, 464, 465, 466, 467, 468, 469, 470, 471, 82, 81, 83, 472, 473, 474, 475, 283, 284, 285, 286, 652, 653, 654, 655, 656, 657, 658, 659, 660, 661, 662] (by decide +kernel) (by decide +kernel)
set_option maxRecDepth 20000 in
theorem gL_law_X6_arrives : GoodIn wsL_law (wsV RL 91 RX6 yX6_arrives wsX6_arrives) := goodIn_app (goodIn_of _ (by decide +kernel)) ggL_law_X6_arrives
