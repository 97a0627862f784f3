set_option maxRecDepth 20000 in
theorem ggL_law_X5_spare : GoodIn wsL_law wsX5_spare := goodIn_r _ [590, 15, 104, 20, 106, 173, 302, 303, 304, 19, 305, 56, 306, 307, 308, 309, 310, 57, 311, 312, 313, 314, 315, 316, 317, 318, 319, 2, 320, 522, 340, 341, 342, 647, 648, 649, 650, 651, 663, 664, 665, 666, 667, 668, 669, 670, 671, 672, 673, 682, 683, 684, 685, 686, 687, 674, 675, 676, 677] (by decide +kernel) (by decide +kernel)
set_option maxRecDepth 20000 in
theorem gL_law_X5_spare : GoodIn wsL_law (wsV RL 92 RX5 yX5_spare wsX5_spare) := goodIn_app (goodIn_of _ (by decide +kernel)) ggL_law_X5_spare
set_option maxRecDepth 20000 in
theorem ggL_law_X6_spare : GoodIn wsL_law wsX6_spare := goodIn_r _ [594, 75, 437, 442, 443, 444, 5, 445, 78, 79, 446, 447, 448, 449, 166, 167, 168, 450, 451, 452, 652, 653, 654, 655, 656, 657, 658, 659, 660, 661, 662] (by decide +kernel) (by decide +kernel)
set_option maxRecDepth 20000 in
theorem gL_law_X6_spare : GoodIn wsL_law (wsV RL 95 RX6 yX6_spare wsX6_spare) := goodIn_app (goodIn_of _ (by decide +kernel)) ggL_law_X6_spare
set_option maxRecDepth 20000 in
theorem ggL_law_X5_gravest : GoodIn wsL_law wsX5_gravest := goodIn_r _ [598, 103, 301, 15, 104, 106, 173, 110, 111, 2, 112, 599, 600, 601, 602, 16, 20, 564, 123, 124, 14, 125, 126, 34, 127, 128, 129, 130, 36, 38, 39, 40, 41, 131, 43, 44, 47, 132, 133, 134, 46, 135, 51, 136, 137, 138, 139, 140, 141, 302, 303, 304, 19, 305, 56, 306, 307, 308, 309, 310, 57, 311, 312, 313, 314, 315, 316, 317, 318, 319, 320, 321, 322, 323, 324, 298, 24, 325, 326, 327, 328, 329, 271, 272, 273, 274, 275, 276, 330, 331, 332, 268, 269, 270, 333, 334, 335, 336, 337, 338, 339, 340, 341, 342, 343, 344, 345, 346, 347, 348, 349, 350, 351, 352, 353, 354, 355, 58, 356, 357, 358, 359, 360, 361, 362, 363, 364, 365, 366, 367, 368, 369, 370, 371, 372, 373, 374, 375, 376, 377, 378, 379, 380, 381, 382, 383, 384, 385, 386, 387, 388, 389, 390, 391, 392, 393, 23, 394, 395, 396, 62, 63, 397, 398, 399, 400, 401, 402, 403, 404, 405, 406, 407, 408, 264, 265, 266, 409, 410, 411, 412, 413, 414, 415, 416, 417, 603, 604, 605, 606, 572, 573, 574, 575, 569, 570, 571, 647, 648, 649, 650, 651, 663, 664, 665, 666, 667, 668, 669, 670, 671, 672, 673, 682, 683, 684, 685, 686, 687, 674, 675, 676, 677, 678, 679] (by decide +kernel) (by decide +kernel)
set_option maxRecDepth 20000 in
theorem gL_law_X5_gravest : GoodIn wsL_law (wsV RL 96 RX5 yX5_gravest wsX5_gravest) := goodIn_app (goodIn_of _ (by decide +kernel)) ggL_law_X5_gravest
set_option maxRecDepth 20000 in
theorem ggL_law_X6_gravest : GoodIn wsL_law wsX6_gravest := goodIn_r _ [610, 152, 75, 76, 436, 611, 158, 159, 5, 160, 580, 581, 582, 446, 447, 448, 449, 166, 167, 168, 425, 426, 427, 428, 88, 80, 90, 91, 92, 291, 292, 293, 429, 430, 431, 287, 288, 289, 290, 432, 433, 434, 435, 437, 89, 84, 438, 439, 440, 441, 442, 443, 444, 445, 78, 79, 450, 451, 452, 93, 94, 95, 96, 453, 454, 455, 456, 457, 458, 459, 460, 461, 462, 463, 464, 465, 466, 467, 468, 469, 470, 471, 82, 81, 83, 472, 473, 474, 475, 283, 284, 285, 286, 557, 558, 559, 652, 653, 654, 655, 656, 657, 658, 659, 660, 661, 662] (by decide +kernel) (by decide +kernel)
set_option maxRecDepth 20000 in
theorem gL_law_X6_gravest : GoodIn wsL_law (wsV RL 99 RX6 yX6_gravest wsX6_gravest) := goodIn_app (goodIn_of _ (by decide +kernel)) ggL_law_X6_gravest
set_option maxRecDepth 20000 in
theorem ggL_law_X5_undo : GoodIn wsL_law wsX5_undo := goodIn_r _ [615, 28, 15, 616, 617, 618, 27, 619, 117, 620, 69, 122, 123, 124, 14, 125, 126, 34, 127, 128, 129, 130, 36, 38, 39, 40, 41, 131, 43, 44, 47, 132, 133, 134, 46, 135, 51, 136, 137, 138, 139, 140, 141, 647, 648, 649, 650, 651, 680, 681, 663, 664, 665, 666, 667, 668, 669, 670, 671, 672, 673, 682, 683, 684, 685, 686, 687] (by decide +kernel) (by decide +kernel)
set_option maxRecDepth 20000 in
theorem gL_law_X5_undo : GoodIn wsL_law (wsV RL 100 RX5 yX5_undo wsX5_undo) := goodIn_app (goodIn_of _ (by decide +kernel)) ggL_law_X5_undo
set_option maxRecDepth 20000 in
theorem ggL_law_X6_undo : GoodIn wsL_law wsX6_undo := goodIn_r _ [624, 165, 436, 75, 77, 652, 653, 654, 655, 656, 657, 658, 659, 660, 661, 662] (by decide +kernel) (by decide +kernel)
set_option maxRecDepth 20000 in
theorem gL_law_X6_undo : GoodIn wsL_law (wsV RL 103 RX6 yX6_undo wsX6_undo) := goodIn_app (goodIn_of _ (by decide +kernel)) ggL_law_X6_undo
set_option maxRecDepth 20000 in
theorem ggL_law_X5_fingerprint : GoodIn wsL_law wsX5_fingerprint := goodIn_r _ [628, 629, 15, 104, 536, 630, 477, 478, 2, 479, 298, 631, 632, 633, 634, 635, 250, 251, 252, 244, 103, 110, 111, 112, 636, 485, 486, 487, 262, 227, 228, 229, 488, 489, 490, 14, 491, 38, 39, 40, 41, 36, 492, 332, 268, 269, 270, 271, 272, 273, 274, 275, 276, 493, 400, 401, 402, 131, 43, 403, 404, 637, 213, 214, 215, 638, 201, 202, 203, 106, 174, 175, 176, 177, 204, 205, 206, 46, 207, 51, 137, 138, 139, 140, 141, 639, 507, 508, 509, 20, 301, 510, 302, 303, 304, 19, 305, 56, 306, 307, 308, 309, 310, 57, 311, 312, 313, 314, 315, 316, 317, 318, 319, 320, 640, 533, 534, 535, 537, 647, 648, 649, 650, 651, 663, 664, 665, 666, 667, 668, 669, 670, 671, 672, 673, 682, 683, 684, 685, 686, 687, 674, 675, 676, 677] (by decide +kernel) (by decide +kernel)
set_option maxRecDepth 20000 in
theorem gL_law_X5_fingerprint : GoodIn wsL_law (wsV RL 104 RX5 yX5_fingerprint wsX5_fingerprint) := goodIn_app (goodIn_of _ (by decide +kernel)) ggL_law_X5_fingerprint
set_option maxRecDepth 20000 in
theorem ggL_law_X6_fingerprint : GoodIn wsL_law wsX6_fingerprint := goodIn_r _ [644, 645, 75, 646, 436, 437, 89, 498, 499, 500, 5, 501, 90, 91, 92, 287, 288, 289, 290, 291, 292, 293, 502, 503, 504, 505, 166, 167, 168, 442, 443, 444, 445, 78, 79, 446, 447, 448, 449, 450, 451, 452, 652, 653, 654, 655, 656, 657, 658, 659, 660, 661, 662] (by decide +kernel) (by decide +kernel)
set_option maxRecDepth 20000 in
theorem gL_law_X6_fingerprint : GoodIn wsL_law (wsV RL 107 RX6 yX6_fingerprint wsX6_fingerprint) := goodIn_app (goodIn_of _ (by decide +kernel)) ggL_law_X6_fingerprint
