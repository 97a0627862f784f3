set_option maxRecDepth 20000 in
theorem gz_ticks_0 : GoodIn wsL_law [.code yL_ticks cL_ticks 13 (some .boolean)] := goodIn_r _ [432] (by decide +kernel) (by decide +kernel)
set_option maxRecDepth 20000 in
theorem gz_ticks_r1 : GoodIn wsL_law wsL_ticks_r1 := goodIn_r _ [3, 305, 306, 307, 2, 308, 309, 15, 105, 136, 310, 311, 312, 313, 185, 314, 315, 316, 317, 318, 319, 320, 321, 322] (by decide +kernel) (by decide +kernel)
set_option maxRecDepth 20000 in
theorem gz_ticks_r2 : GoodIn wsL_law wsL_ticks_r2 := goodIn_r _ [135, 156, 157, 158, 323, 324, 325, 326, 327, 328, 329, 330, 331, 332, 333, 14, 334, 38, 39, 40, 41, 36, 335, 171] (by decide +kernel) (by decide +kernel)
set_option maxRecDepth 20000 in
theorem gz_ticks_r3 : GoodIn wsL_law wsL_ticks_r3 := goodIn_r _ [172, 173, 174, 175, 176, 177, 178, 179, 180, 336, 259, 260, 261, 90, 43, 262, 263, 337, 102, 103, 104, 338, 339, 340] (by decide +kernel) (by decide +kernel)
set_option maxRecDepth 20000 in
theorem gz_ticks_r4 : GoodIn wsL_law wsL_ticks_r4 := goodIn_r _ [341, 142, 342, 343, 344, 345, 346, 347, 348, 46, 349, 51, 96, 97, 98, 99, 100, 350, 107, 108, 109, 20, 110, 111] (by decide +kernel) (by decide +kernel)
set_option maxRecDepth 20000 in
theorem gz_ticks_r5 : GoodIn wsL_law wsL_ticks_r5 := goodIn_r _ [112, 113, 114, 19, 115, 56, 116, 117, 118, 119, 120, 57, 121, 122, 123, 124, 125, 126, 127, 128, 129, 130, 351, 132] (by decide +kernel) (by decide +kernel)
set_option maxRecDepth 20000 in
theorem gz_ticks_r6 : GoodIn wsL_law wsL_ticks_r6 := goodIn_r _ [133, 134, 137, 433, 151, 152, 153, 154, 155, 16, 159, 82, 83, 84, 85, 34, 86, 87, 88, 89, 44, 47, 91, 92] (by decide +kernel) (by decide +kernel)
set_option maxRecDepth 20000 in
theorem gz_ticks_r7 : GoodIn wsL_law wsL_ticks_r7 := goodIn_r _ [93, 94, 95, 160, 161, 162, 163, 164, 165, 149, 166, 167, 168, 169, 170, 181, 182, 183, 184, 24, 186, 187, 188, 189] (by decide +kernel) (by decide +kernel)
