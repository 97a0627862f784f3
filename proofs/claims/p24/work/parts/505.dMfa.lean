set_option maxRecDepth 20000 in
theorem gz_fails_0 : GoodIn wsL_law [.code yL_fails cL_fails 5 (some .boolean)] := goodIn_r _ [301] (by decide +kernel) (by decide +kernel)
set_option maxRecDepth 20000 in
theorem gz_fails_r1 : GoodIn wsL_law wsL_fails_r1 := goodIn_r _ [5, 302, 303, 304, 3, 305, 306, 307, 2, 308, 309, 15, 105, 136, 310, 311, 312, 313, 185, 314, 315, 316, 317, 318] (by decide +kernel) (by decide +kernel)
set_option maxRecDepth 20000 in
theorem gz_fails_r2 : GoodIn wsL_law wsL_fails_r2 := goodIn_r _ [319, 320, 321, 322, 135, 156, 157, 158, 323, 324, 325, 326, 327, 328, 329, 330, 331, 332, 333, 14, 334, 38, 39, 40] (by decide +kernel) (by decide +kernel)
set_option maxRecDepth 20000 in
theorem gz_fails_r3 : GoodIn wsL_law wsL_fails_r3 := goodIn_r _ [41, 36, 335, 171, 172, 173, 174, 175, 176, 177, 178, 179, 180, 336, 259, 260, 261, 90, 43, 262, 263, 337, 102, 103] (by decide +kernel) (by decide +kernel)
set_option maxRecDepth 20000 in
theorem gz_fails_r4 : GoodIn wsL_law wsL_fails_r4 := goodIn_r _ [104, 338, 339, 340, 341, 142, 342, 343, 344, 345, 346, 347, 348, 46, 349, 51, 96, 97, 98, 99, 100, 350, 107, 108] (by decide +kernel) (by decide +kernel)
set_option maxRecDepth 20000 in
theorem gz_fails_r5 : GoodIn wsL_law wsL_fails_r5 := goodIn_r _ [109, 20, 110, 111, 112, 113, 114, 19, 115, 56, 116, 117, 118, 119, 120, 57, 121, 122, 123, 124, 125, 126, 127, 128] (by decide +kernel) (by decide +kernel)
set_option maxRecDepth 20000 in
theorem gz_fails_r6 : GoodIn wsL_law wsL_fails_r6 := goodIn_r _ [129, 130, 351, 132, 133, 134, 137, 352, 353, 354, 355, 155, 356, 357, 28, 358, 359, 360, 361, 362, 363, 27, 364, 79] (by decide +kernel) (by decide +kernel)
set_option maxRecDepth 20000 in
theorem gz_fails_r7 : GoodIn wsL_law wsL_fails_r7 := goodIn_r _ [69, 365, 366, 367, 368, 81, 82, 83, 84, 85, 34, 86, 87, 88, 89, 44, 47, 91, 92, 93, 94, 95, 369, 370] (by decide +kernel) (by decide +kernel)
