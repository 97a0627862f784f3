set_option maxRecDepth 20000 in
theorem gz_ticks_r8 : GoodIn wsL_law wsL_ticks_r8 := goodIn_r _ [190, 191, 192, 193, 194, 195, 196, 197, 198, 199, 200, 201, 202, 203, 204, 205, 206, 207, 208, 209, 210, 211, 212, 213] (by decide +kernel) (by decide +kernel)
set_option maxRecDepth 20000 in
theorem gz_ticks_r9 : GoodIn wsL_law wsL_ticks_r9 := goodIn_r _ [214, 215, 58, 216, 217, 218, 219, 220, 221, 222, 223, 224, 225, 226, 227, 228, 229, 230, 231, 232, 233, 234, 235, 236] (by decide +kernel) (by decide +kernel)
set_option maxRecDepth 20000 in
theorem gz_ticks_r10 : GoodIn wsL_law wsL_ticks_r10 := goodIn_r _ [237, 238, 239, 240, 241, 242, 243, 244, 245, 246, 247, 248, 249, 250, 251, 252, 23, 253, 254, 255, 62, 63, 256, 257] (by decide +kernel) (by decide +kernel)
set_option maxRecDepth 20000 in
theorem gz_ticks_r11 : GoodIn wsL_law wsL_ticks_r11 := goodIn_r _ [258, 264, 265, 266, 267, 268, 269, 270, 271, 272, 273, 274, 275, 276, 277, 278, 279, 286, 287, 288, 289, 284, 290, 291] (by decide +kernel) (by decide +kernel)
set_option maxRecDepth 20000 in
theorem gz_ticks_r12 : GoodIn wsL_law wsL_ticks_r12 := goodIn_r _ [292, 293, 294, 295, 296, 297, 383, 405, 406, 407, 408, 409, 410, 28, 361, 362, 363, 27, 364, 79, 69, 365, 366, 367] (by decide +kernel) (by decide +kernel)
set_option maxRecDepth 20000 in
theorem gz_ticks_r13 : GoodIn wsL_law wsL_ticks_r13 := goodIn_r _ [368, 81, 411, 434, 435, 300, 436, 131, 412, 437, 438, 439, 71, 72, 73, 74, 75, 76, 77, 78, 80] (by decide +kernel) (by decide +kernel)
set_option maxRecDepth 20000 in
theorem gz_ticks_wsX50 : GoodIn wsL_law wsX50 := goodIn_r _ [446, 447, 448, 449, 450] (by decide +kernel) (by decide +kernel)
set_option maxRecDepth 20000 in
theorem gz_ticks_wsX00 : GoodIn wsL_law wsX00 := goodIn_r _ [451, 452, 453, 454, 455, 456, 457, 458, 459, 460, 461] (by decide +kernel) (by decide +kernel)
