set_option maxRecDepth 20000 in
theorem gz_fails_r8 : GoodIn wsL_law wsL_fails_r8 := goodIn_r _ [371, 372, 373, 374, 375, 376, 284, 377, 378, 379, 380, 381, 382, 383, 384, 385, 386, 387, 388, 389, 390, 391, 392, 393] (by decide +kernel) (by decide +kernel)
set_option maxRecDepth 20000 in
theorem gz_fails_r9 : GoodIn wsL_law wsL_fails_r9 := goodIn_r _ [394, 395, 396, 397, 398, 399, 400, 401, 402, 403, 268, 269, 270, 404, 405, 406, 407, 408, 409, 410, 181, 182, 183, 184] (by decide +kernel) (by decide +kernel)
set_option maxRecDepth 20000 in
theorem gz_fails_r10 : GoodIn wsL_law wsL_fails_r10 := goodIn_r _ [24, 186, 187, 188, 189, 190, 191, 192, 193, 194, 195, 196, 197, 198, 199, 200, 201, 202, 203, 204, 205, 206, 207, 208] (by decide +kernel) (by decide +kernel)
set_option maxRecDepth 20000 in
theorem gz_fails_r11 : GoodIn wsL_law wsL_fails_r11 := goodIn_r _ [209, 210, 211, 212, 213, 214, 215, 58, 216, 217, 218, 219, 220, 221, 222, 223, 224, 225, 226, 227, 228, 229, 230, 231] (by decide +kernel) (by decide +kernel)
set_option maxRecDepth 20000 in
theorem gz_fails_r12 : GoodIn wsL_law wsL_fails_r12 := goodIn_r _ [232, 233, 234, 235, 236, 237, 149, 238, 239, 240, 241, 242, 243, 244, 245, 246, 247, 248, 249, 250, 251, 252, 23, 253] (by decide +kernel) (by decide +kernel)
set_option maxRecDepth 20000 in
theorem gz_fails_r13 : GoodIn wsL_law wsL_fails_r13 := goodIn_r _ [254, 255, 62, 63, 256, 257, 258, 264, 265, 266, 267, 271, 272, 273, 274, 275, 276, 277, 278, 279, 411, 412, 413, 414] (by decide +kernel) (by decide +kernel)
set_option maxRecDepth 20000 in
theorem gz_fails_r14 : GoodIn wsL_law wsL_fails_r14 := goodIn_r _ [415, 416, 417, 418, 419, 285, 420, 421, 131, 151, 152, 153, 154, 16, 159, 160, 161, 162, 163, 164, 165, 166, 167, 168] (by decide +kernel) (by decide +kernel)
set_option maxRecDepth 20000 in
theorem gz_fails_r15 : GoodIn wsL_law wsL_fails_r15 := goodIn_r _ [169, 170, 286, 287, 288, 289, 290, 291, 292, 293, 294, 295, 296, 297] (by decide +kernel) (by decide +kernel)
