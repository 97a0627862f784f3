set_option maxRecDepth 20000 in
theorem gz_fails_wsX50 : GoodIn wsL_law wsX50 := goodIn_r _ [446, 447, 448, 449, 450] (by decide +kernel) (by decide +kernel)
set_option maxRecDepth 20000 in
theorem gz_fails_wsX00 : GoodIn wsL_law wsX00 := goodIn_r _ [451, 452, 453, 454, 455, 456, 457, 458, 459, 460, 461] (by decide +kernel) (by decide +kernel)
set_option maxRecDepth 20000 in
theorem gz_fails_wsX40 : GoodIn wsL_law wsX40 := goodIn_r _ [470, 471, 472, 473, 474, 475] (by decide +kernel) (by decide +kernel)
set_option maxRecDepth 20000 in
theorem gz_fails_wsX30 : GoodIn wsL_law wsX30 := goodIn_r _ [462, 463, 464, 465] (by decide +kernel) (by decide +kernel)
set_option maxRecDepth 20000 in
theorem gz_fails_wsX10 : GoodIn wsL_law wsX10 := goodIn_r _ [468, 469] (by decide +kernel) (by decide +kernel)
set_option maxRecDepth 20000 in
theorem gz_fails_wsX20 : GoodIn wsL_law wsX20 := goodIn_r _ [466, 467] (by decide +kernel) (by decide +kernel)
theorem ggL_law_L_fails : GoodIn wsL_law wsL_fails := goodIn_app gz_fails_0 (goodIn_app (goodIn_app (goodIn_app (goodIn_app (goodIn_app (goodIn_app (goodIn_app gz_fails_r1 (goodIn_app gz_fails_r2 (goodIn_app gz_fails_r3 (goodIn_app gz_fails_r4 (goodIn_app gz_fails_r5 (goodIn_app gz_fails_r6 (goodIn_app gz_fails_r7 (goodIn_app gz_fails_r8 (goodIn_app gz_fails_r9 (goodIn_app gz_fails_r10 (goodIn_app gz_fails_r11 (goodIn_app gz_fails_r12 (goodIn_app gz_fails_r13 (goodIn_app gz_fails_r14 gz_fails_r15)))))))))))))) gz_fails_wsX50) gz_fails_wsX00) gz_fails_wsX40) gz_fails_wsX30) gz_fails_wsX10) gz_fails_wsX20)
