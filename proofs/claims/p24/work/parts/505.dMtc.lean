set_option maxRecDepth 20000 in
theorem gz_ticks_wsX40 : GoodIn wsL_law wsX40 := goodIn_r _ [470, 471, 472, 473, 474, 475] (by decide +kernel) (by decide +kernel)
set_option maxRecDepth 20000 in
theorem gz_ticks_wsX30 : GoodIn wsL_law wsX30 := goodIn_r _ [462, 463, 464, 465] (by decide +kernel) (by decide +kernel)
set_option maxRecDepth 20000 in
theorem gz_ticks_wsX20 : GoodIn wsL_law wsX20 := goodIn_r _ [466, 467] (by decide +kernel) (by decide +kernel)
set_option maxRecDepth 20000 in
theorem gz_ticks_wsX10 : GoodIn wsL_law wsX10 := goodIn_r _ [468, 469] (by decide +kernel) (by decide +kernel)
theorem ggL_law_L_ticks : GoodIn wsL_law wsL_ticks := goodIn_app gz_ticks_0 (goodIn_app (goodIn_app (goodIn_app (goodIn_app (goodIn_app (goodIn_app (goodIn_app gz_ticks_r1 (goodIn_app gz_ticks_r2 (goodIn_app gz_ticks_r3 (goodIn_app gz_ticks_r4 (goodIn_app gz_ticks_r5 (goodIn_app gz_ticks_r6 (goodIn_app gz_ticks_r7 (goodIn_app gz_ticks_r8 (goodIn_app gz_ticks_r9 (goodIn_app gz_ticks_r10 (goodIn_app gz_ticks_r11 (goodIn_app gz_ticks_r12 gz_ticks_r13)))))))))))) gz_ticks_wsX50) gz_ticks_wsX00) gz_ticks_wsX40) gz_ticks_wsX30) gz_ticks_wsX20) gz_ticks_wsX10)
