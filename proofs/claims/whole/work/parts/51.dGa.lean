set_option maxRecDepth 20000 in
theorem ggL_law_X5_init : GoodIn wsL_law wsX5_init := goodIn_r _ [8, 9, 10, 11, 12, 13, 14, 15, 16, 17, 18, 19, 20, 21, 22, 23, 24, 25, 26, 27, 28, 29, 30, 31, 32, 33, 34, 35, 36, 37, 38, 39, 40, 41, 42, 43, 44, 45, 46, 47, 48, 49, 50, 51, 52, 53, 54, 55, 56, 57, 58, 59, 60, 61, 62, 63, 64, 65, 66, 67, 68, 69, 70, 663, 664, 665, 666, 667, 668, 669, 670, 671, 672, 673, 647, 648, 649, 650, 651, 674, 675, 676, 677, 678, 679, 680, 681, 682, 683, 684, 685, 686, 687] (by decide +kernel) (by decide +kernel)
set_option maxRecDepth 20000 in
theorem gL_law_X5_init : GoodIn wsL_law (wsX5_init) := ggL_law_X5_init
set_option maxRecDepth 20000 in
theorem ggL_law_X6_init : GoodIn wsL_law wsX6_init := goodIn_r _ [73, 74, 10, 11, 37, 75, 76, 77, 78, 79, 80, 81, 82, 83, 84, 85, 86, 87, 88, 89, 90, 91, 5, 92, 93, 94, 95, 96, 652, 653, 654, 655, 656, 657, 658, 659, 660, 661, 662] (by decide +kernel) (by decide +kernel)
set_option maxRecDepth 20000 in
theorem gL_law_X6_init : GoodIn wsL_law (wsX6_init) := ggL_law_X6_init
set_option maxRecDepth 20000 in
theorem ggL_law_X5_addWheel : GoodIn wsL_law wsX5_addWheel := goodIn_r _ [100, 101, 102, 103, 15, 104, 105, 28, 106, 107, 108, 2, 109, 110, 111, 112, 113, 114, 115, 27, 116, 117, 69, 118, 119, 120, 121, 122, 123, 124, 14, 125, 126, 34, 127, 128, 129, 130, 36, 38, 39, 40, 41, 131, 43, 44, 47, 132, 133, 134, 46, 135, 51, 136, 137, 138, 139, 140, 141, 142, 143, 144, 145, 647, 648, 649, 650, 651, 663, 664, 665, 666, 667, 668, 669, 670, 671, 672, 673, 680, 681, 682, 683, 684, 685, 686, 687] (by decide +kernel) (by decide +kernel)
set_option maxRecDepth 20000 in
theorem gL_law_X5_addWheel : GoodIn wsL_law (wsV RL 13 RX5 yX5_addWheel wsX5_addWheel) := goodIn_app (goodIn_of _ (by decide +kernel)) ggL_law_X5_addWheel
set_option maxRecDepth 20000 in
theorem ggL_law_X6_addWheel : GoodIn wsL_law wsX6_addWheel := goodIn_r _ [149, 150, 151, 152, 75, 153, 154, 155, 156, 5, 157, 158, 159, 160, 161, 162, 163, 164, 165, 77, 166, 167, 168, 652, 653, 654, 655, 656, 657, 658, 659, 660, 661, 662] (by decide +kernel) (by decide +kernel)
set_option maxRecDepth 20000 in
theorem gL_law_X6_addWheel : GoodIn wsL_law (wsV RL 17 RX6 yX6_addWheel wsX6_addWheel) := goodIn_app (goodIn_of _ (by decide +kernel)) ggL_law_X6_addWheel
set_option maxRecDepth 20000 in
theorem ggL_law_X5_fail : GoodIn wsL_law wsX5_fail := goodIn_r _ [172, 103, 28, 15, 106, 173, 174, 175, 176, 2, 177, 104, 110, 111, 112, 113, 114, 115, 27, 116, 117, 69, 118, 119, 120, 121, 122, 123, 124, 14, 125, 126, 34, 127, 128, 129, 130, 36, 38, 39, 40, 41, 131, 43, 44, 47, 132, 133, 134, 46, 135, 51, 136, 137, 138, 139, 140, 141, 647, 648, 649, 650, 651, 663, 664, 665, 666, 667, 668, 669, 670, 671, 672, 673, 682, 683, 684, 685, 686, 687, 680, 681] (by decide +kernel) (by decide +kernel)
set_option maxRecDepth 20000 in
theorem gL_law_X5_fail : GoodIn wsL_law (wsV RL 18 RX5 yX5_fail wsX5_fail) := goodIn_app (goodIn_of _ (by decide +kernel)) ggL_law_X5_fail
set_option maxRecDepth 20000 in
theorem ggL_law_X6_fail : GoodIn wsL_law wsX6_fail := goodIn_r _ [181, 152, 182, 183, 184, 5, 185, 75, 158, 159, 160, 166, 167, 168, 186, 187, 188, 189, 161, 162, 163, 164, 165, 77, 652, 653, 654, 655, 656, 657, 658, 659, 660, 661, 662] (by decide +kernel) (by decide +kernel)
set_option maxRecDepth 20000 in
theorem gL_law_X6_fail : GoodIn wsL_law (wsV RL 22 RX6 yX6_fail wsX6_fail) := goodIn_app (goodIn_of _ (by decide +kernel)) ggL_law_X6_fail
set_option maxRecDepth 20000 in
theorem ggL_law_X5_setMost : GoodIn wsL_law wsX5_setMost := goodIn_r _ [193, 102, 101, 103, 28, 15, 106, 194, 195, 174, 175, 176, 2, 177, 104, 110, 111, 112, 113, 114, 115, 27, 116, 117, 69, 118, 119, 120, 121, 122, 123, 124, 14, 125, 126, 34, 127, 128, 129, 130, 36, 38, 39, 40, 41, 131, 43, 44, 47, 132, 133, 134, 46, 135, 51, 136, 137, 138, 139, 140, 141, 647, 648, 649, 650, 651, 663, 664, 665, 666, 667, 668, 669, 670, 671, 672, 673, 682, 683, 684, 685, 686, 687, 680, 681] (by decide +kernel) (by decide +kernel)
set_option maxRecDepth 20000 in
theorem gL_law_X5_setMost : GoodIn wsL_law (wsV RL 23 RX5 yX5_setMost wsX5_setMost) := goodIn_app (goodIn_of _ (by decide +kernel)) ggL_law_X5_setMost
set_option maxRecDepth 20000 in
theorem ggL_law_X6_setMost : GoodIn wsL_law wsX6_setMost := goodIn_r _ [199, 151, 150, 152, 182, 183, 184, 5, 185, 75, 158, 159, 160, 166, 167, 168, 186, 187, 188, 189, 161, 162, 163, 164, 165, 77, 652, 653, 654, 655, 656, 657, 658, 659, 660, 661, 662] (by decide +kernel) (by decide +kernel)
set_option maxRecDepth 20000 in
theorem gL_law_X6_setMost : GoodIn wsL_law (wsV RL 27 RX6 yX6_setMost wsX6_setMost) := goodIn_app (goodIn_of _ (by decide +kernel)) ggL_law_X6_setMost
set_option maxRecDepth 20000 in
theorem ggL_law_X5_wheel : GoodIn wsL_law wsX5_wheel := goodIn_r _ [203, 103, 15, 106, 174, 175, 176, 2, 177, 104, 110, 111, 112, 204, 205, 206, 46, 207, 51, 137, 138, 139, 140, 141, 647, 648, 649, 650, 651, 663, 664, 665, 666, 667, 668, 669, 670, 671, 672, 673, 682, 683, 684, 685, 686, 687] (by decide +kernel) (by decide +kernel)
set_option maxRecDepth 20000 in
theorem gL_law_X5_wheel : GoodIn wsL_law (wsV RL 28 RX5 yX5_wheel wsX5_wheel) := goodIn_app (goodIn_of _ (by decide +kernel)) ggL_law_X5_wheel
set_option maxRecDepth 20000 in
theorem ggL_law_X6_wheel : GoodIn wsL_law wsX6_wheel := goodIn_r _ [211, 75, 152, 182, 183, 184, 5, 185, 158, 159, 160, 166, 167, 168, 652, 653, 654, 655, 656, 657, 658, 659, 660, 661, 662] (by decide +kernel) (by decide +kernel)
set_option maxRecDepth 20000 in
theorem gL_law_X6_wheel : GoodIn wsL_law (wsV RL 32 RX6 yX6_wheel wsX6_wheel) := goodIn_app (goodIn_of _ (by decide +kernel)) ggL_law_X6_wheel
set_option maxRecDepth 20000 in
theorem ggL_law_X5_wheels : GoodIn wsL_law wsX5_wheels := goodIn_r _ [215, 15, 104, 647, 648, 649, 650, 651, 663, 664, 665, 666, 667, 668, 669, 670, 671, 672, 673] (by decide +kernel) (by decide +kernel)
set_option maxRecDepth 20000 in
theorem gL_law_X5_wheels : GoodIn wsL_law (wsV RL 33 RX5 yX5_wheels wsX5_wheels) := goodIn_app (goodIn_of _ (by decide +kernel)) ggL_law_X5_wheels
set_option maxRecDepth 20000 in
theorem ggL_law_X6_wheels : GoodIn wsL_law wsX6_wheels := goodIn_r _ [219, 75, 652, 653, 654, 655, 656, 657, 658, 659, 660, 661, 662] (by decide +kernel) (by decide +kernel)
set_option maxRecDepth 20000 in
theorem gL_law_X6_wheels : GoodIn wsL_law (wsV RL 37 RX6 yX6_wheels wsX6_wheels) := goodIn_app (goodIn_of _ (by decide +kernel)) ggL_law_X6_wheels
