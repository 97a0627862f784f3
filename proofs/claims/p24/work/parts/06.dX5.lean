set_option maxRecDepth 20000 in
theorem ggX5_init_X0_init : GoodIn wsX5_init wsX0_init := goodIn_r _ [23, 24, 2, 3, 25, 26, 27, 28, 29, 30, 31, 32, 33, 34, 35, 36, 37, 38, 39, 40, 41, 42, 43, 63, 64, 65, 66, 67, 68, 69, 70, 71, 72, 73, 87, 88, 89, 90, 91, 92] (by decide +kernel) (by decide +kernel)
set_option maxRecDepth 20000 in
theorem gX5_init_X0_init : GoodIn wsX5_init (wsX0_init) := ggX5_init_X0_init
set_option maxRecDepth 20000 in
theorem ggX5_init_X3_init : GoodIn wsX5_init wsX3_init := goodIn_r _ [45, 46, 2, 3, 47, 29, 48, 49, 50, 79, 80, 81, 82] (by decide +kernel) (by decide +kernel)
set_option maxRecDepth 20000 in
theorem gX5_init_X3_init_n21 : GoodIn wsX5_init (wsX3_init) := ggX5_init_X3_init
set_option maxRecDepth 20000 in
theorem ggX5_init_X2_init : GoodIn wsX5_init wsX2_init := goodIn_r _ [52, 53, 2, 3, 29, 54, 55, 83, 84] (by decide +kernel) (by decide +kernel)
set_option maxRecDepth 20000 in
theorem gX5_init_X2_init_n28 : GoodIn wsX5_init (wsX2_init) := ggX5_init_X2_init
set_option maxRecDepth 20000 in
theorem ggX5_init_X1_init : GoodIn wsX5_init wsX1_init := goodIn_r _ [58, 59, 2, 3, 60, 61, 5, 6, 62, 22, 23, 24, 25, 26, 27, 28, 29, 30, 31, 32, 33, 34, 35, 36, 37, 38, 39, 40, 41, 42, 43, 85, 86, 63, 64, 65, 66, 67, 68, 69, 70, 71, 72, 73, 87, 88, 89, 90, 91, 92] (by decide +kernel) (by decide +kernel)
set_option maxRecDepth 20000 in
theorem gX5_init_X1_init : GoodIn wsX5_init (wsX1_init) := ggX5_init_X1_init
theorem dX5_init_0 : decode cX5_init 0 = .ok (.aload_n 0, 1) := by decide +kernel
theorem dX5_init_1 : decode cX5_init 1 = .ok (.invokespecial 1, 3) := by decide +kernel
theorem dX5_init_4 : decode cX5_init 4 = .ok (.aload_n 0, 1) := by decide +kernel
theorem dX5_init_5 : decode cX5_init 5 = .ok (.new 7, 3) := by decide +kernel
theorem dX5_init_8 : decode cX5_init 8 = .ok (.dup, 1) := by decide +kernel
theorem dX5_init_9 : decode cX5_init 9 = .ok (.invokespecial 9, 3) := by decide +kernel
theorem dX5_init_12 : decode cX5_init 12 = .ok (.putfield 10, 3) := by decide +kernel
theorem dX5_init_15 : decode cX5_init 15 = .ok (.aload_n 0, 1) := by decide +kernel
theorem dX5_init_16 : decode cX5_init 16 = .ok (.new 7, 3) := by decide +kernel
theorem dX5_init_19 : decode cX5_init 19 = .ok (.dup, 1) := by decide +kernel
theorem dX5_init_20 : decode cX5_init 20 = .ok (.invokespecial 9, 3) := by decide +kernel
theorem dX5_init_23 : decode cX5_init 23 = .ok (.putfield 16, 3) := by decide +kernel
theorem dX5_init_26 : decode cX5_init 26 = .ok (.aload_n 0, 1) := by decide +kernel
theorem dX5_init_27 : decode cX5_init 27 = .ok (.new 19, 3) := by decide +kernel
theorem dX5_init_30 : decode cX5_init 30 = .ok (.dup, 1) := by decide +kernel
theorem dX5_init_31 : decode cX5_init 31 = .ok (.invokespecial 21, 3) := by decide +kernel
theorem dX5_init_34 : decode cX5_init 34 = .ok (.putfield 22, 3) := by decide +kernel
theorem dX5_init_37 : decode cX5_init 37 = .ok (.aload_n 0, 1) := by decide +kernel
theorem dX5_init_38 : decode cX5_init 38 = .ok (.new 26, 3) := by decide +kernel
theorem dX5_init_41 : decode cX5_init 41 = .ok (.dup, 1) := by decide +kernel
theorem dX5_init_42 : decode cX5_init 42 = .ok (.invokespecial 28, 3) := by decide +kernel
theorem dX5_init_45 : decode cX5_init 45 = .ok (.putfield 29, 3) := by decide +kernel
theorem dX5_init_48 : decode cX5_init 48 = .ok (.aload_n 0, 1) := by decide +kernel
theorem dX5_init_49 : decode cX5_init 49 = .ok (.new 33, 3) := by decide +kernel
theorem dX5_init_52 : decode cX5_init 52 = .ok (.dup, 1) := by decide +kernel
theorem dX5_init_53 : decode cX5_init 53 = .ok (.invokespecial 35, 3) := by decide +kernel
theorem dX5_init_56 : decode cX5_init 56 = .ok (.putfield 36, 3) := by decide +kernel
theorem dX5_init_59 : decode cX5_init 59 = .ok (.return_, 1) := by decide +kernel
set_option maxRecDepth 20000 in
theorem ggX5_addWheel_X5_isDirection : GoodIn wsX5_addWheel wsX5_isDirection := goodIn_r _ [12, 13, 14, 11, 15] (by decide +kernel) (by decide +kernel)
set_option maxRecDepth 20000 in
theorem gX5_addWheel_X5_isDirection : GoodIn wsX5_addWheel (va_wsS RX5 40 yX5_isDirection wsX5_isDirection) := goodIn_app (goodIn_of _ (by decide +kernel)) ggX5_addWheel_X5_isDirection
set_option maxRecDepth 20000 in
theorem ggX5_addWheel_X5_isWithin : GoodIn wsX5_addWheel wsX5_isWithin := goodIn_r _ [15] (by decide +kernel) (by decide +kernel)
set_option maxRecDepth 20000 in
theorem gX5_addWheel_X5_isWithin : GoodIn wsX5_addWheel (va_wsS RX5 45 yX5_isWithin wsX5_isWithin) := goodIn_app (goodIn_of _ (by decide +kernel)) ggX5_addWheel_X5_isWithin
set_option maxRecDepth 20000 in
theorem ggX5_addWheel_X1_keep : GoodIn wsX5_addWheel wsX1_keep := goodIn_r _ [20, 21, 22, 23, 24, 25, 19, 26, 27, 28, 29, 30, 31, 32, 33, 34, 35, 36, 37, 38, 39, 40, 41, 42, 43, 44, 45, 46, 47, 48, 49, 50, 51, 52, 53, 54, 55, 56, 57, 58, 79, 80, 68, 69, 70, 71, 72, 73, 74, 75, 76, 77, 78, 81, 82, 83, 84, 85, 86] (by decide +kernel) (by decide +kernel)
set_option maxRecDepth 20000 in
theorem gX5_addWheel_X1_keep : GoodIn wsX5_addWheel (wsV RX5 55 RX1 yX1_keep wsX1_keep) := goodIn_app (goodIn_of _ (by decide +kernel)) ggX5_addWheel_X1_keep
set_option maxRecDepth 20000 in
theorem ggX5_addWheel_X4_start : GoodIn wsX5_addWheel wsX4_start := goodIn_r _ [62, 52, 54, 55, 56, 57, 58, 81, 82, 83, 84, 85, 86] (by decide +kernel) (by decide +kernel)
set_option maxRecDepth 20000 in
theorem gX5_addWheel_X4_start : GoodIn wsX5_addWheel (wsV RX5 63 RX4 yX4_start wsX4_start) := goodIn_app (goodIn_of _ (by decide +kernel)) ggX5_addWheel_X4_start
theorem dX5_addWheel_0 : decode cX5_addWheel 0 = .ok (.iload_n 1, 1) := by decide +kernel
theorem dX5_addWheel_1 : decode cX5_addWheel 1 = .ok (.iload_n 2, 1) := by decide +kernel
theorem dX5_addWheel_2 : decode cX5_addWheel 2 = .ok (.iload_n 3, 1) := by decide +kernel
theorem dX5_addWheel_3 : decode cX5_addWheel 3 = .ok (.invokestatic 40, 3) := by decide +kernel
theorem dX5_addWheel_6 : decode cX5_addWheel 6 = .ok (.ifCond .eq 25, 3) := by decide +kernel
theorem dX5_addWheel_9 : decode cX5_addWheel 9 = .ok (.iload 4, 2) := by decide +kernel
theorem dX5_addWheel_11 : decode cX5_addWheel 11 = .ok (.iconst 1, 1) := by decide +kernel
theorem dX5_addWheel_12 : decode cX5_addWheel 12 = .ok (.ldc 44, 2) := by decide +kernel
theorem dX5_addWheel_14 : decode cX5_addWheel 14 = .ok (.invokestatic 45, 3) := by decide +kernel
theorem dX5_addWheel_17 : decode cX5_addWheel 17 = .ok (.ifCond .eq 14, 3) := by decide +kernel
theorem dX5_addWheel_20 : decode cX5_addWheel 20 = .ok (.iload 5, 2) := by decide +kernel
theorem dX5_addWheel_22 : decode cX5_addWheel 22 = .ok (.iconst 1, 1) := by decide +kernel
theorem dX5_addWheel_23 : decode cX5_addWheel 23 = .ok (.ldc 48, 2) := by decide +kernel
theorem dX5_addWheel_25 : decode cX5_addWheel 25 = .ok (.invokestatic 45, 3) := by decide +kernel
theorem dX5_addWheel_28 : decode cX5_addWheel 28 = .ok (.ifCond .ne 6, 3) := by decide +kernel
theorem dX5_addWheel_31 : decode cX5_addWheel 31 = .ok (.ldc 49, 2) := by decide +kernel
theorem dX5_addWheel_33 : decode cX5_addWheel 33 = .ok (.ireturn, 1) := by decide +kernel
theorem dX5_addWheel_34 : decode cX5_addWheel 34 = .ok (.aload_n 0, 1) := by decide +kernel
theorem dX5_addWheel_35 : decode cX5_addWheel 35 = .ok (.getfield 10, 3) := by decide +kernel
theorem dX5_addWheel_38 : decode cX5_addWheel 38 = .ok (.getfield 50, 3) := by decide +kernel
theorem dX5_addWheel_41 : decode cX5_addWheel 41 = .ok (.istore 6, 2) := by decide +kernel
theorem dX5_addWheel_43 : decode cX5_addWheel 43 = .ok (.iload 6, 2) := by decide +kernel
theorem dX5_addWheel_45 : decode cX5_addWheel 45 = .ok (.bipush 6, 2) := by decide +kernel
theorem dX5_addWheel_47 : decode cX5_addWheel 47 = .ok (.if_icmp .lt 6, 3) := by decide +kernel
theorem dX5_addWheel_50 : decode cX5_addWheel 50 = .ok (.ldc 54, 2) := by decide +kernel
theorem dX5_addWheel_52 : decode cX5_addWheel 52 = .ok (.ireturn, 1) := by decide +kernel
theorem dX5_addWheel_53 : decode cX5_addWheel 53 = .ok (.aload_n 0, 1) := by decide +kernel
theorem dX5_addWheel_54 : decode cX5_addWheel 54 = .ok (.getfield 36, 3) := by decide +kernel
theorem dX5_addWheel_57 : decode cX5_addWheel 57 = .ok (.aload_n 0, 1) := by decide +kernel
theorem dX5_addWheel_58 : decode cX5_addWheel 58 = .ok (.getfield 10, 3) := by decide +kernel
theorem dX5_addWheel_61 : decode cX5_addWheel 61 = .ok (.invokevirtual 55, 3) := by decide +kernel
theorem dX5_addWheel_64 : decode cX5_addWheel 64 = .ok (.aload_n 0, 1) := by decide +kernel
theorem dX5_addWheel_65 : decode cX5_addWheel 65 = .ok (.getfield 10, 3) := by decide +kernel
theorem dX5_addWheel_68 : decode cX5_addWheel 68 = .ok (.getfield 59, 3) := by decide +kernel
theorem dX5_addWheel_71 : decode cX5_addWheel 71 = .ok (.iload 6, 2) := by decide +kernel
theorem dX5_addWheel_73 : decode cX5_addWheel 73 = .ok (.aaload, 1) := by decide +kernel
theorem dX5_addWheel_74 : decode cX5_addWheel 74 = .ok (.iload_n 1, 1) := by decide +kernel
theorem dX5_addWheel_75 : decode cX5_addWheel 75 = .ok (.iload_n 2, 1) := by decide +kernel
theorem dX5_addWheel_76 : decode cX5_addWheel 76 = .ok (.iload_n 3, 1) := by decide +kernel
theorem dX5_addWheel_77 : decode cX5_addWheel 77 = .ok (.iload 4, 2) := by decide +kernel
theorem dX5_addWheel_79 : decode cX5_addWheel 79 = .ok (.iload 5, 2) := by decide +kernel
theorem dX5_addWheel_81 : decode cX5_addWheel 81 = .ok (.invokevirtual 63, 3) := by decide +kernel
theorem dX5_addWheel_84 : decode cX5_addWheel 84 = .ok (.aload_n 0, 1) := by decide +kernel
theorem dX5_addWheel_85 : decode cX5_addWheel 85 = .ok (.getfield 10, 3) := by decide +kernel
theorem dX5_addWheel_88 : decode cX5_addWheel 88 = .ok (.iload 6, 2) := by decide +kernel
theorem dX5_addWheel_90 : decode cX5_addWheel 90 = .ok (.iconst 1, 1) := by decide +kernel
theorem dX5_addWheel_91 : decode cX5_addWheel 91 = .ok (.iadd, 1) := by decide +kernel
theorem dX5_addWheel_92 : decode cX5_addWheel 92 = .ok (.putfield 50, 3) := by decide +kernel
theorem dX5_addWheel_95 : decode cX5_addWheel 95 = .ok (.iload 6, 2) := by decide +kernel
theorem dX5_addWheel_97 : decode cX5_addWheel 97 = .ok (.ireturn, 1) := by decide +kernel
set_option maxRecDepth 20000 in
theorem ggX5_fail_X5_isWheel : GoodIn wsX5_fail wsX5_isWheel := goodIn_r _ [10, 3, 11, 12, 13, 9, 14, 58, 59, 60, 61, 62, 63, 64, 65, 66, 67, 68, 69, 70, 71, 72, 73] (by decide +kernel) (by decide +kernel)
set_option maxRecDepth 20000 in
theorem gX5_fail_X5_isWheel : GoodIn wsX5_fail (wsV RX5 69 RX5 yX5_isWheel wsX5_isWheel) := goodIn_app (goodIn_of _ (by decide +kernel)) ggX5_fail_X5_isWheel
set_option maxRecDepth 20000 in
theorem ggX5_fail_X1_keep : GoodIn wsX5_fail wsX1_keep := goodIn_r _ [19, 20, 21, 22, 23, 24, 18, 25, 26, 27, 28, 29, 30, 31, 32, 33, 34, 35, 36, 37, 38, 39, 40, 41, 42, 43, 44, 45, 46, 47, 48, 49, 50, 51, 52, 53, 54, 55, 56, 57, 80, 81, 63, 64, 65, 66, 67, 68, 69, 70, 71, 72, 73, 74, 75, 76, 77, 78, 79] (by decide +kernel) (by decide +kernel)
set_option maxRecDepth 20000 in
theorem gX5_fail_X1_keep : GoodIn wsX5_fail (wsV RX5 55 RX1 yX1_keep wsX1_keep) := goodIn_app (goodIn_of _ (by decide +kernel)) ggX5_fail_X1_keep
theorem dX5_fail_0 : decode cX5_fail 0 = .ok (.aload_n 0, 1) := by decide +kernel
theorem dX5_fail_1 : decode cX5_fail 1 = .ok (.iload_n 1, 1) := by decide +kernel
theorem dX5_fail_2 : decode cX5_fail 2 = .ok (.invokevirtual 69, 3) := by decide +kernel
theorem dX5_fail_5 : decode cX5_fail 5 = .ok (.ifCond .ne 6, 3) := by decide +kernel
theorem dX5_fail_8 : decode cX5_fail 8 = .ok (.ldc 49, 2) := by decide +kernel
theorem dX5_fail_10 : decode cX5_fail 10 = .ok (.ireturn, 1) := by decide +kernel
theorem dX5_fail_11 : decode cX5_fail 11 = .ok (.aload_n 0, 1) := by decide +kernel
theorem dX5_fail_12 : decode cX5_fail 12 = .ok (.getfield 36, 3) := by decide +kernel
theorem dX5_fail_15 : decode cX5_fail 15 = .ok (.aload_n 0, 1) := by decide +kernel
theorem dX5_fail_16 : decode cX5_fail 16 = .ok (.getfield 10, 3) := by decide +kernel
theorem dX5_fail_19 : decode cX5_fail 19 = .ok (.invokevirtual 55, 3) := by decide +kernel
theorem dX5_fail_22 : decode cX5_fail 22 = .ok (.aload_n 0, 1) := by decide +kernel
theorem dX5_fail_23 : decode cX5_fail 23 = .ok (.getfield 10, 3) := by decide +kernel
theorem dX5_fail_26 : decode cX5_fail 26 = .ok (.getfield 59, 3) := by decide +kernel
theorem dX5_fail_29 : decode cX5_fail 29 = .ok (.iload_n 1, 1) := by decide +kernel
theorem dX5_fail_30 : decode cX5_fail 30 = .ok (.aaload, 1) := by decide +kernel
theorem dX5_fail_31 : decode cX5_fail 31 = .ok (.astore_n 3, 1) := by decide +kernel
theorem dX5_fail_32 : decode cX5_fail 32 = .ok (.aload_n 3, 1) := by decide +kernel
theorem dX5_fail_33 : decode cX5_fail 33 = .ok (.getfield 73, 3) := by decide +kernel
theorem dX5_fail_36 : decode cX5_fail 36 = .ok (.ifCond .eq 7, 3) := by decide +kernel
theorem dX5_fail_39 : decode cX5_fail 39 = .ok (.iconst 1, 1) := by decide +kernel
theorem dX5_fail_40 : decode cX5_fail 40 = .ok (.goto 4, 3) := by decide +kernel
theorem dX5_fail_43 : decode cX5_fail 43 = .ok (.iconst 0, 1) := by decide +kernel
theorem dX5_fail_44 : decode cX5_fail 44 = .ok (.istore 4, 2) := by decide +kernel
theorem dX5_fail_46 : decode cX5_fail 46 = .ok (.aload_n 3, 1) := by decide +kernel
theorem dX5_fail_47 : decode cX5_fail 47 = .ok (.iload_n 2, 1) := by decide +kernel
theorem dX5_fail_48 : decode cX5_fail 48 = .ok (.putfield 73, 3) := by decide +kernel
theorem dX5_fail_51 : decode cX5_fail 51 = .ok (.iload 4, 2) := by decide +kernel
theorem dX5_fail_53 : decode cX5_fail 53 = .ok (.ireturn, 1) := by decide +kernel
set_option maxRecDepth 20000 in
theorem ggX5_setMost_X5_isWheel : GoodIn wsX5_setMost wsX5_isWheel := goodIn_r _ [13, 5, 14, 15, 16, 12, 17, 61, 62, 63, 64, 65, 66, 67, 68, 69, 70, 71, 72, 73, 74, 75, 76] (by decide +kernel) (by decide +kernel)
set_option maxRecDepth 20000 in
theorem gX5_setMost_X5_isWheel : GoodIn wsX5_setMost (wsV RX5 69 RX5 yX5_isWheel wsX5_isWheel) := goodIn_app (goodIn_of _ (by decide +kernel)) ggX5_setMost_X5_isWheel
set_option maxRecDepth 20000 in
theorem ggX5_setMost_X5_isWithin : GoodIn wsX5_setMost wsX5_isWithin := goodIn_r _ [17] (by decide +kernel) (by decide +kernel)
set_option maxRecDepth 20000 in
theorem gX5_setMost_X5_isWithin : GoodIn wsX5_setMost (va_wsS RX5 45 yX5_isWithin wsX5_isWithin) := goodIn_app (goodIn_of _ (by decide +kernel)) ggX5_setMost_X5_isWithin
set_option maxRecDepth 20000 in
theorem ggX5_setMost_X1_keep : GoodIn wsX5_setMost wsX1_keep := goodIn_r _ [22, 23, 24, 25, 26, 27, 21, 28, 29, 30, 31, 32, 33, 34, 35, 36, 37, 38, 39, 40, 41, 42, 43, 44, 45, 46, 47, 48, 49, 50, 51, 52, 53, 54, 55, 56, 57, 58, 59, 60, 83, 84, 66, 67, 68, 69, 70, 71, 72, 73, 74, 75, 76, 77, 78, 79, 80, 81, 82] (by decide +kernel) (by decide +kernel)
set_option maxRecDepth 20000 in
theorem gX5_setMost_X1_keep : GoodIn wsX5_setMost (wsV RX5 55 RX1 yX1_keep wsX1_keep) := goodIn_app (goodIn_of _ (by decide +kernel)) ggX5_setMost_X1_keep
theorem dX5_setMost_0 : decode cX5_setMost 0 = .ok (.aload_n 0, 1) := by decide +kernel
theorem dX5_setMost_1 : decode cX5_setMost 1 = .ok (.iload_n 1, 1) := by decide +kernel
theorem dX5_setMost_2 : decode cX5_setMost 2 = .ok (.invokevirtual 69, 3) := by decide +kernel
theorem dX5_setMost_5 : decode cX5_setMost 5 = .ok (.ifCond .eq 22, 3) := by decide +kernel
theorem dX5_setMost_8 : decode cX5_setMost 8 = .ok (.iload_n 3, 1) := by decide +kernel
theorem dX5_setMost_9 : decode cX5_setMost 9 = .ok (.iconst 1, 1) := by decide +kernel
theorem dX5_setMost_10 : decode cX5_setMost 10 = .ok (.iload_n 2, 1) := by decide +kernel
theorem dX5_setMost_11 : decode cX5_setMost 11 = .ok (.ifCond .eq 8, 3) := by decide +kernel
theorem dX5_setMost_14 : decode cX5_setMost 14 = .ok (.ldc 48, 2) := by decide +kernel
theorem dX5_setMost_16 : decode cX5_setMost 16 = .ok (.goto 5, 3) := by decide +kernel
theorem dX5_setMost_19 : decode cX5_setMost 19 = .ok (.ldc 44, 2) := by decide +kernel
theorem dX5_setMost_21 : decode cX5_setMost 21 = .ok (.invokestatic 45, 3) := by decide +kernel
theorem dX5_setMost_24 : decode cX5_setMost 24 = .ok (.ifCond .ne 6, 3) := by decide +kernel
theorem dX5_setMost_27 : decode cX5_setMost 27 = .ok (.ldc 49, 2) := by decide +kernel
theorem dX5_setMost_29 : decode cX5_setMost 29 = .ok (.ireturn, 1) := by decide +kernel
theorem dX5_setMost_30 : decode cX5_setMost 30 = .ok (.aload_n 0, 1) := by decide +kernel
theorem dX5_setMost_31 : decode cX5_setMost 31 = .ok (.getfield 36, 3) := by decide +kernel
theorem dX5_setMost_34 : decode cX5_setMost 34 = .ok (.aload_n 0, 1) := by decide +kernel
theorem dX5_setMost_35 : decode cX5_setMost 35 = .ok (.getfield 10, 3) := by decide +kernel
theorem dX5_setMost_38 : decode cX5_setMost 38 = .ok (.invokevirtual 55, 3) := by decide +kernel
theorem dX5_setMost_41 : decode cX5_setMost 41 = .ok (.aload_n 0, 1) := by decide +kernel
theorem dX5_setMost_42 : decode cX5_setMost 42 = .ok (.getfield 10, 3) := by decide +kernel
theorem dX5_setMost_45 : decode cX5_setMost 45 = .ok (.getfield 59, 3) := by decide +kernel
theorem dX5_setMost_48 : decode cX5_setMost 48 = .ok (.iload_n 1, 1) := by decide +kernel
theorem dX5_setMost_49 : decode cX5_setMost 49 = .ok (.aaload, 1) := by decide +kernel
theorem dX5_setMost_50 : decode cX5_setMost 50 = .ok (.astore 4, 2) := by decide +kernel
theorem dX5_setMost_52 : decode cX5_setMost 52 = .ok (.iload_n 2, 1) := by decide +kernel
theorem dX5_setMost_53 : decode cX5_setMost 53 = .ok (.ifCond .eq 11, 3) := by decide +kernel
theorem dX5_setMost_56 : decode cX5_setMost 56 = .ok (.aload 4, 2) := by decide +kernel
theorem dX5_setMost_58 : decode cX5_setMost 58 = .ok (.getfield 77, 3) := by decide +kernel
theorem dX5_setMost_61 : decode cX5_setMost 61 = .ok (.goto 8, 3) := by decide +kernel
theorem dX5_setMost_64 : decode cX5_setMost 64 = .ok (.aload 4, 2) := by decide +kernel
theorem dX5_setMost_66 : decode cX5_setMost 66 = .ok (.getfield 80, 3) := by decide +kernel
theorem dX5_setMost_69 : decode cX5_setMost 69 = .ok (.istore 5, 2) := by decide +kernel
theorem dX5_setMost_71 : decode cX5_setMost 71 = .ok (.iload_n 2, 1) := by decide +kernel
theorem dX5_setMost_72 : decode cX5_setMost 72 = .ok (.ifCond .eq 12, 3) := by decide +kernel
theorem dX5_setMost_75 : decode cX5_setMost 75 = .ok (.aload 4, 2) := by decide +kernel
theorem dX5_setMost_77 : decode cX5_setMost 77 = .ok (.iload_n 3, 1) := by decide +kernel
theorem dX5_setMost_78 : decode cX5_setMost 78 = .ok (.putfield 77, 3) := by decide +kernel
theorem dX5_setMost_81 : decode cX5_setMost 81 = .ok (.goto 9, 3) := by decide +kernel
theorem dX5_setMost_84 : decode cX5_setMost 84 = .ok (.aload 4, 2) := by decide +kernel
theorem dX5_setMost_86 : decode cX5_setMost 86 = .ok (.iload_n 3, 1) := by decide +kernel
theorem dX5_setMost_87 : decode cX5_setMost 87 = .ok (.putfield 80, 3) := by decide +kernel
theorem dX5_setMost_90 : decode cX5_setMost 90 = .ok (.iload 5, 2) := by decide +kernel
theorem dX5_setMost_92 : decode cX5_setMost 92 = .ok (.ireturn, 1) := by decide +kernel
set_option maxRecDepth 20000 in
theorem ggX5_wheel_X5_isWheel : GoodIn wsX5_wheel wsX5_isWheel := goodIn_r _ [8, 2, 9, 10, 11, 7, 12, 24, 25, 26, 27, 28, 29, 30, 31, 32, 33, 34, 35, 36, 37, 38, 39] (by decide +kernel) (by decide +kernel)
set_option maxRecDepth 20000 in
theorem gX5_wheel_X5_isWheel : GoodIn wsX5_wheel (wsV RX5 69 RX5 yX5_isWheel wsX5_isWheel) := goodIn_app (goodIn_of _ (by decide +kernel)) ggX5_wheel_X5_isWheel
set_option maxRecDepth 20000 in
theorem ggX5_wheel_X5_isWithin : GoodIn wsX5_wheel wsX5_isWithin := goodIn_r _ [12] (by decide +kernel) (by decide +kernel)
set_option maxRecDepth 20000 in
theorem gX5_wheel_X5_isWithin : GoodIn wsX5_wheel (va_wsS RX5 45 yX5_isWithin wsX5_isWithin) := goodIn_app (goodIn_of _ (by decide +kernel)) ggX5_wheel_X5_isWithin
set_option maxRecDepth 20000 in
theorem ggX5_wheel_X4_number : GoodIn wsX5_wheel wsX4_number := goodIn_r _ [17, 18, 19, 20, 21, 22, 23, 40, 41, 42, 43, 44, 45] (by decide +kernel) (by decide +kernel)
set_option maxRecDepth 20000 in
theorem gX5_wheel_X4_number : GoodIn wsX5_wheel (wsV RX5 83 RX4 yX4_number wsX4_number) := goodIn_app (goodIn_of _ (by decide +kernel)) ggX5_wheel_X4_number
theorem dX5_wheel_0 : decode cX5_wheel 0 = .ok (.aload_n 0, 1) := by decide +kernel
theorem dX5_wheel_1 : decode cX5_wheel 1 = .ok (.iload_n 1, 1) := by decide +kernel
theorem dX5_wheel_2 : decode cX5_wheel 2 = .ok (.invokevirtual 69, 3) := by decide +kernel
theorem dX5_wheel_5 : decode cX5_wheel 5 = .ok (.ifCond .eq 13, 3) := by decide +kernel
theorem dX5_wheel_8 : decode cX5_wheel 8 = .ok (.iload_n 2, 1) := by decide +kernel
theorem dX5_wheel_9 : decode cX5_wheel 9 = .ok (.iconst 0, 1) := by decide +kernel
theorem dX5_wheel_10 : decode cX5_wheel 10 = .ok (.bipush 7, 2) := by decide +kernel
theorem dX5_wheel_12 : decode cX5_wheel 12 = .ok (.invokestatic 45, 3) := by decide +kernel
theorem dX5_wheel_15 : decode cX5_wheel 15 = .ok (.ifCond .ne 6, 3) := by decide +kernel
theorem dX5_wheel_18 : decode cX5_wheel 18 = .ok (.ldc 49, 2) := by decide +kernel
theorem dX5_wheel_20 : decode cX5_wheel 20 = .ok (.ireturn, 1) := by decide +kernel
theorem dX5_wheel_21 : decode cX5_wheel 21 = .ok (.aload_n 0, 1) := by decide +kernel
theorem dX5_wheel_22 : decode cX5_wheel 22 = .ok (.getfield 10, 3) := by decide +kernel
theorem dX5_wheel_25 : decode cX5_wheel 25 = .ok (.getfield 59, 3) := by decide +kernel
theorem dX5_wheel_28 : decode cX5_wheel 28 = .ok (.iload_n 1, 1) := by decide +kernel
theorem dX5_wheel_29 : decode cX5_wheel 29 = .ok (.aaload, 1) := by decide +kernel
theorem dX5_wheel_30 : decode cX5_wheel 30 = .ok (.iload_n 2, 1) := by decide +kernel
theorem dX5_wheel_31 : decode cX5_wheel 31 = .ok (.invokevirtual 83, 3) := by decide +kernel
theorem dX5_wheel_34 : decode cX5_wheel 34 = .ok (.ireturn, 1) := by decide +kernel
theorem dX5_wheels_0 : decode cX5_wheels 0 = .ok (.aload_n 0, 1) := by decide +kernel
theorem dX5_wheels_1 : decode cX5_wheels 1 = .ok (.getfield 10, 3) := by decide +kernel
theorem dX5_wheels_4 : decode cX5_wheels 4 = .ok (.getfield 50, 3) := by decide +kernel
theorem dX5_wheels_7 : decode cX5_wheels 7 = .ok (.ireturn, 1) := by decide +kernel
set_option maxRecDepth 20000 in
theorem ggX5_setAxis_X5_isAxis : GoodIn wsX5_setAxis wsX5_isAxis := goodIn_r _ [10, 11, 12, 9, 13] (by decide +kernel) (by decide +kernel)
set_option maxRecDepth 20000 in
theorem gX5_setAxis_X5_isAxis : GoodIn wsX5_setAxis (va_wsS RX5 87 yX5_isAxis wsX5_isAxis) := goodIn_app (goodIn_of _ (by decide +kernel)) ggX5_setAxis_X5_isAxis
set_option maxRecDepth 20000 in
theorem ggX5_setAxis_X5_isWithin : GoodIn wsX5_setAxis wsX5_isWithin := goodIn_r _ [13] (by decide +kernel) (by decide +kernel)
set_option maxRecDepth 20000 in
theorem gX5_setAxis_X5_isWithin : GoodIn wsX5_setAxis (va_wsS RX5 45 yX5_isWithin wsX5_isWithin) := goodIn_app (goodIn_of _ (by decide +kernel)) ggX5_setAxis_X5_isWithin
set_option maxRecDepth 20000 in
theorem ggX5_setAxis_X1_keep : GoodIn wsX5_setAxis wsX1_keep := goodIn_r _ [18, 19, 20, 21, 22, 23, 17, 24, 25, 26, 27, 28, 29, 30, 31, 32, 33, 34, 35, 36, 37, 38, 39, 40, 41, 42, 43, 44, 45, 46, 47, 48, 49, 50, 51, 52, 53, 54, 55, 56, 73, 74, 62, 63, 64, 65, 66, 67, 68, 69, 70, 71, 72, 75, 76, 77, 78, 79, 80] (by decide +kernel) (by decide +kernel)
set_option maxRecDepth 20000 in
theorem gX5_setAxis_X1_keep : GoodIn wsX5_setAxis (wsV RX5 55 RX1 yX1_keep wsX1_keep) := goodIn_app (goodIn_of _ (by decide +kernel)) ggX5_setAxis_X1_keep
theorem dX5_setAxis_0 : decode cX5_setAxis 0 = .ok (.iload_n 1, 1) := by decide +kernel
theorem dX5_setAxis_1 : decode cX5_setAxis 1 = .ok (.invokestatic 87, 3) := by decide +kernel
theorem dX5_setAxis_4 : decode cX5_setAxis 4 = .ok (.ifCond .eq 29, 3) := by decide +kernel
theorem dX5_setAxis_7 : decode cX5_setAxis 7 = .ok (.iload_n 2, 1) := by decide +kernel
theorem dX5_setAxis_8 : decode cX5_setAxis 8 = .ok (.iconst 0, 1) := by decide +kernel
theorem dX5_setAxis_9 : decode cX5_setAxis 9 = .ok (.iconst 3, 1) := by decide +kernel
theorem dX5_setAxis_10 : decode cX5_setAxis 10 = .ok (.invokestatic 45, 3) := by decide +kernel
theorem dX5_setAxis_13 : decode cX5_setAxis 13 = .ok (.ifCond .eq 20, 3) := by decide +kernel
theorem dX5_setAxis_16 : decode cX5_setAxis 16 = .ok (.iload_n 3, 1) := by decide +kernel
theorem dX5_setAxis_17 : decode cX5_setAxis 17 = .ok (.getstatic 90, 3) := by decide +kernel
theorem dX5_setAxis_20 : decode cX5_setAxis 20 = .ok (.iload_n 2, 1) := by decide +kernel
theorem dX5_setAxis_21 : decode cX5_setAxis 21 = .ok (.iaload, 1) := by decide +kernel
theorem dX5_setAxis_22 : decode cX5_setAxis 22 = .ok (.getstatic 94, 3) := by decide +kernel
theorem dX5_setAxis_25 : decode cX5_setAxis 25 = .ok (.iload_n 2, 1) := by decide +kernel
theorem dX5_setAxis_26 : decode cX5_setAxis 26 = .ok (.iaload, 1) := by decide +kernel
theorem dX5_setAxis_27 : decode cX5_setAxis 27 = .ok (.invokestatic 45, 3) := by decide +kernel
theorem dX5_setAxis_30 : decode cX5_setAxis 30 = .ok (.ifCond .ne 6, 3) := by decide +kernel
theorem dX5_setAxis_33 : decode cX5_setAxis 33 = .ok (.ldc 49, 2) := by decide +kernel
theorem dX5_setAxis_35 : decode cX5_setAxis 35 = .ok (.ireturn, 1) := by decide +kernel
theorem dX5_setAxis_36 : decode cX5_setAxis 36 = .ok (.aload_n 0, 1) := by decide +kernel
theorem dX5_setAxis_37 : decode cX5_setAxis 37 = .ok (.getfield 36, 3) := by decide +kernel
theorem dX5_setAxis_40 : decode cX5_setAxis 40 = .ok (.aload_n 0, 1) := by decide +kernel
theorem dX5_setAxis_41 : decode cX5_setAxis 41 = .ok (.getfield 10, 3) := by decide +kernel
theorem dX5_setAxis_44 : decode cX5_setAxis 44 = .ok (.invokevirtual 55, 3) := by decide +kernel
theorem dX5_setAxis_47 : decode cX5_setAxis 47 = .ok (.aload_n 0, 1) := by decide +kernel
theorem dX5_setAxis_48 : decode cX5_setAxis 48 = .ok (.getfield 10, 3) := by decide +kernel
theorem dX5_setAxis_51 : decode cX5_setAxis 51 = .ok (.getfield 97, 3) := by decide +kernel
theorem dX5_setAxis_54 : decode cX5_setAxis 54 = .ok (.iload_n 2, 1) := by decide +kernel
theorem dX5_setAxis_55 : decode cX5_setAxis 55 = .ok (.aaload, 1) := by decide +kernel
theorem dX5_setAxis_56 : decode cX5_setAxis 56 = .ok (.iload_n 1, 1) := by decide +kernel
theorem dX5_setAxis_57 : decode cX5_setAxis 57 = .ok (.iaload, 1) := by decide +kernel
theorem dX5_setAxis_58 : decode cX5_setAxis 58 = .ok (.istore 4, 2) := by decide +kernel
theorem dX5_setAxis_60 : decode cX5_setAxis 60 = .ok (.aload_n 0, 1) := by decide +kernel
theorem dX5_setAxis_61 : decode cX5_setAxis 61 = .ok (.getfield 10, 3) := by decide +kernel
theorem dX5_setAxis_64 : decode cX5_setAxis 64 = .ok (.getfield 97, 3) := by decide +kernel
theorem dX5_setAxis_67 : decode cX5_setAxis 67 = .ok (.iload_n 2, 1) := by decide +kernel
theorem dX5_setAxis_68 : decode cX5_setAxis 68 = .ok (.aaload, 1) := by decide +kernel
theorem dX5_setAxis_69 : decode cX5_setAxis 69 = .ok (.iload_n 1, 1) := by decide +kernel
theorem dX5_setAxis_70 : decode cX5_setAxis 70 = .ok (.iload_n 3, 1) := by decide +kernel
theorem dX5_setAxis_71 : decode cX5_setAxis 71 = .ok (.iastore, 1) := by decide +kernel
theorem dX5_setAxis_72 : decode cX5_setAxis 72 = .ok (.iload 4, 2) := by decide +kernel
theorem dX5_setAxis_74 : decode cX5_setAxis 74 = .ok (.ireturn, 1) := by decide +kernel
set_option maxRecDepth 20000 in
theorem ggX5_set_X5_isWithin : GoodIn wsX5_set wsX5_isWithin := goodIn_r _ [10] (by decide +kernel) (by decide +kernel)
set_option maxRecDepth 20000 in
theorem gX5_set_X5_isWithin : GoodIn wsX5_set (va_wsS RX5 45 yX5_isWithin wsX5_isWithin) := goodIn_app (goodIn_of _ (by decide +kernel)) ggX5_set_X5_isWithin
set_option maxRecDepth 20000 in
theorem ggX5_set_X1_keep : GoodIn wsX5_set wsX1_keep := goodIn_r _ [15, 16, 17, 18, 19, 20, 14, 21, 22, 23, 24, 25, 26, 27, 28, 29, 30, 31, 32, 33, 34, 35, 36, 37, 38, 39, 40, 41, 42, 43, 44, 45, 46, 47, 48, 49, 50, 51, 52, 53, 70, 71, 59, 60, 61, 62, 63, 64, 65, 66, 67, 68, 69, 72, 73, 74, 75, 76, 77] (by decide +kernel) (by decide +kernel)
set_option maxRecDepth 20000 in
theorem gX5_set_X1_keep : GoodIn wsX5_set (wsV RX5 55 RX1 yX1_keep wsX1_keep) := goodIn_app (goodIn_of _ (by decide +kernel)) ggX5_set_X1_keep
theorem dX5_set_0 : decode cX5_set 0 = .ok (.iload_n 1, 1) := by decide +kernel
theorem dX5_set_1 : decode cX5_set 1 = .ok (.iconst 0, 1) := by decide +kernel
theorem dX5_set_2 : decode cX5_set 2 = .ok (.iconst 4, 1) := by decide +kernel
theorem dX5_set_3 : decode cX5_set 3 = .ok (.invokestatic 45, 3) := by decide +kernel
theorem dX5_set_6 : decode cX5_set 6 = .ok (.ifCond .eq 20, 3) := by decide +kernel
theorem dX5_set_9 : decode cX5_set 9 = .ok (.iload_n 2, 1) := by decide +kernel
theorem dX5_set_10 : decode cX5_set 10 = .ok (.getstatic 101, 3) := by decide +kernel
theorem dX5_set_13 : decode cX5_set 13 = .ok (.iload_n 1, 1) := by decide +kernel
theorem dX5_set_14 : decode cX5_set 14 = .ok (.iaload, 1) := by decide +kernel
theorem dX5_set_15 : decode cX5_set 15 = .ok (.getstatic 104, 3) := by decide +kernel
theorem dX5_set_18 : decode cX5_set 18 = .ok (.iload_n 1, 1) := by decide +kernel
theorem dX5_set_19 : decode cX5_set 19 = .ok (.iaload, 1) := by decide +kernel
theorem dX5_set_20 : decode cX5_set 20 = .ok (.invokestatic 45, 3) := by decide +kernel
theorem dX5_set_23 : decode cX5_set 23 = .ok (.ifCond .ne 6, 3) := by decide +kernel
theorem dX5_set_26 : decode cX5_set 26 = .ok (.ldc 49, 2) := by decide +kernel
theorem dX5_set_28 : decode cX5_set 28 = .ok (.ireturn, 1) := by decide +kernel
theorem dX5_set_29 : decode cX5_set 29 = .ok (.aload_n 0, 1) := by decide +kernel
theorem dX5_set_30 : decode cX5_set 30 = .ok (.getfield 36, 3) := by decide +kernel
theorem dX5_set_33 : decode cX5_set 33 = .ok (.aload_n 0, 1) := by decide +kernel
theorem dX5_set_34 : decode cX5_set 34 = .ok (.getfield 10, 3) := by decide +kernel
theorem dX5_set_37 : decode cX5_set 37 = .ok (.invokevirtual 55, 3) := by decide +kernel
theorem dX5_set_40 : decode cX5_set 40 = .ok (.aload_n 0, 1) := by decide +kernel
theorem dX5_set_41 : decode cX5_set 41 = .ok (.getfield 10, 3) := by decide +kernel
theorem dX5_set_44 : decode cX5_set 44 = .ok (.getfield 107, 3) := by decide +kernel
theorem dX5_set_47 : decode cX5_set 47 = .ok (.iload_n 1, 1) := by decide +kernel
theorem dX5_set_48 : decode cX5_set 48 = .ok (.iaload, 1) := by decide +kernel
theorem dX5_set_49 : decode cX5_set 49 = .ok (.istore_n 3, 1) := by decide +kernel
theorem dX5_set_50 : decode cX5_set 50 = .ok (.aload_n 0, 1) := by decide +kernel
theorem dX5_set_51 : decode cX5_set 51 = .ok (.getfield 10, 3) := by decide +kernel
theorem dX5_set_54 : decode cX5_set 54 = .ok (.getfield 107, 3) := by decide +kernel
theorem dX5_set_57 : decode cX5_set 57 = .ok (.iload_n 1, 1) := by decide +kernel
theorem dX5_set_58 : decode cX5_set 58 = .ok (.iload_n 2, 1) := by decide +kernel
theorem dX5_set_59 : decode cX5_set 59 = .ok (.iastore, 1) := by decide +kernel
theorem dX5_set_60 : decode cX5_set 60 = .ok (.iload_n 3, 1) := by decide +kernel
theorem dX5_set_61 : decode cX5_set 61 = .ok (.ireturn, 1) := by decide +kernel
set_option maxRecDepth 20000 in
theorem ggX5_setting_X5_isWithin : GoodIn wsX5_setting wsX5_isWithin := goodIn_r _ [7] (by decide +kernel) (by decide +kernel)
set_option maxRecDepth 20000 in
theorem gX5_setting_X5_isWithin : GoodIn wsX5_setting (va_wsS RX5 45 yX5_isWithin wsX5_isWithin) := goodIn_app (goodIn_of _ (by decide +kernel)) ggX5_setting_X5_isWithin
theorem dX5_setting_0 : decode cX5_setting 0 = .ok (.iload_n 1, 1) := by decide +kernel
theorem dX5_setting_1 : decode cX5_setting 1 = .ok (.iconst 0, 1) := by decide +kernel
theorem dX5_setting_2 : decode cX5_setting 2 = .ok (.iconst 4, 1) := by decide +kernel
theorem dX5_setting_3 : decode cX5_setting 3 = .ok (.invokestatic 45, 3) := by decide +kernel
theorem dX5_setting_6 : decode cX5_setting 6 = .ok (.ifCond .eq 15, 3) := by decide +kernel
theorem dX5_setting_9 : decode cX5_setting 9 = .ok (.aload_n 0, 1) := by decide +kernel
theorem dX5_setting_10 : decode cX5_setting 10 = .ok (.getfield 10, 3) := by decide +kernel
theorem dX5_setting_13 : decode cX5_setting 13 = .ok (.getfield 107, 3) := by decide +kernel
theorem dX5_setting_16 : decode cX5_setting 16 = .ok (.iload_n 1, 1) := by decide +kernel
theorem dX5_setting_17 : decode cX5_setting 17 = .ok (.iaload, 1) := by decide +kernel
theorem dX5_setting_18 : decode cX5_setting 18 = .ok (.goto 5, 3) := by decide +kernel
theorem dX5_setting_21 : decode cX5_setting 21 = .ok (.ldc 49, 2) := by decide +kernel
theorem dX5_setting_23 : decode cX5_setting 23 = .ok (.ireturn, 1) := by decide +kernel
set_option maxRecDepth 20000 in
theorem ggX5_strike_X5_isAxis : GoodIn wsX5_strike wsX5_isAxis := goodIn_r _ [9, 10, 11, 8, 12] (by decide +kernel) (by decide +kernel)
set_option maxRecDepth 20000 in
theorem gX5_strike_X5_isAxis : GoodIn wsX5_strike (va_wsS RX5 87 yX5_isAxis wsX5_isAxis) := goodIn_app (goodIn_of _ (by decide +kernel)) ggX5_strike_X5_isAxis
set_option maxRecDepth 20000 in
theorem ggX5_strike_X5_isWithin : GoodIn wsX5_strike wsX5_isWithin := goodIn_r _ [12] (by decide +kernel) (by decide +kernel)
set_option maxRecDepth 20000 in
theorem gX5_strike_X5_isWithin : GoodIn wsX5_strike (va_wsS RX5 45 yX5_isWithin wsX5_isWithin) := goodIn_app (goodIn_of _ (by decide +kernel)) ggX5_strike_X5_isWithin
set_option maxRecDepth 20000 in
theorem ggX5_strike_X1_keep : GoodIn wsX5_strike wsX1_keep := goodIn_r _ [17, 18, 19, 20, 21, 22, 16, 23, 24, 25, 26, 27, 28, 29, 30, 31, 32, 33, 34, 35, 36, 37, 38, 39, 40, 41, 42, 43, 44, 45, 46, 47, 48, 49, 50, 51, 52, 53, 54, 55, 75, 76, 77, 78, 79, 80, 81, 82, 83, 84, 85, 86, 87, 88, 89, 90, 91, 92, 93] (by decide +kernel) (by decide +kernel)
set_option maxRecDepth 20000 in
theorem gX5_strike_X1_keep : GoodIn wsX5_strike (wsV RX5 55 RX1 yX1_keep wsX1_keep) := goodIn_app (goodIn_of _ (by decide +kernel)) ggX5_strike_X1_keep
set_option maxRecDepth 20000 in
theorem ggX5_strike_X0_pushFromOutside : GoodIn wsX5_strike wsX0_pushFromOutside := goodIn_r _ [59, 37, 38, 77, 78, 79, 80, 81, 82, 83, 84, 85, 86, 87] (by decide +kernel) (by decide +kernel)
set_option maxRecDepth 20000 in
theorem gX5_strike_X0_pushFromOutside : GoodIn wsX5_strike (wsV RX5 113 RX0 yX0_pushFromOutside wsX0_pushFromOutside) := goodIn_app (goodIn_of _ (by decide +kernel)) ggX5_strike_X0_pushFromOutside
set_option maxRecDepth 20000 in
theorem ggX5_strike_X0_rate : GoodIn wsX5_strike wsX0_rate := goodIn_r _ [63, 37, 35, 64, 8, 65, 66, 67, 68, 69, 77, 78, 79, 80, 81, 82, 83, 84, 85, 86, 87] (by decide +kernel) (by decide +kernel)
set_option maxRecDepth 20000 in
theorem gX5_strike_X0_rate : GoodIn wsX5_strike (wsV RX5 117 RX0 yX0_rate wsX0_rate) := goodIn_app (goodIn_of _ (by decide +kernel)) ggX5_strike_X0_rate
theorem dX5_strike_0 : decode cX5_strike 0 = .ok (.iload_n 1, 1) := by decide +kernel
theorem dX5_strike_1 : decode cX5_strike 1 = .ok (.invokestatic 87, 3) := by decide +kernel
theorem dX5_strike_4 : decode cX5_strike 4 = .ok (.ifCond .eq 14, 3) := by decide +kernel
theorem dX5_strike_7 : decode cX5_strike 7 = .ok (.iload_n 2, 1) := by decide +kernel
theorem dX5_strike_8 : decode cX5_strike 8 = .ok (.ldc 110, 2) := by decide +kernel
theorem dX5_strike_10 : decode cX5_strike 10 = .ok (.ldc 48, 2) := by decide +kernel
theorem dX5_strike_12 : decode cX5_strike 12 = .ok (.invokestatic 45, 3) := by decide +kernel
theorem dX5_strike_15 : decode cX5_strike 15 = .ok (.ifCond .ne 7, 3) := by decide +kernel
theorem dX5_strike_18 : decode cX5_strike 18 = .ok (.ldc2_w 111, 3) := by decide +kernel
theorem dX5_strike_21 : decode cX5_strike 21 = .ok (.lreturn, 1) := by decide +kernel
theorem dX5_strike_22 : decode cX5_strike 22 = .ok (.aload_n 0, 1) := by decide +kernel
theorem dX5_strike_23 : decode cX5_strike 23 = .ok (.getfield 36, 3) := by decide +kernel
theorem dX5_strike_26 : decode cX5_strike 26 = .ok (.aload_n 0, 1) := by decide +kernel
theorem dX5_strike_27 : decode cX5_strike 27 = .ok (.getfield 10, 3) := by decide +kernel
theorem dX5_strike_30 : decode cX5_strike 30 = .ok (.invokevirtual 55, 3) := by decide +kernel
theorem dX5_strike_33 : decode cX5_strike 33 = .ok (.aload_n 0, 1) := by decide +kernel
theorem dX5_strike_34 : decode cX5_strike 34 = .ok (.getfield 10, 3) := by decide +kernel
theorem dX5_strike_37 : decode cX5_strike 37 = .ok (.iload_n 1, 1) := by decide +kernel
theorem dX5_strike_38 : decode cX5_strike 38 = .ok (.iload_n 2, 1) := by decide +kernel
theorem dX5_strike_39 : decode cX5_strike 39 = .ok (.i2l, 1) := by decide +kernel
theorem dX5_strike_40 : decode cX5_strike 40 = .ok (.invokevirtual 113, 3) := by decide +kernel
theorem dX5_strike_43 : decode cX5_strike 43 = .ok (.aload_n 0, 1) := by decide +kernel
theorem dX5_strike_44 : decode cX5_strike 44 = .ok (.getfield 10, 3) := by decide +kernel
theorem dX5_strike_47 : decode cX5_strike 47 = .ok (.iload_n 1, 1) := by decide +kernel
theorem dX5_strike_48 : decode cX5_strike 48 = .ok (.invokevirtual 117, 3) := by decide +kernel
theorem dX5_strike_51 : decode cX5_strike 51 = .ok (.lreturn, 1) := by decide +kernel
set_option maxRecDepth 20000 in
theorem ggX5_tick_X5_isWithin : GoodIn wsX5_tick wsX5_isWithin := goodIn_r _ [12] (by decide +kernel) (by decide +kernel)
set_option maxRecDepth 20000 in
theorem gX5_tick_X5_isWithin : GoodIn wsX5_tick (va_wsS RX5 45 yX5_isWithin wsX5_isWithin) := goodIn_app (goodIn_of _ (by decide +kernel)) ggX5_tick_X5_isWithin
set_option maxRecDepth 20000 in
theorem ggX5_tick_X1_keep : GoodIn wsX5_tick wsX1_keep := goodIn_r _ [17, 18, 19, 20, 21, 22, 16, 23, 24, 25, 26, 27, 28, 29, 30, 31, 32, 33, 34, 35, 36, 37, 38, 39, 40, 41, 42, 43, 44, 45, 46, 47, 48, 49, 50, 51, 52, 53, 54, 55, 209, 210, 198, 199, 200, 201, 202, 203, 204, 205, 206, 207, 208, 211, 212, 213, 214, 215, 216] (by decide +kernel) (by decide +kernel)
set_option maxRecDepth 20000 in
theorem gX5_tick_X1_keep : GoodIn wsX5_tick (wsV RX5 55 RX1 yX1_keep wsX1_keep) := goodIn_app (goodIn_of _ (by decide +kernel)) ggX5_tick_X1_keep
set_option maxRecDepth 20000 in
theorem ggX5_tick_X3_measure : GoodIn wsX5_tick wsX3_measure := goodIn_r _ [60, 61, 62, 63, 64, 65, 66, 67, 68, 69, 70, 59, 71, 72, 73, 74, 75, 76, 11, 77, 217, 218, 219, 220, 198, 199, 200, 201, 202, 203, 204, 205, 206, 207, 208, 211, 212, 213, 214, 215, 216] (by decide +kernel) (by decide +kernel)
set_option maxRecDepth 20000 in
theorem gX5_tick_X3_measure : GoodIn wsX5_tick (wsV RX5 127 RX3 yX3_measure wsX3_measure) := goodIn_app (goodIn_of _ (by decide +kernel)) ggX5_tick_X3_measure
set_option maxRecDepth 20000 in
theorem ggX5_tick_X5_passOne : GoodIn wsX5_tick wsX5_passOne := goodIn_r _ [81, 3, 7, 82, 83, 84, 85, 27, 86, 30, 35, 36, 87, 39, 88, 11, 89, 90, 91, 92, 93, 94, 95, 96, 97, 98, 99, 37, 100, 101, 102, 59, 103, 62, 63, 104, 105, 64, 106, 107, 108, 109, 66, 110, 111, 112, 113, 42, 43, 40, 41, 114, 115, 116, 117, 118, 119, 120, 121, 122, 123, 67, 124, 125, 126, 127, 128, 129, 65, 130, 131, 132, 133, 134, 135, 136, 137, 138, 47, 139, 53, 140, 141, 142, 143, 52, 51, 144, 145, 146, 147, 148, 149, 150, 151, 152, 153, 154, 155, 156, 157, 158, 159, 160, 161, 162, 163, 164, 165, 166, 167, 168, 169, 170, 171, 172, 173, 174, 175, 176, 177, 178, 76, 77, 179, 180, 181, 182, 38, 183, 184, 185, 186, 187, 188, 189, 190, 191, 198, 199, 200, 201, 202, 203, 204, 205, 206, 207, 208, 193, 194, 195, 196, 197, 211, 212, 213, 214, 215, 216, 217, 218, 219, 220, 221, 222] (by decide +kernel) (by decide +kernel)
set_option maxRecDepth 20000 in
theorem gX5_tick_X5_passOne : GoodIn wsX5_tick (wsV RX5 131 RX5 yX5_passOne wsX5_passOne) := goodIn_app (goodIn_of _ (by decide +kernel)) ggX5_tick_X5_passOne
set_option maxRecDepth 20000 in
theorem ggX5_tick_X0_isMet : GoodIn wsX5_tick wsX0_isMet := goodIn_r _ [154, 42, 198, 199, 200, 201, 202, 203, 204, 205, 206, 207, 208] (by decide +kernel) (by decide +kernel)
set_option maxRecDepth 20000 in
theorem gX5_tick_X0_isMet : GoodIn wsX5_tick (wsV RX5 134 RX0 yX0_isMet wsX0_isMet) := goodIn_app (goodIn_of _ (by decide +kernel)) ggX5_tick_X0_isMet
theorem dX5_tick_0 : decode cX5_tick 0 = .ok (.iload_n 1, 1) := by decide +kernel
theorem dX5_tick_1 : decode cX5_tick 1 = .ok (.iconst 1, 1) := by decide +kernel
theorem dX5_tick_2 : decode cX5_tick 2 = .ok (.sipush 200, 3) := by decide +kernel
theorem dX5_tick_5 : decode cX5_tick 5 = .ok (.invokestatic 45, 3) := by decide +kernel
theorem dX5_tick_8 : decode cX5_tick 8 = .ok (.ifCond .ne 6, 3) := by decide +kernel
theorem dX5_tick_11 : decode cX5_tick 11 = .ok (.ldc 49, 2) := by decide +kernel
theorem dX5_tick_13 : decode cX5_tick 13 = .ok (.ireturn, 1) := by decide +kernel
theorem dX5_tick_14 : decode cX5_tick 14 = .ok (.aload_n 0, 1) := by decide +kernel
theorem dX5_tick_15 : decode cX5_tick 15 = .ok (.getfield 10, 3) := by decide +kernel
theorem dX5_tick_18 : decode cX5_tick 18 = .ok (.getfield 121, 3) := by decide +kernel
theorem dX5_tick_21 : decode cX5_tick 21 = .ok (.iload_n 1, 1) := by decide +kernel
theorem dX5_tick_22 : decode cX5_tick 22 = .ok (.iadd, 1) := by decide +kernel
theorem dX5_tick_23 : decode cX5_tick 23 = .ok (.ldc 124, 2) := by decide +kernel
theorem dX5_tick_25 : decode cX5_tick 25 = .ok (.if_icmp .le 6, 3) := by decide +kernel
theorem dX5_tick_28 : decode cX5_tick 28 = .ok (.ldc 125, 2) := by decide +kernel
theorem dX5_tick_30 : decode cX5_tick 30 = .ok (.ireturn, 1) := by decide +kernel
theorem dX5_tick_31 : decode cX5_tick 31 = .ok (.aload_n 0, 1) := by decide +kernel
theorem dX5_tick_32 : decode cX5_tick 32 = .ok (.getfield 36, 3) := by decide +kernel
theorem dX5_tick_35 : decode cX5_tick 35 = .ok (.aload_n 0, 1) := by decide +kernel
theorem dX5_tick_36 : decode cX5_tick 36 = .ok (.getfield 10, 3) := by decide +kernel
theorem dX5_tick_39 : decode cX5_tick 39 = .ok (.invokevirtual 55, 3) := by decide +kernel
theorem dX5_tick_42 : decode cX5_tick 42 = .ok (.aload_n 0, 1) := by decide +kernel
theorem dX5_tick_43 : decode cX5_tick 43 = .ok (.getfield 22, 3) := by decide +kernel
theorem dX5_tick_46 : decode cX5_tick 46 = .ok (.aload_n 0, 1) := by decide +kernel
theorem dX5_tick_47 : decode cX5_tick 47 = .ok (.getfield 10, 3) := by decide +kernel
theorem dX5_tick_50 : decode cX5_tick 50 = .ok (.ldc 126, 2) := by decide +kernel
theorem dX5_tick_52 : decode cX5_tick 52 = .ok (.invokevirtual 127, 3) := by decide +kernel
theorem dX5_tick_55 : decode cX5_tick 55 = .ok (.iconst 0, 1) := by decide +kernel
theorem dX5_tick_56 : decode cX5_tick 56 = .ok (.istore_n 2, 1) := by decide +kernel
theorem dX5_tick_57 : decode cX5_tick 57 = .ok (.iconst 0, 1) := by decide +kernel
theorem dX5_tick_58 : decode cX5_tick 58 = .ok (.istore_n 3, 1) := by decide +kernel
theorem dX5_tick_59 : decode cX5_tick 59 = .ok (.iload_n 3, 1) := by decide +kernel
theorem dX5_tick_60 : decode cX5_tick 60 = .ok (.iload_n 1, 1) := by decide +kernel
theorem dX5_tick_61 : decode cX5_tick 61 = .ok (.if_icmp .ge 35, 3) := by decide +kernel
theorem dX5_tick_64 : decode cX5_tick 64 = .ok (.aload_n 0, 1) := by decide +kernel
theorem dX5_tick_65 : decode cX5_tick 65 = .ok (.aload_n 0, 1) := by decide +kernel
theorem dX5_tick_66 : decode cX5_tick 66 = .ok (.getfield 10, 3) := by decide +kernel
theorem dX5_tick_69 : decode cX5_tick 69 = .ok (.invokevirtual 131, 3) := by decide +kernel
theorem dX5_tick_72 : decode cX5_tick 72 = .ok (.iload_n 2, 1) := by decide +kernel
theorem dX5_tick_73 : decode cX5_tick 73 = .ok (.aload_n 0, 1) := by decide +kernel
theorem dX5_tick_74 : decode cX5_tick 74 = .ok (.getfield 10, 3) := by decide +kernel
theorem dX5_tick_77 : decode cX5_tick 77 = .ok (.invokevirtual 134, 3) := by decide +kernel
theorem dX5_tick_80 : decode cX5_tick 80 = .ok (.ifCond .eq 7, 3) := by decide +kernel
theorem dX5_tick_83 : decode cX5_tick 83 = .ok (.iconst 1, 1) := by decide +kernel
theorem dX5_tick_84 : decode cX5_tick 84 = .ok (.goto 4, 3) := by decide +kernel
theorem dX5_tick_87 : decode cX5_tick 87 = .ok (.iconst 0, 1) := by decide +kernel
theorem dX5_tick_88 : decode cX5_tick 88 = .ok (.iadd, 1) := by decide +kernel
theorem dX5_tick_89 : decode cX5_tick 89 = .ok (.istore_n 2, 1) := by decide +kernel
theorem dX5_tick_90 : decode cX5_tick 90 = .ok (.iinc 3 1, 3) := by decide +kernel
theorem dX5_tick_93 : decode cX5_tick 93 = .ok (.goto (-34), 3) := by decide +kernel
theorem dX5_tick_96 : decode cX5_tick 96 = .ok (.iload_n 2, 1) := by decide +kernel
theorem dX5_tick_97 : decode cX5_tick 97 = .ok (.ireturn, 1) := by decide +kernel
theorem dX5_time_0 : decode cX5_time 0 = .ok (.aload_n 0, 1) := by decide +kernel
theorem dX5_time_1 : decode cX5_time 1 = .ok (.getfield 10, 3) := by decide +kernel
theorem dX5_time_4 : decode cX5_time 4 = .ok (.getfield 121, 3) := by decide +kernel
theorem dX5_time_7 : decode cX5_time 7 = .ok (.ireturn, 1) := by decide +kernel
set_option maxRecDepth 20000 in
theorem ggX5_axis_X5_isAxis : GoodIn wsX5_axis wsX5_isAxis := goodIn_r _ [6, 7, 8, 5, 9] (by decide +kernel) (by decide +kernel)
set_option maxRecDepth 20000 in
theorem gX5_axis_X5_isAxis : GoodIn wsX5_axis (va_wsS RX5 87 yX5_isAxis wsX5_isAxis) := goodIn_app (goodIn_of _ (by decide +kernel)) ggX5_axis_X5_isAxis
set_option maxRecDepth 20000 in
theorem ggX5_axis_X5_isWithin : GoodIn wsX5_axis wsX5_isWithin := goodIn_r _ [9] (by decide +kernel) (by decide +kernel)
set_option maxRecDepth 20000 in
theorem gX5_axis_X5_isWithin : GoodIn wsX5_axis (va_wsS RX5 45 yX5_isWithin wsX5_isWithin) := goodIn_app (goodIn_of _ (by decide +kernel)) ggX5_axis_X5_isWithin
set_option maxRecDepth 20000 in
theorem ggX5_axis_X0_number : GoodIn wsX5_axis wsX0_number := goodIn_r _ [14, 15, 16, 17, 18, 19, 20, 21, 22, 23, 13, 24, 25, 5, 26, 27, 28, 29, 30, 31, 32, 33, 34, 35, 36, 37, 38, 44, 45, 46, 47, 48, 49, 50, 51, 52, 53, 54, 55, 56, 57, 58, 59, 60] (by decide +kernel) (by decide +kernel)
set_option maxRecDepth 20000 in
theorem gX5_axis_X0_number : GoodIn wsX5_axis (wsV RX5 138 RX0 yX0_number wsX0_number) := goodIn_app (goodIn_of _ (by decide +kernel)) ggX5_axis_X0_number
theorem dX5_axis_0 : decode cX5_axis 0 = .ok (.iload_n 1, 1) := by decide +kernel
theorem dX5_axis_1 : decode cX5_axis 1 = .ok (.invokestatic 87, 3) := by decide +kernel
theorem dX5_axis_4 : decode cX5_axis 4 = .ok (.ifCond .eq 13, 3) := by decide +kernel
theorem dX5_axis_7 : decode cX5_axis 7 = .ok (.iload_n 2, 1) := by decide +kernel
theorem dX5_axis_8 : decode cX5_axis 8 = .ok (.iconst 0, 1) := by decide +kernel
theorem dX5_axis_9 : decode cX5_axis 9 = .ok (.bipush 9, 2) := by decide +kernel
theorem dX5_axis_11 : decode cX5_axis 11 = .ok (.invokestatic 45, 3) := by decide +kernel
theorem dX5_axis_14 : decode cX5_axis 14 = .ok (.ifCond .ne 7, 3) := by decide +kernel
theorem dX5_axis_17 : decode cX5_axis 17 = .ok (.ldc2_w 111, 3) := by decide +kernel
theorem dX5_axis_20 : decode cX5_axis 20 = .ok (.lreturn, 1) := by decide +kernel
theorem dX5_axis_21 : decode cX5_axis 21 = .ok (.aload_n 0, 1) := by decide +kernel
theorem dX5_axis_22 : decode cX5_axis 22 = .ok (.getfield 10, 3) := by decide +kernel
theorem dX5_axis_25 : decode cX5_axis 25 = .ok (.iload_n 1, 1) := by decide +kernel
theorem dX5_axis_26 : decode cX5_axis 26 = .ok (.iload_n 2, 1) := by decide +kernel
theorem dX5_axis_27 : decode cX5_axis 27 = .ok (.invokevirtual 138, 3) := by decide +kernel
theorem dX5_axis_30 : decode cX5_axis 30 = .ok (.lreturn, 1) := by decide +kernel
set_option maxRecDepth 20000 in
theorem ggX5_span_X3_measure : GoodIn wsX5_span wsX3_measure := goodIn_r _ [9, 10, 11, 12, 13, 14, 15, 16, 17, 18, 19, 8, 20, 21, 22, 23, 24, 25, 26, 27, 33, 34, 35, 36, 37, 38, 39, 40, 41, 42, 43, 44, 45, 46, 47, 48, 49, 50, 51, 52, 53] (by decide +kernel) (by decide +kernel)
set_option maxRecDepth 20000 in
theorem gX5_span_X3_measure : GoodIn wsX5_span (wsV RX5 127 RX3 yX3_measure wsX3_measure) := goodIn_app (goodIn_of _ (by decide +kernel)) ggX5_span_X3_measure
theorem dX5_span_0 : decode cX5_span 0 = .ok (.aload_n 0, 1) := by decide +kernel
theorem dX5_span_1 : decode cX5_span 1 = .ok (.getfield 22, 3) := by decide +kernel
theorem dX5_span_4 : decode cX5_span 4 = .ok (.aload_n 0, 1) := by decide +kernel
theorem dX5_span_5 : decode cX5_span 5 = .ok (.getfield 10, 3) := by decide +kernel
theorem dX5_span_8 : decode cX5_span 8 = .ok (.ldc 126, 2) := by decide +kernel
theorem dX5_span_10 : decode cX5_span 10 = .ok (.invokevirtual 127, 3) := by decide +kernel
theorem dX5_span_13 : decode cX5_span 13 = .ok (.aload_n 0, 1) := by decide +kernel
theorem dX5_span_14 : decode cX5_span 14 = .ok (.getfield 22, 3) := by decide +kernel
theorem dX5_span_17 : decode cX5_span 17 = .ok (.getfield 141, 3) := by decide +kernel
theorem dX5_span_20 : decode cX5_span 20 = .ok (.lreturn, 1) := by decide +kernel
set_option maxRecDepth 20000 in
theorem ggX5_wish_X5_isWheel : GoodIn wsX5_wish wsX5_isWheel := goodIn_r _ [11, 2, 12, 13, 14, 10, 15, 62, 63, 64, 65, 66, 67, 68, 69, 70, 71, 72, 73, 74, 75, 76, 77] (by decide +kernel) (by decide +kernel)
set_option maxRecDepth 20000 in
theorem gX5_wish_X5_isWheel : GoodIn wsX5_wish (wsV RX5 69 RX5 yX5_isWheel wsX5_isWheel) := goodIn_app (goodIn_of _ (by decide +kernel)) ggX5_wish_X5_isWheel
set_option maxRecDepth 20000 in
theorem ggX5_wish_X5_isTorque : GoodIn wsX5_wish wsX5_isTorque := goodIn_r _ [18, 19, 20, 13, 14, 10, 15] (by decide +kernel) (by decide +kernel)
set_option maxRecDepth 20000 in
theorem gX5_wish_X5_isTorque : GoodIn wsX5_wish (va_wsS RX5 145 yX5_isTorque wsX5_isTorque) := goodIn_app (goodIn_of _ (by decide +kernel)) ggX5_wish_X5_isTorque
set_option maxRecDepth 20000 in
theorem ggX5_wish_X3_measure : GoodIn wsX5_wish wsX3_measure := goodIn_r _ [25, 26, 27, 28, 29, 30, 31, 32, 33, 34, 35, 24, 36, 37, 38, 39, 40, 41, 10, 42, 84, 85, 86, 87, 67, 68, 69, 70, 71, 72, 73, 74, 75, 76, 77, 78, 79, 80, 81, 82, 83] (by decide +kernel) (by decide +kernel)
set_option maxRecDepth 20000 in
theorem gX5_wish_X3_measure : GoodIn wsX5_wish (wsV RX5 127 RX3 yX3_measure wsX3_measure) := goodIn_app (goodIn_of _ (by decide +kernel)) ggX5_wish_X3_measure
set_option maxRecDepth 20000 in
theorem ggX5_wish_X3_spans : GoodIn wsX5_wish wsX3_spans := goodIn_r _ [46, 31, 84, 85, 86, 87] (by decide +kernel) (by decide +kernel)
set_option maxRecDepth 20000 in
theorem gX5_wish_X3_spans : GoodIn wsX5_wish (wsV RX5 148 RX3 yX3_spans wsX3_spans) := goodIn_app (goodIn_of _ (by decide +kernel)) ggX5_wish_X3_spans
set_option maxRecDepth 20000 in
theorem ggX5_wish_X3_aim : GoodIn wsX5_wish wsX3_aim := goodIn_r _ [50, 51, 32, 84, 85, 86, 87] (by decide +kernel) (by decide +kernel)
set_option maxRecDepth 20000 in
theorem gX5_wish_X3_aim : GoodIn wsX5_wish (wsV RX5 151 RX3 yX3_aim wsX3_aim) := goodIn_app (goodIn_of _ (by decide +kernel)) ggX5_wish_X3_aim
set_option maxRecDepth 20000 in
theorem ggX5_wish_X3_wishOf : GoodIn wsX5_wish wsX3_wishOf := goodIn_r _ [55, 30, 51, 31, 56, 57, 44, 45, 24, 46, 58, 59, 60, 61, 78, 79, 80, 81, 82, 83, 84, 85, 86, 87] (by decide +kernel) (by decide +kernel)
set_option maxRecDepth 20000 in
theorem gX5_wish_X3_wishOf : GoodIn wsX5_wish (wsV RX5 155 RX3 yX3_wishOf wsX3_wishOf) := goodIn_app (goodIn_of _ (by decide +kernel)) ggX5_wish_X3_wishOf
theorem dX5_wish_0 : decode cX5_wish 0 = .ok (.aload_n 0, 1) := by decide +kernel
theorem dX5_wish_1 : decode cX5_wish 1 = .ok (.iload_n 1, 1) := by decide +kernel
theorem dX5_wish_2 : decode cX5_wish 2 = .ok (.invokevirtual 69, 3) := by decide +kernel
theorem dX5_wish_5 : decode cX5_wish 5 = .ok (.ifCond .eq 25, 3) := by decide +kernel
theorem dX5_wish_8 : decode cX5_wish 8 = .ok (.iload_n 2, 1) := by decide +kernel
theorem dX5_wish_9 : decode cX5_wish 9 = .ok (.invokestatic 145, 3) := by decide +kernel
theorem dX5_wish_12 : decode cX5_wish 12 = .ok (.ifCond .eq 18, 3) := by decide +kernel
theorem dX5_wish_15 : decode cX5_wish 15 = .ok (.iload_n 3, 1) := by decide +kernel
theorem dX5_wish_16 : decode cX5_wish 16 = .ok (.invokestatic 145, 3) := by decide +kernel
theorem dX5_wish_19 : decode cX5_wish 19 = .ok (.ifCond .eq 11, 3) := by decide +kernel
theorem dX5_wish_22 : decode cX5_wish 22 = .ok (.iload 4, 2) := by decide +kernel
theorem dX5_wish_24 : decode cX5_wish 24 = .ok (.invokestatic 145, 3) := by decide +kernel
theorem dX5_wish_27 : decode cX5_wish 27 = .ok (.ifCond .ne 7, 3) := by decide +kernel
theorem dX5_wish_30 : decode cX5_wish 30 = .ok (.ldc2_w 111, 3) := by decide +kernel
theorem dX5_wish_33 : decode cX5_wish 33 = .ok (.lreturn, 1) := by decide +kernel
theorem dX5_wish_34 : decode cX5_wish 34 = .ok (.aload_n 0, 1) := by decide +kernel
theorem dX5_wish_35 : decode cX5_wish 35 = .ok (.getfield 10, 3) := by decide +kernel
theorem dX5_wish_38 : decode cX5_wish 38 = .ok (.getfield 59, 3) := by decide +kernel
theorem dX5_wish_41 : decode cX5_wish 41 = .ok (.iload_n 1, 1) := by decide +kernel
theorem dX5_wish_42 : decode cX5_wish 42 = .ok (.aaload, 1) := by decide +kernel
theorem dX5_wish_43 : decode cX5_wish 43 = .ok (.astore 5, 2) := by decide +kernel
theorem dX5_wish_45 : decode cX5_wish 45 = .ok (.aload_n 0, 1) := by decide +kernel
theorem dX5_wish_46 : decode cX5_wish 46 = .ok (.getfield 22, 3) := by decide +kernel
theorem dX5_wish_49 : decode cX5_wish 49 = .ok (.aload_n 0, 1) := by decide +kernel
theorem dX5_wish_50 : decode cX5_wish 50 = .ok (.getfield 10, 3) := by decide +kernel
theorem dX5_wish_53 : decode cX5_wish 53 = .ok (.ldc 126, 2) := by decide +kernel
theorem dX5_wish_55 : decode cX5_wish 55 = .ok (.invokevirtual 127, 3) := by decide +kernel
theorem dX5_wish_58 : decode cX5_wish 58 = .ok (.aload 5, 2) := by decide +kernel
theorem dX5_wish_60 : decode cX5_wish 60 = .ok (.getfield 73, 3) := by decide +kernel
theorem dX5_wish_63 : decode cX5_wish 63 = .ok (.ifCond .ne 13, 3) := by decide +kernel
theorem dX5_wish_66 : decode cX5_wish 66 = .ok (.aload_n 0, 1) := by decide +kernel
theorem dX5_wish_67 : decode cX5_wish 67 = .ok (.getfield 22, 3) := by decide +kernel
theorem dX5_wish_70 : decode cX5_wish 70 = .ok (.invokevirtual 148, 3) := by decide +kernel
theorem dX5_wish_73 : decode cX5_wish 73 = .ok (.ifCond .ne 7, 3) := by decide +kernel
theorem dX5_wish_76 : decode cX5_wish 76 = .ok (.ldc2_w 111, 3) := by decide +kernel
theorem dX5_wish_79 : decode cX5_wish 79 = .ok (.lreturn, 1) := by decide +kernel
theorem dX5_wish_80 : decode cX5_wish 80 = .ok (.aload_n 0, 1) := by decide +kernel
theorem dX5_wish_81 : decode cX5_wish 81 = .ok (.getfield 22, 3) := by decide +kernel
theorem dX5_wish_84 : decode cX5_wish 84 = .ok (.iload_n 2, 1) := by decide +kernel
theorem dX5_wish_85 : decode cX5_wish 85 = .ok (.i2l, 1) := by decide +kernel
theorem dX5_wish_86 : decode cX5_wish 86 = .ok (.iload_n 3, 1) := by decide +kernel
theorem dX5_wish_87 : decode cX5_wish 87 = .ok (.i2l, 1) := by decide +kernel
theorem dX5_wish_88 : decode cX5_wish 88 = .ok (.iload 4, 2) := by decide +kernel
theorem dX5_wish_90 : decode cX5_wish 90 = .ok (.i2l, 1) := by decide +kernel
theorem dX5_wish_91 : decode cX5_wish 91 = .ok (.invokevirtual 151, 3) := by decide +kernel
theorem dX5_wish_94 : decode cX5_wish 94 = .ok (.aload_n 0, 1) := by decide +kernel
theorem dX5_wish_95 : decode cX5_wish 95 = .ok (.getfield 22, 3) := by decide +kernel
theorem dX5_wish_98 : decode cX5_wish 98 = .ok (.aload 5, 2) := by decide +kernel
theorem dX5_wish_100 : decode cX5_wish 100 = .ok (.invokevirtual 155, 3) := by decide +kernel
theorem dX5_wish_103 : decode cX5_wish 103 = .ok (.lreturn, 1) := by decide +kernel
theorem dX5_why_0 : decode cX5_why 0 = .ok (.iload_n 1, 1) := by decide +kernel
theorem dX5_why_1 : decode cX5_why 1 = .ok (.ifCond .ge 6, 3) := by decide +kernel
theorem dX5_why_4 : decode cX5_why 4 = .ok (.ldc 49, 2) := by decide +kernel
theorem dX5_why_6 : decode cX5_why 6 = .ok (.ireturn, 1) := by decide +kernel
theorem dX5_why_7 : decode cX5_why 7 = .ok (.iload_n 1, 1) := by decide +kernel
theorem dX5_why_8 : decode cX5_why 8 = .ok (.aload_n 0, 1) := by decide +kernel
theorem dX5_why_9 : decode cX5_why 9 = .ok (.getfield 10, 3) := by decide +kernel
theorem dX5_why_12 : decode cX5_why 12 = .ok (.getfield 159, 3) := by decide +kernel
theorem dX5_why_15 : decode cX5_why 15 = .ok (.if_icmp .ge 15, 3) := by decide +kernel
theorem dX5_why_18 : decode cX5_why 18 = .ok (.aload_n 0, 1) := by decide +kernel
theorem dX5_why_19 : decode cX5_why 19 = .ok (.getfield 10, 3) := by decide +kernel
theorem dX5_why_22 : decode cX5_why 22 = .ok (.getfield 162, 3) := by decide +kernel
theorem dX5_why_25 : decode cX5_why 25 = .ok (.iload_n 1, 1) := by decide +kernel
theorem dX5_why_26 : decode cX5_why 26 = .ok (.iaload, 1) := by decide +kernel
theorem dX5_why_27 : decode cX5_why 27 = .ok (.goto 5, 3) := by decide +kernel
theorem dX5_why_30 : decode cX5_why 30 = .ok (.ldc 126, 2) := by decide +kernel
theorem dX5_why_32 : decode cX5_why 32 = .ok (.ireturn, 1) := by decide +kernel
set_option maxRecDepth 20000 in
theorem ggX5_fullness_X4_fullPart : GoodIn wsX5_fullness wsX4_fullPart := goodIn_r _ [8, 9, 10, 11, 12, 13, 14, 31, 32, 33, 34, 35, 36] (by decide +kernel) (by decide +kernel)
set_option maxRecDepth 20000 in
theorem gX5_fullness_X4_fullPart : GoodIn wsX5_fullness (wsV RX5 165 RX4 yX4_fullPart wsX4_fullPart) := goodIn_app (goodIn_of _ (by decide +kernel)) ggX5_fullness_X4_fullPart
theorem dX5_fullness_0 : decode cX5_fullness 0 = .ok (.fconst 0, 1) := by decide +kernel
theorem dX5_fullness_1 : decode cX5_fullness 1 = .ok (.fstore_n 1, 1) := by decide +kernel
theorem dX5_fullness_2 : decode cX5_fullness 2 = .ok (.iconst 0, 1) := by decide +kernel
theorem dX5_fullness_3 : decode cX5_fullness 3 = .ok (.istore_n 2, 1) := by decide +kernel
theorem dX5_fullness_4 : decode cX5_fullness 4 = .ok (.iload_n 2, 1) := by decide +kernel
theorem dX5_fullness_5 : decode cX5_fullness 5 = .ok (.aload_n 0, 1) := by decide +kernel
theorem dX5_fullness_6 : decode cX5_fullness 6 = .ok (.getfield 10, 3) := by decide +kernel
theorem dX5_fullness_9 : decode cX5_fullness 9 = .ok (.getfield 50, 3) := by decide +kernel
theorem dX5_fullness_12 : decode cX5_fullness 12 = .ok (.if_icmp .ge 34, 3) := by decide +kernel
theorem dX5_fullness_15 : decode cX5_fullness 15 = .ok (.aload_n 0, 1) := by decide +kernel
theorem dX5_fullness_16 : decode cX5_fullness 16 = .ok (.getfield 10, 3) := by decide +kernel
theorem dX5_fullness_19 : decode cX5_fullness 19 = .ok (.getfield 59, 3) := by decide +kernel
theorem dX5_fullness_22 : decode cX5_fullness 22 = .ok (.iload_n 2, 1) := by decide +kernel
theorem dX5_fullness_23 : decode cX5_fullness 23 = .ok (.aaload, 1) := by decide +kernel
theorem dX5_fullness_24 : decode cX5_fullness 24 = .ok (.invokevirtual 165, 3) := by decide +kernel
theorem dX5_fullness_27 : decode cX5_fullness 27 = .ok (.fstore_n 3, 1) := by decide +kernel
theorem dX5_fullness_28 : decode cX5_fullness 28 = .ok (.fload_n 3, 1) := by decide +kernel
theorem dX5_fullness_29 : decode cX5_fullness 29 = .ok (.fload_n 1, 1) := by decide +kernel
theorem dX5_fullness_30 : decode cX5_fullness 30 = .ok (.fcmp .l, 1) := by decide +kernel
theorem dX5_fullness_31 : decode cX5_fullness 31 = .ok (.ifCond .le 7, 3) := by decide +kernel
theorem dX5_fullness_34 : decode cX5_fullness 34 = .ok (.fload_n 3, 1) := by decide +kernel
theorem dX5_fullness_35 : decode cX5_fullness 35 = .ok (.goto 4, 3) := by decide +kernel
theorem dX5_fullness_38 : decode cX5_fullness 38 = .ok (.fload_n 1, 1) := by decide +kernel
theorem dX5_fullness_39 : decode cX5_fullness 39 = .ok (.fstore_n 1, 1) := by decide +kernel
theorem dX5_fullness_40 : decode cX5_fullness 40 = .ok (.iinc 2 1, 3) := by decide +kernel
theorem dX5_fullness_43 : decode cX5_fullness 43 = .ok (.goto (-39), 3) := by decide +kernel
theorem dX5_fullness_46 : decode cX5_fullness 46 = .ok (.fload_n 1, 1) := by decide +kernel
theorem dX5_fullness_47 : decode cX5_fullness 47 = .ok (.freturn, 1) := by decide +kernel
set_option maxRecDepth 20000 in
theorem ggX5_arrives_X5_isWithin : GoodIn wsX5_arrives wsX5_isWithin := goodIn_r _ [10] (by decide +kernel) (by decide +kernel)
set_option maxRecDepth 20000 in
theorem gX5_arrives_X5_isWithin : GoodIn wsX5_arrives (va_wsS RX5 45 yX5_isWithin wsX5_isWithin) := goodIn_app (goodIn_of _ (by decide +kernel)) ggX5_arrives_X5_isWithin
set_option maxRecDepth 20000 in
theorem ggX5_arrives_X0_become : GoodIn wsX5_arrives wsX0_become := goodIn_r _ [15, 16, 17, 18, 19, 20, 21, 22, 23, 24, 25, 26, 27, 28, 29, 30, 31, 32, 33, 34, 35, 36, 37, 38, 39, 40, 41, 42, 196, 197, 198, 199, 200, 201, 202, 203, 204, 205, 206, 207, 208, 209, 210, 211, 212] (by decide +kernel) (by decide +kernel)
set_option maxRecDepth 20000 in
theorem gX5_arrives_X0_become : GoodIn wsX5_arrives (wsV RX5 169 RX0 yX0_become wsX0_become) := goodIn_app (goodIn_of _ (by decide +kernel)) ggX5_arrives_X0_become
set_option maxRecDepth 20000 in
theorem ggX5_arrives_X3_measure : GoodIn wsX5_arrives wsX3_measure := goodIn_r _ [47, 48, 49, 50, 51, 52, 53, 54, 55, 56, 57, 46, 58, 59, 60, 61, 62, 63, 9, 64, 213, 214, 215, 216, 196, 197, 198, 199, 200, 201, 202, 203, 204, 205, 206, 207, 208, 209, 210, 211, 212] (by decide +kernel) (by decide +kernel)
set_option maxRecDepth 20000 in
theorem gX5_arrives_X3_measure : GoodIn wsX5_arrives (wsV RX5 127 RX3 yX3_measure wsX3_measure) := goodIn_app (goodIn_of _ (by decide +kernel)) ggX5_arrives_X3_measure
set_option maxRecDepth 20000 in
theorem ggX5_arrives_X0_isOnTarget : GoodIn wsX5_arrives wsX0_isOnTarget := goodIn_r _ [68, 69, 70, 71, 72, 73, 74, 75, 14, 76, 22, 23, 77, 78, 79, 80, 24, 81, 9, 82, 83, 84, 85, 86, 196, 197, 198, 199, 200, 201, 202, 203, 204, 205, 206] (by decide +kernel) (by decide +kernel)
set_option maxRecDepth 20000 in
theorem gX5_arrives_X0_isOnTarget : GoodIn wsX5_arrives (wsV RX5 172 RX0 yX0_isOnTarget wsX0_isOnTarget) := goodIn_app (goodIn_of _ (by decide +kernel)) ggX5_arrives_X0_isOnTarget
set_option maxRecDepth 20000 in
theorem ggX5_arrives_X5_passOne : GoodIn wsX5_arrives wsX5_passOne := goodIn_r _ [90, 91, 5, 92, 93, 94, 95, 14, 96, 17, 22, 23, 97, 26, 81, 9, 82, 83, 84, 85, 86, 98, 99, 77, 78, 79, 80, 24, 100, 101, 102, 46, 103, 49, 50, 104, 105, 51, 106, 107, 108, 109, 53, 110, 111, 112, 113, 29, 30, 27, 28, 114, 115, 116, 117, 118, 119, 120, 121, 122, 123, 54, 124, 125, 126, 127, 128, 129, 52, 130, 131, 132, 133, 134, 135, 136, 137, 138, 34, 139, 40, 140, 141, 142, 143, 39, 38, 144, 145, 71, 146, 147, 148, 149, 150, 151, 152, 153, 154, 155, 156, 157, 158, 159, 160, 161, 162, 163, 164, 165, 166, 167, 168, 169, 170, 171, 172, 173, 174, 175, 176, 177, 63, 64, 178, 179, 180, 181, 25, 182, 183, 184, 185, 186, 187, 188, 189, 190, 196, 197, 198, 199, 200, 201, 202, 203, 204, 205, 206, 191, 192, 193, 194, 195, 207, 208, 209, 210, 211, 212, 213, 214, 215, 216, 217, 218] (by decide +kernel) (by decide +kernel)
set_option maxRecDepth 20000 in
theorem gX5_arrives_X5_passOne : GoodIn wsX5_arrives (wsV RX5 131 RX5 yX5_passOne wsX5_passOne) := goodIn_app (goodIn_of _ (by decide +kernel)) ggX5_arrives_X5_passOne
theorem dX5_arrives_0 : decode cX5_arrives 0 = .ok (.iload_n 1, 1) := by decide +kernel
theorem dX5_arrives_1 : decode cX5_arrives 1 = .ok (.iconst 0, 1) := by decide +kernel
theorem dX5_arrives_2 : decode cX5_arrives 2 = .ok (.ldc 44, 2) := by decide +kernel
theorem dX5_arrives_4 : decode cX5_arrives 4 = .ok (.invokestatic 45, 3) := by decide +kernel
theorem dX5_arrives_7 : decode cX5_arrives 7 = .ok (.ifCond .ne 6, 3) := by decide +kernel
theorem dX5_arrives_10 : decode cX5_arrives 10 = .ok (.ldc 49, 2) := by decide +kernel
theorem dX5_arrives_12 : decode cX5_arrives 12 = .ok (.ireturn, 1) := by decide +kernel
theorem dX5_arrives_13 : decode cX5_arrives 13 = .ok (.aload_n 0, 1) := by decide +kernel
theorem dX5_arrives_14 : decode cX5_arrives 14 = .ok (.getfield 16, 3) := by decide +kernel
theorem dX5_arrives_17 : decode cX5_arrives 17 = .ok (.aload_n 0, 1) := by decide +kernel
theorem dX5_arrives_18 : decode cX5_arrives 18 = .ok (.getfield 10, 3) := by decide +kernel
theorem dX5_arrives_21 : decode cX5_arrives 21 = .ok (.invokevirtual 169, 3) := by decide +kernel
theorem dX5_arrives_24 : decode cX5_arrives 24 = .ok (.aload_n 0, 1) := by decide +kernel
theorem dX5_arrives_25 : decode cX5_arrives 25 = .ok (.getfield 22, 3) := by decide +kernel
theorem dX5_arrives_28 : decode cX5_arrives 28 = .ok (.aload_n 0, 1) := by decide +kernel
theorem dX5_arrives_29 : decode cX5_arrives 29 = .ok (.getfield 16, 3) := by decide +kernel
theorem dX5_arrives_32 : decode cX5_arrives 32 = .ok (.ldc 126, 2) := by decide +kernel
theorem dX5_arrives_34 : decode cX5_arrives 34 = .ok (.invokevirtual 127, 3) := by decide +kernel
theorem dX5_arrives_37 : decode cX5_arrives 37 = .ok (.iconst 0, 1) := by decide +kernel
theorem dX5_arrives_38 : decode cX5_arrives 38 = .ok (.istore_n 2, 1) := by decide +kernel
theorem dX5_arrives_39 : decode cX5_arrives 39 = .ok (.iload_n 2, 1) := by decide +kernel
theorem dX5_arrives_40 : decode cX5_arrives 40 = .ok (.sipush 500, 3) := by decide +kernel
theorem dX5_arrives_43 : decode cX5_arrives 43 = .ok (.if_icmp .gt 30, 3) := by decide +kernel
theorem dX5_arrives_46 : decode cX5_arrives 46 = .ok (.aload_n 0, 1) := by decide +kernel
theorem dX5_arrives_47 : decode cX5_arrives 47 = .ok (.getfield 16, 3) := by decide +kernel
theorem dX5_arrives_50 : decode cX5_arrives 50 = .ok (.iload_n 1, 1) := by decide +kernel
theorem dX5_arrives_51 : decode cX5_arrives 51 = .ok (.invokevirtual 172, 3) := by decide +kernel
theorem dX5_arrives_54 : decode cX5_arrives 54 = .ok (.ifCond .eq 5, 3) := by decide +kernel
theorem dX5_arrives_57 : decode cX5_arrives 57 = .ok (.iload_n 2, 1) := by decide +kernel
theorem dX5_arrives_58 : decode cX5_arrives 58 = .ok (.ireturn, 1) := by decide +kernel
theorem dX5_arrives_59 : decode cX5_arrives 59 = .ok (.aload_n 0, 1) := by decide +kernel
theorem dX5_arrives_60 : decode cX5_arrives 60 = .ok (.aload_n 0, 1) := by decide +kernel
theorem dX5_arrives_61 : decode cX5_arrives 61 = .ok (.getfield 16, 3) := by decide +kernel
theorem dX5_arrives_64 : decode cX5_arrives 64 = .ok (.invokevirtual 131, 3) := by decide +kernel
theorem dX5_arrives_67 : decode cX5_arrives 67 = .ok (.iinc 2 1, 3) := by decide +kernel
theorem dX5_arrives_70 : decode cX5_arrives 70 = .ok (.goto (-31), 3) := by decide +kernel
theorem dX5_arrives_73 : decode cX5_arrives 73 = .ok (.ldc 126, 2) := by decide +kernel
theorem dX5_arrives_75 : decode cX5_arrives 75 = .ok (.ireturn, 1) := by decide +kernel
set_option maxRecDepth 20000 in
theorem ggX5_spare_X3_measure : GoodIn wsX5_spare wsX3_measure := goodIn_r _ [10, 11, 12, 13, 14, 15, 16, 17, 18, 19, 20, 9, 21, 22, 23, 24, 25, 26, 27, 28, 55, 56, 57, 58, 38, 39, 40, 41, 42, 43, 44, 45, 46, 47, 48, 49, 50, 51, 52, 53, 54] (by decide +kernel) (by decide +kernel)
set_option maxRecDepth 20000 in
theorem gX5_spare_X3_measure : GoodIn wsX5_spare (wsV RX5 127 RX3 yX3_measure wsX3_measure) := goodIn_app (goodIn_of _ (by decide +kernel)) ggX5_spare_X3_measure
set_option maxRecDepth 20000 in
theorem ggX5_spare_X3_spans : GoodIn wsX5_spare wsX3_spans := goodIn_r _ [32, 16, 55, 56, 57, 58] (by decide +kernel) (by decide +kernel)
set_option maxRecDepth 20000 in
theorem gX5_spare_X3_spans : GoodIn wsX5_spare (wsV RX5 148 RX3 yX3_spans wsX3_spans) := goodIn_app (goodIn_of _ (by decide +kernel)) ggX5_spare_X3_spans
theorem dX5_spare_0 : decode cX5_spare 0 = .ok (.iconst 0, 1) := by decide +kernel
theorem dX5_spare_1 : decode cX5_spare 1 = .ok (.istore_n 1, 1) := by decide +kernel
theorem dX5_spare_2 : decode cX5_spare 2 = .ok (.iconst 0, 1) := by decide +kernel
theorem dX5_spare_3 : decode cX5_spare 3 = .ok (.istore_n 2, 1) := by decide +kernel
theorem dX5_spare_4 : decode cX5_spare 4 = .ok (.iload_n 2, 1) := by decide +kernel
theorem dX5_spare_5 : decode cX5_spare 5 = .ok (.aload_n 0, 1) := by decide +kernel
theorem dX5_spare_6 : decode cX5_spare 6 = .ok (.getfield 10, 3) := by decide +kernel
theorem dX5_spare_9 : decode cX5_spare 9 = .ok (.getfield 50, 3) := by decide +kernel
theorem dX5_spare_12 : decode cX5_spare 12 = .ok (.if_icmp .ge 52, 3) := by decide +kernel
theorem dX5_spare_15 : decode cX5_spare 15 = .ok (.aload_n 0, 1) := by decide +kernel
theorem dX5_spare_16 : decode cX5_spare 16 = .ok (.getfield 22, 3) := by decide +kernel
theorem dX5_spare_19 : decode cX5_spare 19 = .ok (.aload_n 0, 1) := by decide +kernel
theorem dX5_spare_20 : decode cX5_spare 20 = .ok (.getfield 10, 3) := by decide +kernel
theorem dX5_spare_23 : decode cX5_spare 23 = .ok (.iload_n 2, 1) := by decide +kernel
theorem dX5_spare_24 : decode cX5_spare 24 = .ok (.invokevirtual 127, 3) := by decide +kernel
theorem dX5_spare_27 : decode cX5_spare 27 = .ok (.aload_n 0, 1) := by decide +kernel
theorem dX5_spare_28 : decode cX5_spare 28 = .ok (.getfield 10, 3) := by decide +kernel
theorem dX5_spare_31 : decode cX5_spare 31 = .ok (.getfield 59, 3) := by decide +kernel
theorem dX5_spare_34 : decode cX5_spare 34 = .ok (.iload_n 2, 1) := by decide +kernel
theorem dX5_spare_35 : decode cX5_spare 35 = .ok (.aaload, 1) := by decide +kernel
theorem dX5_spare_36 : decode cX5_spare 36 = .ok (.getfield 73, 3) := by decide +kernel
theorem dX5_spare_39 : decode cX5_spare 39 = .ok (.ifCond .ne 19, 3) := by decide +kernel
theorem dX5_spare_42 : decode cX5_spare 42 = .ok (.aload_n 0, 1) := by decide +kernel
theorem dX5_spare_43 : decode cX5_spare 43 = .ok (.getfield 22, 3) := by decide +kernel
theorem dX5_spare_46 : decode cX5_spare 46 = .ok (.invokevirtual 148, 3) := by decide +kernel
theorem dX5_spare_49 : decode cX5_spare 49 = .ok (.ifCond .eq 9, 3) := by decide +kernel
theorem dX5_spare_52 : decode cX5_spare 52 = .ok (.iload_n 1, 1) := by decide +kernel
theorem dX5_spare_53 : decode cX5_spare 53 = .ok (.iconst 1, 1) := by decide +kernel
theorem dX5_spare_54 : decode cX5_spare 54 = .ok (.iload_n 2, 1) := by decide +kernel
theorem dX5_spare_55 : decode cX5_spare 55 = .ok (.ishl, 1) := by decide +kernel
theorem dX5_spare_56 : decode cX5_spare 56 = .ok (.ior, 1) := by decide +kernel
theorem dX5_spare_57 : decode cX5_spare 57 = .ok (.istore_n 1, 1) := by decide +kernel
theorem dX5_spare_58 : decode cX5_spare 58 = .ok (.iinc 2 1, 3) := by decide +kernel
theorem dX5_spare_61 : decode cX5_spare 61 = .ok (.goto (-57), 3) := by decide +kernel
theorem dX5_spare_64 : decode cX5_spare 64 = .ok (.iload_n 1, 1) := by decide +kernel
theorem dX5_spare_65 : decode cX5_spare 65 = .ok (.ireturn, 1) := by decide +kernel
set_option maxRecDepth 20000 in
theorem ggX5_gravest_X5_isWithin : GoodIn wsX5_gravest wsX5_isWithin := goodIn_r _ [10] (by decide +kernel) (by decide +kernel)
set_option maxRecDepth 20000 in
theorem gX5_gravest_X5_isWithin : GoodIn wsX5_gravest (va_wsS RX5 45 yX5_isWithin wsX5_isWithin) := goodIn_app (goodIn_of _ (by decide +kernel)) ggX5_gravest_X5_isWithin
set_option maxRecDepth 20000 in
theorem ggX5_gravest_X5_offWithout : GoodIn wsX5_gravest wsX5_offWithout := goodIn_r _ [14, 15, 3, 5, 6, 16, 2, 17, 18, 19, 20, 21, 22, 23, 24, 25, 26, 27, 28, 29, 30, 31, 32, 33, 34, 35, 36, 37, 38, 39, 40, 41, 42, 43, 44, 45, 46, 47, 48, 49, 50, 51, 52, 53, 54, 55, 56, 57, 58, 59, 60, 61, 62, 63, 64, 65, 66, 67, 68, 69, 9, 70, 71, 72, 73, 74, 75, 76, 77, 78, 79, 80, 81, 82, 83, 84, 85, 86, 87, 88, 89, 90, 91, 92, 93, 94, 95, 96, 97, 98, 99, 100, 101, 102, 103, 104, 105, 106, 107, 108, 109, 110, 111, 112, 113, 114, 115, 116, 117, 118, 119, 120, 121, 122, 123, 124, 125, 126, 127, 128, 129, 130, 131, 132, 133, 134, 135, 136, 137, 138, 139, 140, 141, 142, 143, 144, 145, 146, 147, 148, 149, 150, 151, 152, 153, 154, 155, 156, 157, 158, 159, 160, 161, 162, 163, 164, 165, 166, 167, 168, 169, 170, 171, 172, 173, 174, 175, 176, 177, 178, 179, 180, 181, 182, 183, 184, 185, 186, 187, 188, 189, 190, 191, 192, 193, 194, 195, 196, 197, 198, 199, 200, 201, 202, 203, 204, 205, 206, 207, 208, 209, 210, 211, 212, 213, 214, 215, 216, 217, 218, 219, 220, 221, 222, 223, 224] (by decide +kernel) (by decide +kernel)
set_option maxRecDepth 20000 in
theorem gX5_gravest_X5_offWithout : GoodIn wsX5_gravest (wsV RX5 175 RX5 yX5_offWithout wsX5_offWithout) := goodIn_app (goodIn_of _ (by decide +kernel)) ggX5_gravest_X5_offWithout
theorem dX5_gravest_0 : decode cX5_gravest 0 = .ok (.iload_n 1, 1) := by decide +kernel
theorem dX5_gravest_1 : decode cX5_gravest 1 = .ok (.iconst 1, 1) := by decide +kernel
theorem dX5_gravest_2 : decode cX5_gravest 2 = .ok (.bipush 100, 2) := by decide +kernel
theorem dX5_gravest_4 : decode cX5_gravest 4 = .ok (.invokestatic 45, 3) := by decide +kernel
theorem dX5_gravest_7 : decode cX5_gravest 7 = .ok (.ifCond .ne 6, 3) := by decide +kernel
theorem dX5_gravest_10 : decode cX5_gravest 10 = .ok (.ldc 49, 2) := by decide +kernel
theorem dX5_gravest_12 : decode cX5_gravest 12 = .ok (.ireturn, 1) := by decide +kernel
theorem dX5_gravest_13 : decode cX5_gravest 13 = .ok (.ldc 126, 2) := by decide +kernel
theorem dX5_gravest_15 : decode cX5_gravest 15 = .ok (.istore_n 2, 1) := by decide +kernel
theorem dX5_gravest_16 : decode cX5_gravest 16 = .ok (.lconst 0, 1) := by decide +kernel
theorem dX5_gravest_17 : decode cX5_gravest 17 = .ok (.lstore_n 3, 1) := by decide +kernel
theorem dX5_gravest_18 : decode cX5_gravest 18 = .ok (.iconst 0, 1) := by decide +kernel
theorem dX5_gravest_19 : decode cX5_gravest 19 = .ok (.istore 5, 2) := by decide +kernel
theorem dX5_gravest_21 : decode cX5_gravest 21 = .ok (.iload 5, 2) := by decide +kernel
theorem dX5_gravest_23 : decode cX5_gravest 23 = .ok (.aload_n 0, 1) := by decide +kernel
theorem dX5_gravest_24 : decode cX5_gravest 24 = .ok (.getfield 10, 3) := by decide +kernel
theorem dX5_gravest_27 : decode cX5_gravest 27 = .ok (.getfield 50, 3) := by decide +kernel
theorem dX5_gravest_30 : decode cX5_gravest 30 = .ok (.if_icmp .ge 56, 3) := by decide +kernel
theorem dX5_gravest_33 : decode cX5_gravest 33 = .ok (.aload_n 0, 1) := by decide +kernel
theorem dX5_gravest_34 : decode cX5_gravest 34 = .ok (.getfield 10, 3) := by decide +kernel
theorem dX5_gravest_37 : decode cX5_gravest 37 = .ok (.getfield 59, 3) := by decide +kernel
theorem dX5_gravest_40 : decode cX5_gravest 40 = .ok (.iload 5, 2) := by decide +kernel
theorem dX5_gravest_42 : decode cX5_gravest 42 = .ok (.aaload, 1) := by decide +kernel
theorem dX5_gravest_43 : decode cX5_gravest 43 = .ok (.getfield 73, 3) := by decide +kernel
theorem dX5_gravest_46 : decode cX5_gravest 46 = .ok (.ifCond .eq 6, 3) := by decide +kernel
theorem dX5_gravest_49 : decode cX5_gravest 49 = .ok (.goto 31, 3) := by decide +kernel
theorem dX5_gravest_52 : decode cX5_gravest 52 = .ok (.aload_n 0, 1) := by decide +kernel
theorem dX5_gravest_53 : decode cX5_gravest 53 = .ok (.iload 5, 2) := by decide +kernel
theorem dX5_gravest_55 : decode cX5_gravest 55 = .ok (.iload_n 1, 1) := by decide +kernel
theorem dX5_gravest_56 : decode cX5_gravest 56 = .ok (.invokevirtual 175, 3) := by decide +kernel
theorem dX5_gravest_59 : decode cX5_gravest 59 = .ok (.lstore 6, 2) := by decide +kernel
theorem dX5_gravest_61 : decode cX5_gravest 61 = .ok (.iload_n 2, 1) := by decide +kernel
theorem dX5_gravest_62 : decode cX5_gravest 62 = .ok (.ldc 126, 2) := by decide +kernel
theorem dX5_gravest_64 : decode cX5_gravest 64 = .ok (.if_icmp .eq 10, 3) := by decide +kernel
theorem dX5_gravest_67 : decode cX5_gravest 67 = .ok (.lload 6, 2) := by decide +kernel
theorem dX5_gravest_69 : decode cX5_gravest 69 = .ok (.lload_n 3, 1) := by decide +kernel
theorem dX5_gravest_70 : decode cX5_gravest 70 = .ok (.lcmp, 1) := by decide +kernel
theorem dX5_gravest_71 : decode cX5_gravest 71 = .ok (.ifCond .le 9, 3) := by decide +kernel
theorem dX5_gravest_74 : decode cX5_gravest 74 = .ok (.iload 5, 2) := by decide +kernel
theorem dX5_gravest_76 : decode cX5_gravest 76 = .ok (.istore_n 2, 1) := by decide +kernel
theorem dX5_gravest_77 : decode cX5_gravest 77 = .ok (.lload 6, 2) := by decide +kernel
theorem dX5_gravest_79 : decode cX5_gravest 79 = .ok (.lstore_n 3, 1) := by decide +kernel
theorem dX5_gravest_80 : decode cX5_gravest 80 = .ok (.iinc 5 1, 3) := by decide +kernel
theorem dX5_gravest_83 : decode cX5_gravest 83 = .ok (.goto (-62), 3) := by decide +kernel
theorem dX5_gravest_86 : decode cX5_gravest 86 = .ok (.iload_n 2, 1) := by decide +kernel
theorem dX5_gravest_87 : decode cX5_gravest 87 = .ok (.ireturn, 1) := by decide +kernel
set_option maxRecDepth 20000 in
theorem ggX5_undo_X1_giveBack : GoodIn wsX5_undo wsX1_giveBack := goodIn_r _ [7, 8, 9, 10, 11, 12, 13, 14, 15, 16, 17, 18, 19, 20, 21, 22, 23, 24, 25, 26, 27, 28, 29, 30, 31, 32, 33, 34, 35, 36, 37, 38, 39, 40, 41, 42, 48, 49, 50, 51, 52, 53, 54, 55, 56, 57, 58, 59, 60, 61, 62, 63, 64, 65, 66] (by decide +kernel) (by decide +kernel)
set_option maxRecDepth 20000 in
theorem gX5_undo_X1_giveBack : GoodIn wsX5_undo (wsV RX5 178 RX1 yX1_giveBack wsX1_giveBack) := goodIn_app (goodIn_of _ (by decide +kernel)) ggX5_undo_X1_giveBack
theorem dX5_undo_0 : decode cX5_undo 0 = .ok (.aload_n 0, 1) := by decide +kernel
theorem dX5_undo_1 : decode cX5_undo 1 = .ok (.getfield 36, 3) := by decide +kernel
theorem dX5_undo_4 : decode cX5_undo 4 = .ok (.aload_n 0, 1) := by decide +kernel
theorem dX5_undo_5 : decode cX5_undo 5 = .ok (.getfield 10, 3) := by decide +kernel
theorem dX5_undo_8 : decode cX5_undo 8 = .ok (.invokevirtual 178, 3) := by decide +kernel
theorem dX5_undo_11 : decode cX5_undo 11 = .ok (.ireturn, 1) := by decide +kernel
set_option maxRecDepth 20000 in
theorem ggX5_fingerprint_X5_time : GoodIn wsX5_fingerprint wsX5_time := goodIn_r _ [9, 2, 10, 119, 120, 121, 122, 123, 124, 125, 126, 127, 128, 129, 130, 131, 132, 133, 134] (by decide +kernel) (by decide +kernel)
set_option maxRecDepth 20000 in
theorem gX5_fingerprint_X5_time : GoodIn wsX5_fingerprint (wsV RX5 184 RX5 yX5_time wsX5_time) := goodIn_app (goodIn_of _ (by decide +kernel)) ggX5_fingerprint_X5_time
set_option maxRecDepth 20000 in
theorem ggX5_fingerprint_X5_mixed : GoodIn wsX5_fingerprint wsX5_mixed := goodIn_r _ [13, 14] (by decide +kernel) (by decide +kernel)
set_option maxRecDepth 20000 in
theorem gX5_fingerprint_X5_mixed : GoodIn wsX5_fingerprint (va_wsS RX5 188 yX5_mixed wsX5_mixed) := goodIn_app (goodIn_of _ (by decide +kernel)) ggX5_fingerprint_X5_mixed
set_option maxRecDepth 20000 in
theorem ggX5_fingerprint_X5_setting : GoodIn wsX5_fingerprint wsX5_setting := goodIn_r _ [18, 2, 19, 20, 21, 22, 8, 23, 119, 120, 121, 122, 123, 124, 125, 126, 127, 128, 129, 130, 131, 132, 133, 134] (by decide +kernel) (by decide +kernel)
set_option maxRecDepth 20000 in
theorem gX5_fingerprint_X5_setting : GoodIn wsX5_fingerprint (wsV RX5 192 RX5 yX5_setting wsX5_setting) := goodIn_app (goodIn_of _ (by decide +kernel)) ggX5_fingerprint_X5_setting
set_option maxRecDepth 20000 in
theorem ggX5_fingerprint_X5_axis : GoodIn wsX5_fingerprint wsX5_axis := goodIn_r _ [27, 28, 2, 29, 30, 8, 31, 21, 22, 23, 32, 33, 34, 35, 36, 37, 38, 39, 40, 41, 42, 43, 44, 45, 46, 47, 48, 49, 50, 51, 52, 53, 54, 55, 56, 57, 58, 59, 60, 119, 120, 121, 122, 123, 124, 125, 126, 127, 128, 129, 130, 131, 132, 133, 134, 135, 136, 137, 138, 139, 140] (by decide +kernel) (by decide +kernel)
set_option maxRecDepth 20000 in
theorem gX5_fingerprint_X5_axis : GoodIn wsX5_fingerprint (wsV RX5 195 RX5 yX5_axis wsX5_axis) := goodIn_app (goodIn_of _ (by decide +kernel)) ggX5_fingerprint_X5_axis
set_option maxRecDepth 20000 in
theorem ggX5_fingerprint_X5_wheels : GoodIn wsX5_fingerprint wsX5_wheels := goodIn_r _ [64, 2, 3, 119, 120, 121, 122, 123, 124, 125, 126, 127, 128, 129, 130, 131, 132, 133, 134] (by decide +kernel) (by decide +kernel)
set_option maxRecDepth 20000 in
theorem gX5_fingerprint_X5_wheels : GoodIn wsX5_fingerprint (wsV RX5 198 RX5 yX5_wheels wsX5_wheels) := goodIn_app (goodIn_of _ (by decide +kernel)) ggX5_fingerprint_X5_wheels
set_option maxRecDepth 20000 in
theorem ggX5_fingerprint_X5_wheel : GoodIn wsX5_fingerprint wsX5_wheel := goodIn_r _ [68, 20, 2, 69, 70, 71, 72, 8, 73, 3, 21, 22, 23, 74, 75, 76, 77, 78, 79, 80, 81, 82, 83, 84, 119, 120, 121, 122, 123, 124, 125, 126, 127, 128, 129, 130, 131, 132, 133, 134, 135, 136, 137, 138, 139, 140] (by decide +kernel) (by decide +kernel)
set_option maxRecDepth 20000 in
theorem gX5_fingerprint_X5_wheel : GoodIn wsX5_fingerprint (wsV RX5 201 RX5 yX5_wheel wsX5_wheel) := goodIn_app (goodIn_of _ (by decide +kernel)) ggX5_fingerprint_X5_wheel
set_option maxRecDepth 20000 in
theorem ggX5_fingerprint_X5_span : GoodIn wsX5_fingerprint wsX5_span := goodIn_r _ [88, 89, 2, 90, 91, 92, 93, 94, 95, 96, 97, 98, 99, 100, 101, 102, 103, 104, 105, 106, 107, 108, 109, 110, 111, 112, 8, 113, 119, 120, 121, 122, 123, 141, 142, 143, 144, 124, 125, 126, 127, 128, 129, 130, 131, 132, 133, 134, 135, 136, 137, 138, 139, 140] (by decide +kernel) (by decide +kernel)
set_option maxRecDepth 20000 in
theorem gX5_fingerprint_X5_span : GoodIn wsX5_fingerprint (wsV RX5 205 RX5 yX5_span wsX5_span) := goodIn_app (goodIn_of _ (by decide +kernel)) ggX5_fingerprint_X5_span
set_option maxRecDepth 20000 in
theorem ggX5_fingerprint_X5_why : GoodIn wsX5_fingerprint wsX5_why := goodIn_r _ [117, 20, 2, 4, 118, 90, 119, 120, 121, 122, 123, 124, 125, 126, 127, 128, 129, 130, 131, 132, 133, 134] (by decide +kernel) (by decide +kernel)
set_option maxRecDepth 20000 in
theorem gX5_fingerprint_X5_why : GoodIn wsX5_fingerprint (wsV RX5 209 RX5 yX5_why wsX5_why) := goodIn_app (goodIn_of _ (by decide +kernel)) ggX5_fingerprint_X5_why
theorem dX5_fingerprint_0 : decode cX5_fingerprint 0 = .ok (.ldc2_w 182, 3) := by decide +kernel
theorem dX5_fingerprint_3 : decode cX5_fingerprint 3 = .ok (.aload_n 0, 1) := by decide +kernel
theorem dX5_fingerprint_4 : decode cX5_fingerprint 4 = .ok (.invokevirtual 184, 3) := by decide +kernel
theorem dX5_fingerprint_7 : decode cX5_fingerprint 7 = .ok (.i2l, 1) := by decide +kernel
theorem dX5_fingerprint_8 : decode cX5_fingerprint 8 = .ok (.invokestatic 188, 3) := by decide +kernel
theorem dX5_fingerprint_11 : decode cX5_fingerprint 11 = .ok (.lstore_n 1, 1) := by decide +kernel
theorem dX5_fingerprint_12 : decode cX5_fingerprint 12 = .ok (.iconst 0, 1) := by decide +kernel
theorem dX5_fingerprint_13 : decode cX5_fingerprint 13 = .ok (.istore_n 3, 1) := by decide +kernel
theorem dX5_fingerprint_14 : decode cX5_fingerprint 14 = .ok (.iload_n 3, 1) := by decide +kernel
theorem dX5_fingerprint_15 : decode cX5_fingerprint 15 = .ok (.iconst 5, 1) := by decide +kernel
theorem dX5_fingerprint_16 : decode cX5_fingerprint 16 = .ok (.if_icmp .ge 20, 3) := by decide +kernel
theorem dX5_fingerprint_19 : decode cX5_fingerprint 19 = .ok (.lload_n 1, 1) := by decide +kernel
theorem dX5_fingerprint_20 : decode cX5_fingerprint 20 = .ok (.aload_n 0, 1) := by decide +kernel
theorem dX5_fingerprint_21 : decode cX5_fingerprint 21 = .ok (.iload_n 3, 1) := by decide +kernel
theorem dX5_fingerprint_22 : decode cX5_fingerprint 22 = .ok (.invokevirtual 192, 3) := by decide +kernel
theorem dX5_fingerprint_25 : decode cX5_fingerprint 25 = .ok (.i2l, 1) := by decide +kernel
theorem dX5_fingerprint_26 : decode cX5_fingerprint 26 = .ok (.invokestatic 188, 3) := by decide +kernel
theorem dX5_fingerprint_29 : decode cX5_fingerprint 29 = .ok (.lstore_n 1, 1) := by decide +kernel
theorem dX5_fingerprint_30 : decode cX5_fingerprint 30 = .ok (.iinc 3 1, 3) := by decide +kernel
theorem dX5_fingerprint_33 : decode cX5_fingerprint 33 = .ok (.goto (-19), 3) := by decide +kernel
theorem dX5_fingerprint_36 : decode cX5_fingerprint 36 = .ok (.iconst 0, 1) := by decide +kernel
theorem dX5_fingerprint_37 : decode cX5_fingerprint 37 = .ok (.istore_n 3, 1) := by decide +kernel
theorem dX5_fingerprint_38 : decode cX5_fingerprint 38 = .ok (.iload_n 3, 1) := by decide +kernel
theorem dX5_fingerprint_39 : decode cX5_fingerprint 39 = .ok (.iconst 3, 1) := by decide +kernel
theorem dX5_fingerprint_40 : decode cX5_fingerprint 40 = .ok (.if_icmp .ge 37, 3) := by decide +kernel
theorem dX5_fingerprint_43 : decode cX5_fingerprint 43 = .ok (.iconst 0, 1) := by decide +kernel
theorem dX5_fingerprint_44 : decode cX5_fingerprint 44 = .ok (.istore 4, 2) := by decide +kernel
theorem dX5_fingerprint_46 : decode cX5_fingerprint 46 = .ok (.iload 4, 2) := by decide +kernel
theorem dX5_fingerprint_48 : decode cX5_fingerprint 48 = .ok (.bipush 10, 2) := by decide +kernel
theorem dX5_fingerprint_50 : decode cX5_fingerprint 50 = .ok (.if_icmp .ge 21, 3) := by decide +kernel
theorem dX5_fingerprint_53 : decode cX5_fingerprint 53 = .ok (.lload_n 1, 1) := by decide +kernel
theorem dX5_fingerprint_54 : decode cX5_fingerprint 54 = .ok (.aload_n 0, 1) := by decide +kernel
theorem dX5_fingerprint_55 : decode cX5_fingerprint 55 = .ok (.iload_n 3, 1) := by decide +kernel
theorem dX5_fingerprint_56 : decode cX5_fingerprint 56 = .ok (.iload 4, 2) := by decide +kernel
theorem dX5_fingerprint_58 : decode cX5_fingerprint 58 = .ok (.invokevirtual 195, 3) := by decide +kernel
theorem dX5_fingerprint_61 : decode cX5_fingerprint 61 = .ok (.invokestatic 188, 3) := by decide +kernel
theorem dX5_fingerprint_64 : decode cX5_fingerprint 64 = .ok (.lstore_n 1, 1) := by decide +kernel
theorem dX5_fingerprint_65 : decode cX5_fingerprint 65 = .ok (.iinc 4 1, 3) := by decide +kernel
theorem dX5_fingerprint_68 : decode cX5_fingerprint 68 = .ok (.goto (-22), 3) := by decide +kernel
theorem dX5_fingerprint_71 : decode cX5_fingerprint 71 = .ok (.iinc 3 1, 3) := by decide +kernel
theorem dX5_fingerprint_74 : decode cX5_fingerprint 74 = .ok (.goto (-36), 3) := by decide +kernel
theorem dX5_fingerprint_77 : decode cX5_fingerprint 77 = .ok (.lload_n 1, 1) := by decide +kernel
theorem dX5_fingerprint_78 : decode cX5_fingerprint 78 = .ok (.aload_n 0, 1) := by decide +kernel
theorem dX5_fingerprint_79 : decode cX5_fingerprint 79 = .ok (.invokevirtual 198, 3) := by decide +kernel
theorem dX5_fingerprint_82 : decode cX5_fingerprint 82 = .ok (.i2l, 1) := by decide +kernel
theorem dX5_fingerprint_83 : decode cX5_fingerprint 83 = .ok (.invokestatic 188, 3) := by decide +kernel
theorem dX5_fingerprint_86 : decode cX5_fingerprint 86 = .ok (.lstore_n 1, 1) := by decide +kernel
theorem dX5_fingerprint_87 : decode cX5_fingerprint 87 = .ok (.iconst 0, 1) := by decide +kernel
theorem dX5_fingerprint_88 : decode cX5_fingerprint 88 = .ok (.istore_n 3, 1) := by decide +kernel
theorem dX5_fingerprint_89 : decode cX5_fingerprint 89 = .ok (.iload_n 3, 1) := by decide +kernel
theorem dX5_fingerprint_90 : decode cX5_fingerprint 90 = .ok (.aload_n 0, 1) := by decide +kernel
theorem dX5_fingerprint_91 : decode cX5_fingerprint 91 = .ok (.getfield 10, 3) := by decide +kernel
theorem dX5_fingerprint_94 : decode cX5_fingerprint 94 = .ok (.getfield 50, 3) := by decide +kernel
theorem dX5_fingerprint_97 : decode cX5_fingerprint 97 = .ok (.if_icmp .ge 38, 3) := by decide +kernel
theorem dX5_fingerprint_100 : decode cX5_fingerprint 100 = .ok (.iconst 0, 1) := by decide +kernel
theorem dX5_fingerprint_101 : decode cX5_fingerprint 101 = .ok (.istore 4, 2) := by decide +kernel
theorem dX5_fingerprint_103 : decode cX5_fingerprint 103 = .ok (.iload 4, 2) := by decide +kernel
theorem dX5_fingerprint_105 : decode cX5_fingerprint 105 = .ok (.bipush 8, 2) := by decide +kernel
theorem dX5_fingerprint_107 : decode cX5_fingerprint 107 = .ok (.if_icmp .ge 22, 3) := by decide +kernel
theorem dX5_fingerprint_110 : decode cX5_fingerprint 110 = .ok (.lload_n 1, 1) := by decide +kernel
theorem dX5_fingerprint_111 : decode cX5_fingerprint 111 = .ok (.aload_n 0, 1) := by decide +kernel
theorem dX5_fingerprint_112 : decode cX5_fingerprint 112 = .ok (.iload_n 3, 1) := by decide +kernel
theorem dX5_fingerprint_113 : decode cX5_fingerprint 113 = .ok (.iload 4, 2) := by decide +kernel
theorem dX5_fingerprint_115 : decode cX5_fingerprint 115 = .ok (.invokevirtual 201, 3) := by decide +kernel
theorem dX5_fingerprint_118 : decode cX5_fingerprint 118 = .ok (.i2l, 1) := by decide +kernel
theorem dX5_fingerprint_119 : decode cX5_fingerprint 119 = .ok (.invokestatic 188, 3) := by decide +kernel
theorem dX5_fingerprint_122 : decode cX5_fingerprint 122 = .ok (.lstore_n 1, 1) := by decide +kernel
theorem dX5_fingerprint_123 : decode cX5_fingerprint 123 = .ok (.iinc 4 1, 3) := by decide +kernel
theorem dX5_fingerprint_126 : decode cX5_fingerprint 126 = .ok (.goto (-23), 3) := by decide +kernel
theorem dX5_fingerprint_129 : decode cX5_fingerprint 129 = .ok (.iinc 3 1, 3) := by decide +kernel
theorem dX5_fingerprint_132 : decode cX5_fingerprint 132 = .ok (.goto (-43), 3) := by decide +kernel
theorem dX5_fingerprint_135 : decode cX5_fingerprint 135 = .ok (.lload_n 1, 1) := by decide +kernel
theorem dX5_fingerprint_136 : decode cX5_fingerprint 136 = .ok (.aload_n 0, 1) := by decide +kernel
theorem dX5_fingerprint_137 : decode cX5_fingerprint 137 = .ok (.invokevirtual 205, 3) := by decide +kernel
theorem dX5_fingerprint_140 : decode cX5_fingerprint 140 = .ok (.invokestatic 188, 3) := by decide +kernel
theorem dX5_fingerprint_143 : decode cX5_fingerprint 143 = .ok (.lstore_n 1, 1) := by decide +kernel
theorem dX5_fingerprint_144 : decode cX5_fingerprint 144 = .ok (.iconst 0, 1) := by decide +kernel
theorem dX5_fingerprint_145 : decode cX5_fingerprint 145 = .ok (.istore_n 3, 1) := by decide +kernel
theorem dX5_fingerprint_146 : decode cX5_fingerprint 146 = .ok (.iload_n 3, 1) := by decide +kernel
theorem dX5_fingerprint_147 : decode cX5_fingerprint 147 = .ok (.aload_n 0, 1) := by decide +kernel
theorem dX5_fingerprint_148 : decode cX5_fingerprint 148 = .ok (.getfield 10, 3) := by decide +kernel
theorem dX5_fingerprint_151 : decode cX5_fingerprint 151 = .ok (.getfield 159, 3) := by decide +kernel
theorem dX5_fingerprint_154 : decode cX5_fingerprint 154 = .ok (.if_icmp .ge 20, 3) := by decide +kernel
theorem dX5_fingerprint_157 : decode cX5_fingerprint 157 = .ok (.lload_n 1, 1) := by decide +kernel
theorem dX5_fingerprint_158 : decode cX5_fingerprint 158 = .ok (.aload_n 0, 1) := by decide +kernel
theorem dX5_fingerprint_159 : decode cX5_fingerprint 159 = .ok (.iload_n 3, 1) := by decide +kernel
theorem dX5_fingerprint_160 : decode cX5_fingerprint 160 = .ok (.invokevirtual 209, 3) := by decide +kernel
theorem dX5_fingerprint_163 : decode cX5_fingerprint 163 = .ok (.i2l, 1) := by decide +kernel
theorem dX5_fingerprint_164 : decode cX5_fingerprint 164 = .ok (.invokestatic 188, 3) := by decide +kernel
theorem dX5_fingerprint_167 : decode cX5_fingerprint 167 = .ok (.lstore_n 1, 1) := by decide +kernel
theorem dX5_fingerprint_168 : decode cX5_fingerprint 168 = .ok (.iinc 3 1, 3) := by decide +kernel
theorem dX5_fingerprint_171 : decode cX5_fingerprint 171 = .ok (.goto (-25), 3) := by decide +kernel
theorem dX5_fingerprint_174 : decode cX5_fingerprint 174 = .ok (.lload_n 1, 1) := by decide +kernel
theorem dX5_fingerprint_175 : decode cX5_fingerprint 175 = .ok (.lreturn, 1) := by decide +kernel
theorem dX5_mixed_0 : decode cX5_mixed 0 = .ok (.ldc2_w 212, 3) := by decide +kernel
theorem dX5_mixed_3 : decode cX5_mixed 3 = .ok (.lload_n 0, 1) := by decide +kernel
theorem dX5_mixed_4 : decode cX5_mixed 4 = .ok (.lmul, 1) := by decide +kernel
theorem dX5_mixed_5 : decode cX5_mixed 5 = .ok (.lload_n 2, 1) := by decide +kernel
theorem dX5_mixed_6 : decode cX5_mixed 6 = .ok (.ladd, 1) := by decide +kernel
theorem dX5_mixed_7 : decode cX5_mixed 7 = .ok (.lreturn, 1) := by decide +kernel
theorem dX5_isWithin_0 : decode cX5_isWithin 0 = .ok (.iload_n 0, 1) := by decide +kernel
theorem dX5_isWithin_1 : decode cX5_isWithin 1 = .ok (.iload_n 1, 1) := by decide +kernel
theorem dX5_isWithin_2 : decode cX5_isWithin 2 = .ok (.if_icmp .lt 12, 3) := by decide +kernel
theorem dX5_isWithin_5 : decode cX5_isWithin 5 = .ok (.iload_n 0, 1) := by decide +kernel
theorem dX5_isWithin_6 : decode cX5_isWithin 6 = .ok (.iload_n 2, 1) := by decide +kernel
theorem dX5_isWithin_7 : decode cX5_isWithin 7 = .ok (.if_icmp .gt 7, 3) := by decide +kernel
theorem dX5_isWithin_10 : decode cX5_isWithin 10 = .ok (.iconst 1, 1) := by decide +kernel
theorem dX5_isWithin_11 : decode cX5_isWithin 11 = .ok (.goto 4, 3) := by decide +kernel
theorem dX5_isWithin_14 : decode cX5_isWithin 14 = .ok (.iconst 0, 1) := by decide +kernel
theorem dX5_isWithin_15 : decode cX5_isWithin 15 = .ok (.ireturn, 1) := by decide +kernel
set_option maxRecDepth 20000 in
theorem ggX5_isAxis_X5_isWithin : GoodIn wsX5_isAxis wsX5_isWithin := goodIn_r _ [4] (by decide +kernel) (by decide +kernel)
set_option maxRecDepth 20000 in
theorem gX5_isAxis_X5_isWithin : GoodIn wsX5_isAxis (va_wsS RX5 45 yX5_isWithin wsX5_isWithin) := goodIn_app (goodIn_of _ (by decide +kernel)) ggX5_isAxis_X5_isWithin
theorem dX5_isAxis_0 : decode cX5_isAxis 0 = .ok (.iload_n 0, 1) := by decide +kernel
theorem dX5_isAxis_1 : decode cX5_isAxis 1 = .ok (.iconst 0, 1) := by decide +kernel
theorem dX5_isAxis_2 : decode cX5_isAxis 2 = .ok (.iconst 2, 1) := by decide +kernel
theorem dX5_isAxis_3 : decode cX5_isAxis 3 = .ok (.invokestatic 45, 3) := by decide +kernel
theorem dX5_isAxis_6 : decode cX5_isAxis 6 = .ok (.ireturn, 1) := by decide +kernel
set_option maxRecDepth 20000 in
theorem ggX5_isTorque_X5_isWithin : GoodIn wsX5_isTorque wsX5_isWithin := goodIn_r _ [6] (by decide +kernel) (by decide +kernel)
set_option maxRecDepth 20000 in
theorem gX5_isTorque_X5_isWithin : GoodIn wsX5_isTorque (va_wsS RX5 45 yX5_isWithin wsX5_isWithin) := goodIn_app (goodIn_of _ (by decide +kernel)) ggX5_isTorque_X5_isWithin
theorem dX5_isTorque_0 : decode cX5_isTorque 0 = .ok (.iload_n 0, 1) := by decide +kernel
theorem dX5_isTorque_1 : decode cX5_isTorque 1 = .ok (.ldc 110, 2) := by decide +kernel
theorem dX5_isTorque_3 : decode cX5_isTorque 3 = .ok (.ldc 48, 2) := by decide +kernel
theorem dX5_isTorque_5 : decode cX5_isTorque 5 = .ok (.invokestatic 45, 3) := by decide +kernel
theorem dX5_isTorque_8 : decode cX5_isTorque 8 = .ok (.ireturn, 1) := by decide +kernel
set_option maxRecDepth 20000 in
theorem ggX5_isDirection_X5_isWithin : GoodIn wsX5_isDirection wsX5_isWithin := goodIn_r _ [4] (by decide +kernel) (by decide +kernel)
set_option maxRecDepth 20000 in
theorem gX5_isDirection_X5_isWithin : GoodIn wsX5_isDirection (va_wsS RX5 45 yX5_isWithin wsX5_isWithin) := goodIn_app (goodIn_of _ (by decide +kernel)) ggX5_isDirection_X5_isWithin
theorem dX5_isDirection_0 : decode cX5_isDirection 0 = .ok (.iload_n 0, 1) := by decide +kernel
theorem dX5_isDirection_1 : decode cX5_isDirection 1 = .ok (.bipush (-9), 2) := by decide +kernel
theorem dX5_isDirection_3 : decode cX5_isDirection 3 = .ok (.bipush 9, 2) := by decide +kernel
theorem dX5_isDirection_5 : decode cX5_isDirection 5 = .ok (.invokestatic 45, 3) := by decide +kernel
theorem dX5_isDirection_8 : decode cX5_isDirection 8 = .ok (.ifCond .eq 41, 3) := by decide +kernel
theorem dX5_isDirection_11 : decode cX5_isDirection 11 = .ok (.iload_n 1, 1) := by decide +kernel
theorem dX5_isDirection_12 : decode cX5_isDirection 12 = .ok (.bipush (-9), 2) := by decide +kernel
theorem dX5_isDirection_14 : decode cX5_isDirection 14 = .ok (.bipush 9, 2) := by decide +kernel
theorem dX5_isDirection_16 : decode cX5_isDirection 16 = .ok (.invokestatic 45, 3) := by decide +kernel
theorem dX5_isDirection_19 : decode cX5_isDirection 19 = .ok (.ifCond .eq 30, 3) := by decide +kernel
theorem dX5_isDirection_22 : decode cX5_isDirection 22 = .ok (.iload_n 2, 1) := by decide +kernel
theorem dX5_isDirection_23 : decode cX5_isDirection 23 = .ok (.bipush (-9), 2) := by decide +kernel
theorem dX5_isDirection_25 : decode cX5_isDirection 25 = .ok (.bipush 9, 2) := by decide +kernel
theorem dX5_isDirection_27 : decode cX5_isDirection 27 = .ok (.invokestatic 45, 3) := by decide +kernel
theorem dX5_isDirection_30 : decode cX5_isDirection 30 = .ok (.ifCond .eq 19, 3) := by decide +kernel
theorem dX5_isDirection_33 : decode cX5_isDirection 33 = .ok (.iload_n 0, 1) := by decide +kernel
theorem dX5_isDirection_34 : decode cX5_isDirection 34 = .ok (.ifCond .ne 11, 3) := by decide +kernel
theorem dX5_isDirection_37 : decode cX5_isDirection 37 = .ok (.iload_n 1, 1) := by decide +kernel
theorem dX5_isDirection_38 : decode cX5_isDirection 38 = .ok (.ifCond .ne 7, 3) := by decide +kernel
theorem dX5_isDirection_41 : decode cX5_isDirection 41 = .ok (.iload_n 2, 1) := by decide +kernel
theorem dX5_isDirection_42 : decode cX5_isDirection 42 = .ok (.ifCond .eq 7, 3) := by decide +kernel
theorem dX5_isDirection_45 : decode cX5_isDirection 45 = .ok (.iconst 1, 1) := by decide +kernel
theorem dX5_isDirection_46 : decode cX5_isDirection 46 = .ok (.goto 4, 3) := by decide +kernel
theorem dX5_isDirection_49 : decode cX5_isDirection 49 = .ok (.iconst 0, 1) := by decide +kernel
theorem dX5_isDirection_50 : decode cX5_isDirection 50 = .ok (.ireturn, 1) := by decide +kernel
set_option maxRecDepth 20000 in
theorem ggX5_isWheel_X5_isWithin : GoodIn wsX5_isWheel wsX5_isWithin := goodIn_r _ [6] (by decide +kernel) (by decide +kernel)
set_option maxRecDepth 20000 in
theorem gX5_isWheel_X5_isWithin : GoodIn wsX5_isWheel (va_wsS RX5 45 yX5_isWithin wsX5_isWithin) := goodIn_app (goodIn_of _ (by decide +kernel)) ggX5_isWheel_X5_isWithin
theorem dX5_isWheel_0 : decode cX5_isWheel 0 = .ok (.iload_n 1, 1) := by decide +kernel
theorem dX5_isWheel_1 : decode cX5_isWheel 1 = .ok (.iconst 0, 1) := by decide +kernel
theorem dX5_isWheel_2 : decode cX5_isWheel 2 = .ok (.aload_n 0, 1) := by decide +kernel
theorem dX5_isWheel_3 : decode cX5_isWheel 3 = .ok (.getfield 10, 3) := by decide +kernel
theorem dX5_isWheel_6 : decode cX5_isWheel 6 = .ok (.getfield 50, 3) := by decide +kernel
theorem dX5_isWheel_9 : decode cX5_isWheel 9 = .ok (.iconst 1, 1) := by decide +kernel
theorem dX5_isWheel_10 : decode cX5_isWheel 10 = .ok (.isub, 1) := by decide +kernel
theorem dX5_isWheel_11 : decode cX5_isWheel 11 = .ok (.invokestatic 45, 3) := by decide +kernel
theorem dX5_isWheel_14 : decode cX5_isWheel 14 = .ok (.ireturn, 1) := by decide +kernel
theorem dX5_limited_0 : decode cX5_limited 0 = .ok (.lload_n 0, 1) := by decide +kernel
theorem dX5_limited_1 : decode cX5_limited 1 = .ok (.lload_n 2, 1) := by decide +kernel
theorem dX5_limited_2 : decode cX5_limited 2 = .ok (.lcmp, 1) := by decide +kernel
theorem dX5_limited_3 : decode cX5_limited 3 = .ok (.ifCond .ge 5, 3) := by decide +kernel
theorem dX5_limited_6 : decode cX5_limited 6 = .ok (.lload_n 2, 1) := by decide +kernel
theorem dX5_limited_7 : decode cX5_limited 7 = .ok (.lreturn, 1) := by decide +kernel
theorem dX5_limited_8 : decode cX5_limited 8 = .ok (.lload_n 0, 1) := by decide +kernel
theorem dX5_limited_9 : decode cX5_limited 9 = .ok (.lload 4, 2) := by decide +kernel
theorem dX5_limited_11 : decode cX5_limited 11 = .ok (.lcmp, 1) := by decide +kernel
theorem dX5_limited_12 : decode cX5_limited 12 = .ok (.ifCond .le 8, 3) := by decide +kernel
theorem dX5_limited_15 : decode cX5_limited 15 = .ok (.lload 4, 2) := by decide +kernel
theorem dX5_limited_17 : decode cX5_limited 17 = .ok (.goto 4, 3) := by decide +kernel
theorem dX5_limited_20 : decode cX5_limited 20 = .ok (.lload_n 0, 1) := by decide +kernel
theorem dX5_limited_21 : decode cX5_limited 21 = .ok (.lreturn, 1) := by decide +kernel
set_option maxRecDepth 20000 in
theorem ggX5_quotient_J9_floorDiv_f86c9 : GoodIn wsX5_quotient wsJ9_floorDiv_f86c9 := goodIn_r _ [4] (by decide +kernel) (by decide +kernel)
set_option maxRecDepth 20000 in
theorem gX5_quotient_J9_floorDiv_f86c9 : GoodIn wsX5_quotient (va_wsS RX5 214 yJ9_floorDiv_f86c9 wsJ9_floorDiv_f86c9) := goodIn_app (goodIn_of _ (by decide +kernel)) ggX5_quotient_J9_floorDiv_f86c9
theorem dX5_quotient_0 : decode cX5_quotient 0 = .ok (.lload_n 2, 1) := by decide +kernel
theorem dX5_quotient_1 : decode cX5_quotient 1 = .ok (.lconst 0, 1) := by decide +kernel
theorem dX5_quotient_2 : decode cX5_quotient 2 = .ok (.lcmp, 1) := by decide +kernel
theorem dX5_quotient_3 : decode cX5_quotient 3 = .ok (.ifCond .le 11, 3) := by decide +kernel
theorem dX5_quotient_6 : decode cX5_quotient 6 = .ok (.lload_n 0, 1) := by decide +kernel
theorem dX5_quotient_7 : decode cX5_quotient 7 = .ok (.lload_n 2, 1) := by decide +kernel
theorem dX5_quotient_8 : decode cX5_quotient 8 = .ok (.invokestatic 214, 3) := by decide +kernel
theorem dX5_quotient_11 : decode cX5_quotient 11 = .ok (.goto 4, 3) := by decide +kernel
theorem dX5_quotient_14 : decode cX5_quotient 14 = .ok (.lconst 0, 1) := by decide +kernel
theorem dX5_quotient_15 : decode cX5_quotient 15 = .ok (.lreturn, 1) := by decide +kernel
theorem dX5_axisAfter_0 : decode cX5_axisAfter 0 = .ok (.iload_n 0, 1) := by decide +kernel
theorem dX5_axisAfter_1 : decode cX5_axisAfter 1 = .ok (.iload_n 1, 1) := by decide +kernel
theorem dX5_axisAfter_2 : decode cX5_axisAfter 2 = .ok (.iadd, 1) := by decide +kernel
theorem dX5_axisAfter_3 : decode cX5_axisAfter 3 = .ok (.iconst 3, 1) := by decide +kernel
theorem dX5_axisAfter_4 : decode cX5_axisAfter 4 = .ok (.irem, 1) := by decide +kernel
theorem dX5_axisAfter_5 : decode cX5_axisAfter 5 = .ok (.ireturn, 1) := by decide +kernel
set_option maxRecDepth 20000 in
theorem ggX5_passOne_X0_findWish : GoodIn wsX5_passOne wsX0_findWish := goodIn_r _ [8, 9, 10, 11, 12, 13, 14, 15, 16, 17, 18, 19, 20, 21, 22, 23, 24, 25, 7, 26, 27, 138, 139, 140, 141, 142, 143, 144, 145, 146, 147, 148] (by decide +kernel) (by decide +kernel)
set_option maxRecDepth 20000 in
theorem gX5_passOne_X0_findWish : GoodIn wsX5_passOne (wsV RX5 219 RX0 yX0_findWish wsX0_findWish) := goodIn_app (goodIn_of _ (by decide +kernel)) ggX5_passOne_X0_findWish
set_option maxRecDepth 20000 in
theorem ggX5_passOne_X3_share : GoodIn wsX5_passOne wsX3_share := goodIn_r _ [32, 33, 34, 35, 36, 37, 38, 39, 40, 31, 41, 42, 43, 44, 45, 7, 46, 47, 48, 49, 50, 51, 52, 53, 54, 55, 56, 57, 58, 59, 60, 61, 62, 63, 64, 65, 66, 67, 68, 69, 70, 71, 72, 73, 74, 18, 19, 20, 75, 76, 77, 78, 79, 80, 21, 15, 22, 81, 82, 83, 84, 85, 86, 87, 88, 89, 90, 91, 92, 93, 94, 95, 96, 97, 98, 99, 100, 101, 138, 139, 140, 141, 142, 143, 144, 145, 146, 147, 148, 154, 155, 156, 157, 158, 159, 160, 161, 162, 163] (by decide +kernel) (by decide +kernel)
set_option maxRecDepth 20000 in
theorem gX5_passOne_X3_share : GoodIn wsX5_passOne (wsV RX5 222 RX3 yX3_share wsX3_share) := goodIn_app (goodIn_of _ (by decide +kernel)) ggX5_passOne_X3_share
set_option maxRecDepth 20000 in
theorem ggX5_passOne_X2_letGo : GoodIn wsX5_passOne wsX2_letGo := goodIn_r _ [106, 107, 108, 109, 110, 111, 112, 113, 114, 115, 7, 116, 49, 50, 117, 118, 119, 120, 105, 121, 122, 15, 123, 14, 16, 17, 18, 19, 20, 21, 22, 124, 125, 126, 127, 27, 128, 138, 139, 140, 141, 142, 143, 144, 145, 146, 147, 148, 164, 165, 154, 155, 156, 157, 158, 159] (by decide +kernel) (by decide +kernel)
set_option maxRecDepth 20000 in
theorem gX5_passOne_X2_letGo : GoodIn wsX5_passOne (wsV RX5 225 RX2 yX2_letGo wsX2_letGo) := goodIn_app (goodIn_of _ (by decide +kernel)) ggX5_passOne_X2_letGo
set_option maxRecDepth 20000 in
theorem ggX5_passOne_X0_disturb : GoodIn wsX5_passOne wsX0_disturb := goodIn_r _ [132, 10, 133, 125, 126, 7, 127, 27, 128, 138, 139, 140, 141, 142, 143, 144, 145, 146, 147, 148] (by decide +kernel) (by decide +kernel)
set_option maxRecDepth 20000 in
theorem gX5_passOne_X0_disturb : GoodIn wsX5_passOne (wsV RX5 228 RX0 yX0_disturb wsX0_disturb) := goodIn_app (goodIn_of _ (by decide +kernel)) ggX5_passOne_X0_disturb
set_option maxRecDepth 20000 in
theorem ggX5_passOne_X0_turn : GoodIn wsX5_passOne wsX0_turn := goodIn_r _ [137, 11, 23, 24, 25, 7, 26, 27, 10, 14, 15, 16, 17, 18, 19, 20, 138, 139, 140, 141, 142, 143, 144, 145, 146, 147, 148] (by decide +kernel) (by decide +kernel)
set_option maxRecDepth 20000 in
theorem gX5_passOne_X0_turn : GoodIn wsX5_passOne (wsV RX5 231 RX0 yX0_turn wsX0_turn) := goodIn_app (goodIn_of _ (by decide +kernel)) ggX5_passOne_X0_turn
theorem dX5_passOne_0 : decode cX5_passOne 0 = .ok (.aload_n 1, 1) := by decide +kernel
theorem dX5_passOne_1 : decode cX5_passOne 1 = .ok (.dup, 1) := by decide +kernel
theorem dX5_passOne_2 : decode cX5_passOne 2 = .ok (.getfield 121, 3) := by decide +kernel
theorem dX5_passOne_5 : decode cX5_passOne 5 = .ok (.iconst 1, 1) := by decide +kernel
theorem dX5_passOne_6 : decode cX5_passOne 6 = .ok (.iadd, 1) := by decide +kernel
theorem dX5_passOne_7 : decode cX5_passOne 7 = .ok (.putfield 121, 3) := by decide +kernel
theorem dX5_passOne_10 : decode cX5_passOne 10 = .ok (.aload_n 1, 1) := by decide +kernel
theorem dX5_passOne_11 : decode cX5_passOne 11 = .ok (.invokevirtual 219, 3) := by decide +kernel
theorem dX5_passOne_14 : decode cX5_passOne 14 = .ok (.aload_n 0, 1) := by decide +kernel
theorem dX5_passOne_15 : decode cX5_passOne 15 = .ok (.getfield 22, 3) := by decide +kernel
theorem dX5_passOne_18 : decode cX5_passOne 18 = .ok (.aload_n 1, 1) := by decide +kernel
theorem dX5_passOne_19 : decode cX5_passOne 19 = .ok (.invokevirtual 222, 3) := by decide +kernel
theorem dX5_passOne_22 : decode cX5_passOne 22 = .ok (.aload_n 0, 1) := by decide +kernel
theorem dX5_passOne_23 : decode cX5_passOne 23 = .ok (.getfield 29, 3) := by decide +kernel
theorem dX5_passOne_26 : decode cX5_passOne 26 = .ok (.aload_n 1, 1) := by decide +kernel
theorem dX5_passOne_27 : decode cX5_passOne 27 = .ok (.invokevirtual 225, 3) := by decide +kernel
theorem dX5_passOne_30 : decode cX5_passOne 30 = .ok (.aload_n 1, 1) := by decide +kernel
theorem dX5_passOne_31 : decode cX5_passOne 31 = .ok (.invokevirtual 228, 3) := by decide +kernel
theorem dX5_passOne_34 : decode cX5_passOne 34 = .ok (.aload_n 1, 1) := by decide +kernel
theorem dX5_passOne_35 : decode cX5_passOne 35 = .ok (.invokevirtual 231, 3) := by decide +kernel
theorem dX5_passOne_38 : decode cX5_passOne 38 = .ok (.return_, 1) := by decide +kernel
set_option maxRecDepth 20000 in
theorem ggX5_offWithout_X0_become : GoodIn wsX5_offWithout wsX0_become := goodIn_r _ [11, 12, 13, 14, 15, 16, 17, 18, 19, 20, 21, 22, 23, 24, 25, 26, 27, 28, 29, 30, 31, 32, 33, 34, 35, 36, 37, 38, 193, 194, 195, 196, 197, 198, 199, 200, 201, 202, 203, 204, 205, 206, 207, 208, 209] (by decide +kernel) (by decide +kernel)
set_option maxRecDepth 20000 in
theorem gX5_offWithout_X0_become : GoodIn wsX5_offWithout (wsV RX5 169 RX0 yX0_become wsX0_become) := goodIn_app (goodIn_of _ (by decide +kernel)) ggX5_offWithout_X0_become
set_option maxRecDepth 20000 in
theorem ggX5_offWithout_X3_measure : GoodIn wsX5_offWithout wsX3_measure := goodIn_r _ [43, 44, 45, 46, 47, 48, 49, 50, 51, 52, 53, 42, 54, 55, 56, 57, 58, 59, 60, 61, 210, 211, 212, 213, 193, 194, 195, 196, 197, 198, 199, 200, 201, 202, 203, 204, 205, 206, 207, 208, 209] (by decide +kernel) (by decide +kernel)
set_option maxRecDepth 20000 in
theorem gX5_offWithout_X3_measure : GoodIn wsX5_offWithout (wsV RX5 127 RX3 yX3_measure wsX3_measure) := goodIn_app (goodIn_of _ (by decide +kernel)) ggX5_offWithout_X3_measure
set_option maxRecDepth 20000 in
theorem ggX5_offWithout_X5_passOne : GoodIn wsX5_offWithout wsX5_passOne := goodIn_r _ [65, 66, 5, 67, 68, 69, 70, 10, 71, 13, 18, 19, 72, 22, 73, 60, 74, 75, 76, 77, 78, 79, 80, 81, 82, 83, 84, 20, 85, 86, 87, 42, 88, 45, 46, 89, 90, 47, 91, 92, 93, 94, 49, 95, 96, 97, 98, 25, 26, 23, 24, 99, 100, 101, 102, 103, 104, 105, 106, 107, 108, 50, 109, 110, 111, 112, 113, 114, 48, 115, 116, 117, 118, 119, 120, 121, 122, 123, 30, 124, 36, 125, 126, 127, 128, 35, 34, 129, 130, 131, 132, 133, 134, 135, 136, 137, 138, 139, 140, 141, 142, 143, 144, 145, 146, 147, 148, 149, 150, 151, 152, 153, 154, 155, 156, 157, 158, 159, 160, 161, 162, 163, 59, 61, 164, 165, 166, 167, 21, 168, 169, 170, 171, 172, 173, 174, 175, 176, 193, 194, 195, 196, 197, 198, 199, 200, 201, 202, 203, 188, 189, 190, 191, 192, 204, 205, 206, 207, 208, 209, 210, 211, 212, 213, 214, 215] (by decide +kernel) (by decide +kernel)
set_option maxRecDepth 20000 in
theorem gX5_offWithout_X5_passOne : GoodIn wsX5_offWithout (wsV RX5 131 RX5 yX5_passOne wsX5_passOne) := goodIn_app (goodIn_of _ (by decide +kernel)) ggX5_offWithout_X5_passOne
set_option maxRecDepth 20000 in
theorem ggX5_offWithout_X0_offTarget : GoodIn wsX5_offWithout wsX0_offTarget := goodIn_r _ [180, 181, 182, 183, 10, 184, 18, 19, 185, 186, 131, 187, 193, 194, 195, 196, 197, 198, 199, 200, 201, 202, 203] (by decide +kernel) (by decide +kernel)
set_option maxRecDepth 20000 in
theorem gX5_offWithout_X0_offTarget : GoodIn wsX5_offWithout (wsV RX5 234 RX0 yX0_offTarget wsX0_offTarget) := goodIn_app (goodIn_of _ (by decide +kernel)) ggX5_offWithout_X0_offTarget
theorem dX5_offWithout_0 : decode cX5_offWithout 0 = .ok (.aload_n 0, 1) := by decide +kernel
theorem dX5_offWithout_1 : decode cX5_offWithout 1 = .ok (.getfield 16, 3) := by decide +kernel
theorem dX5_offWithout_4 : decode cX5_offWithout 4 = .ok (.aload_n 0, 1) := by decide +kernel
theorem dX5_offWithout_5 : decode cX5_offWithout 5 = .ok (.getfield 10, 3) := by decide +kernel
theorem dX5_offWithout_8 : decode cX5_offWithout 8 = .ok (.invokevirtual 169, 3) := by decide +kernel
theorem dX5_offWithout_11 : decode cX5_offWithout 11 = .ok (.aload_n 0, 1) := by decide +kernel
theorem dX5_offWithout_12 : decode cX5_offWithout 12 = .ok (.getfield 16, 3) := by decide +kernel
theorem dX5_offWithout_15 : decode cX5_offWithout 15 = .ok (.getfield 59, 3) := by decide +kernel
theorem dX5_offWithout_18 : decode cX5_offWithout 18 = .ok (.iload_n 1, 1) := by decide +kernel
theorem dX5_offWithout_19 : decode cX5_offWithout 19 = .ok (.aaload, 1) := by decide +kernel
theorem dX5_offWithout_20 : decode cX5_offWithout 20 = .ok (.iconst 1, 1) := by decide +kernel
theorem dX5_offWithout_21 : decode cX5_offWithout 21 = .ok (.putfield 73, 3) := by decide +kernel
theorem dX5_offWithout_24 : decode cX5_offWithout 24 = .ok (.aload_n 0, 1) := by decide +kernel
theorem dX5_offWithout_25 : decode cX5_offWithout 25 = .ok (.getfield 22, 3) := by decide +kernel
theorem dX5_offWithout_28 : decode cX5_offWithout 28 = .ok (.aload_n 0, 1) := by decide +kernel
theorem dX5_offWithout_29 : decode cX5_offWithout 29 = .ok (.getfield 16, 3) := by decide +kernel
theorem dX5_offWithout_32 : decode cX5_offWithout 32 = .ok (.ldc 126, 2) := by decide +kernel
theorem dX5_offWithout_34 : decode cX5_offWithout 34 = .ok (.invokevirtual 127, 3) := by decide +kernel
theorem dX5_offWithout_37 : decode cX5_offWithout 37 = .ok (.iconst 0, 1) := by decide +kernel
theorem dX5_offWithout_38 : decode cX5_offWithout 38 = .ok (.istore_n 3, 1) := by decide +kernel
theorem dX5_offWithout_39 : decode cX5_offWithout 39 = .ok (.iload_n 3, 1) := by decide +kernel
theorem dX5_offWithout_40 : decode cX5_offWithout 40 = .ok (.iload_n 2, 1) := by decide +kernel
theorem dX5_offWithout_41 : decode cX5_offWithout 41 = .ok (.if_icmp .ge 17, 3) := by decide +kernel
theorem dX5_offWithout_44 : decode cX5_offWithout 44 = .ok (.aload_n 0, 1) := by decide +kernel
theorem dX5_offWithout_45 : decode cX5_offWithout 45 = .ok (.aload_n 0, 1) := by decide +kernel
theorem dX5_offWithout_46 : decode cX5_offWithout 46 = .ok (.getfield 16, 3) := by decide +kernel
theorem dX5_offWithout_49 : decode cX5_offWithout 49 = .ok (.invokevirtual 131, 3) := by decide +kernel
theorem dX5_offWithout_52 : decode cX5_offWithout 52 = .ok (.iinc 3 1, 3) := by decide +kernel
theorem dX5_offWithout_55 : decode cX5_offWithout 55 = .ok (.goto (-16), 3) := by decide +kernel
theorem dX5_offWithout_58 : decode cX5_offWithout 58 = .ok (.aload_n 0, 1) := by decide +kernel
theorem dX5_offWithout_59 : decode cX5_offWithout 59 = .ok (.getfield 16, 3) := by decide +kernel
theorem dX5_offWithout_62 : decode cX5_offWithout 62 = .ok (.invokevirtual 234, 3) := by decide +kernel
theorem dX5_offWithout_65 : decode cX5_offWithout 65 = .ok (.lreturn, 1) := by decide +kernel
