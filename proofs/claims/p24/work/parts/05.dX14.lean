set_option maxRecDepth 20000 in
theorem ggX1_init_X0_init : GoodIn wsX1_init wsX0_init := goodIn_r _ [10, 11, 2, 3, 12, 13, 14, 15, 16, 17, 18, 19, 20, 21, 22, 23, 24, 25, 26, 27, 28, 29, 30, 33, 34, 35, 36, 37, 38, 39, 40, 41, 42, 43, 44, 45, 46, 47, 48, 49] (by decide +kernel) (by decide +kernel)
set_option maxRecDepth 20000 in
theorem gX1_init_X0_init : GoodIn wsX1_init (wsX0_init) := ggX1_init_X0_init
theorem dX1_init_0 : decode cX1_init 0 = .ok (.aload_n 0, 1) := by decide +kernel
theorem dX1_init_1 : decode cX1_init 1 = .ok (.invokespecial 3, 3) := by decide +kernel
theorem dX1_init_4 : decode cX1_init 4 = .ok (.aload_n 0, 1) := by decide +kernel
theorem dX1_init_5 : decode cX1_init 5 = .ok (.iconst 4, 1) := by decide +kernel
theorem dX1_init_6 : decode cX1_init 6 = .ok (.anewarray 9, 3) := by decide +kernel
theorem dX1_init_9 : decode cX1_init 9 = .ok (.putfield 11, 3) := by decide +kernel
theorem dX1_init_12 : decode cX1_init 12 = .ok (.iconst 0, 1) := by decide +kernel
theorem dX1_init_13 : decode cX1_init 13 = .ok (.istore_n 1, 1) := by decide +kernel
theorem dX1_init_14 : decode cX1_init 14 = .ok (.iload_n 1, 1) := by decide +kernel
theorem dX1_init_15 : decode cX1_init 15 = .ok (.iconst 4, 1) := by decide +kernel
theorem dX1_init_16 : decode cX1_init 16 = .ok (.if_icmp .ge 22, 3) := by decide +kernel
theorem dX1_init_19 : decode cX1_init 19 = .ok (.aload_n 0, 1) := by decide +kernel
theorem dX1_init_20 : decode cX1_init 20 = .ok (.getfield 11, 3) := by decide +kernel
theorem dX1_init_23 : decode cX1_init 23 = .ok (.iload_n 1, 1) := by decide +kernel
theorem dX1_init_24 : decode cX1_init 24 = .ok (.new 9, 3) := by decide +kernel
theorem dX1_init_27 : decode cX1_init 27 = .ok (.dup, 1) := by decide +kernel
theorem dX1_init_28 : decode cX1_init 28 = .ok (.invokespecial 17, 3) := by decide +kernel
theorem dX1_init_31 : decode cX1_init 31 = .ok (.aastore, 1) := by decide +kernel
theorem dX1_init_32 : decode cX1_init 32 = .ok (.iinc 1 1, 3) := by decide +kernel
theorem dX1_init_35 : decode cX1_init 35 = .ok (.goto (-21), 3) := by decide +kernel
theorem dX1_init_38 : decode cX1_init 38 = .ok (.return_, 1) := by decide +kernel
set_option maxRecDepth 20000 in
theorem ggX1_keep_X1_dropOldest : GoodIn wsX1_keep wsX1_dropOldest := goodIn_r _ [7, 2, 1, 40, 41] (by decide +kernel) (by decide +kernel)
set_option maxRecDepth 20000 in
theorem gX1_keep_X1_dropOldest : GoodIn wsX1_keep (wsV RX1 22 RX1 yX1_dropOldest wsX1_dropOldest) := goodIn_app (goodIn_of _ (by decide +kernel)) ggX1_keep_X1_dropOldest
set_option maxRecDepth 20000 in
theorem ggX1_keep_X0_become : GoodIn wsX1_keep wsX0_become := goodIn_r _ [12, 13, 14, 15, 16, 17, 18, 19, 20, 21, 22, 23, 24, 25, 26, 27, 28, 29, 30, 31, 32, 33, 34, 35, 36, 37, 38, 39, 42, 43, 44, 45, 46, 47, 48, 49, 50, 51, 52, 53, 54, 55, 56, 57, 58] (by decide +kernel) (by decide +kernel)
set_option maxRecDepth 20000 in
theorem gX1_keep_X0_become : GoodIn wsX1_keep (wsV RX1 25 RX0 yX0_become wsX0_become) := goodIn_app (goodIn_of _ (by decide +kernel)) ggX1_keep_X0_become
theorem dX1_keep_0 : decode cX1_keep 0 = .ok (.aload_n 0, 1) := by decide +kernel
theorem dX1_keep_1 : decode cX1_keep 1 = .ok (.getfield 18, 3) := by decide +kernel
theorem dX1_keep_4 : decode cX1_keep 4 = .ok (.iconst 4, 1) := by decide +kernel
theorem dX1_keep_5 : decode cX1_keep 5 = .ok (.if_icmp .lt 7, 3) := by decide +kernel
theorem dX1_keep_8 : decode cX1_keep 8 = .ok (.aload_n 0, 1) := by decide +kernel
theorem dX1_keep_9 : decode cX1_keep 9 = .ok (.invokevirtual 22, 3) := by decide +kernel
theorem dX1_keep_12 : decode cX1_keep 12 = .ok (.aload_n 0, 1) := by decide +kernel
theorem dX1_keep_13 : decode cX1_keep 13 = .ok (.getfield 11, 3) := by decide +kernel
theorem dX1_keep_16 : decode cX1_keep 16 = .ok (.aload_n 0, 1) := by decide +kernel
theorem dX1_keep_17 : decode cX1_keep 17 = .ok (.getfield 18, 3) := by decide +kernel
theorem dX1_keep_20 : decode cX1_keep 20 = .ok (.aaload, 1) := by decide +kernel
theorem dX1_keep_21 : decode cX1_keep 21 = .ok (.aload_n 1, 1) := by decide +kernel
theorem dX1_keep_22 : decode cX1_keep 22 = .ok (.invokevirtual 25, 3) := by decide +kernel
theorem dX1_keep_25 : decode cX1_keep 25 = .ok (.aload_n 0, 1) := by decide +kernel
theorem dX1_keep_26 : decode cX1_keep 26 = .ok (.dup, 1) := by decide +kernel
theorem dX1_keep_27 : decode cX1_keep 27 = .ok (.getfield 18, 3) := by decide +kernel
theorem dX1_keep_30 : decode cX1_keep 30 = .ok (.iconst 1, 1) := by decide +kernel
theorem dX1_keep_31 : decode cX1_keep 31 = .ok (.iadd, 1) := by decide +kernel
theorem dX1_keep_32 : decode cX1_keep 32 = .ok (.putfield 18, 3) := by decide +kernel
theorem dX1_keep_35 : decode cX1_keep 35 = .ok (.return_, 1) := by decide +kernel
theorem dX1_dropOldest_0 : decode cX1_dropOldest 0 = .ok (.aload_n 0, 1) := by decide +kernel
theorem dX1_dropOldest_1 : decode cX1_dropOldest 1 = .ok (.getfield 11, 3) := by decide +kernel
theorem dX1_dropOldest_4 : decode cX1_dropOldest 4 = .ok (.iconst 0, 1) := by decide +kernel
theorem dX1_dropOldest_5 : decode cX1_dropOldest 5 = .ok (.aaload, 1) := by decide +kernel
theorem dX1_dropOldest_6 : decode cX1_dropOldest 6 = .ok (.astore_n 1, 1) := by decide +kernel
theorem dX1_dropOldest_7 : decode cX1_dropOldest 7 = .ok (.iconst 1, 1) := by decide +kernel
theorem dX1_dropOldest_8 : decode cX1_dropOldest 8 = .ok (.istore_n 2, 1) := by decide +kernel
theorem dX1_dropOldest_9 : decode cX1_dropOldest 9 = .ok (.iload_n 2, 1) := by decide +kernel
theorem dX1_dropOldest_10 : decode cX1_dropOldest 10 = .ok (.iconst 4, 1) := by decide +kernel
theorem dX1_dropOldest_11 : decode cX1_dropOldest 11 = .ok (.if_icmp .ge 23, 3) := by decide +kernel
theorem dX1_dropOldest_14 : decode cX1_dropOldest 14 = .ok (.aload_n 0, 1) := by decide +kernel
theorem dX1_dropOldest_15 : decode cX1_dropOldest 15 = .ok (.getfield 11, 3) := by decide +kernel
theorem dX1_dropOldest_18 : decode cX1_dropOldest 18 = .ok (.iload_n 2, 1) := by decide +kernel
theorem dX1_dropOldest_19 : decode cX1_dropOldest 19 = .ok (.iconst 1, 1) := by decide +kernel
theorem dX1_dropOldest_20 : decode cX1_dropOldest 20 = .ok (.isub, 1) := by decide +kernel
theorem dX1_dropOldest_21 : decode cX1_dropOldest 21 = .ok (.aload_n 0, 1) := by decide +kernel
theorem dX1_dropOldest_22 : decode cX1_dropOldest 22 = .ok (.getfield 11, 3) := by decide +kernel
theorem dX1_dropOldest_25 : decode cX1_dropOldest 25 = .ok (.iload_n 2, 1) := by decide +kernel
theorem dX1_dropOldest_26 : decode cX1_dropOldest 26 = .ok (.aaload, 1) := by decide +kernel
theorem dX1_dropOldest_27 : decode cX1_dropOldest 27 = .ok (.aastore, 1) := by decide +kernel
theorem dX1_dropOldest_28 : decode cX1_dropOldest 28 = .ok (.iinc 2 1, 3) := by decide +kernel
theorem dX1_dropOldest_31 : decode cX1_dropOldest 31 = .ok (.goto (-22), 3) := by decide +kernel
theorem dX1_dropOldest_34 : decode cX1_dropOldest 34 = .ok (.aload_n 0, 1) := by decide +kernel
theorem dX1_dropOldest_35 : decode cX1_dropOldest 35 = .ok (.getfield 11, 3) := by decide +kernel
theorem dX1_dropOldest_38 : decode cX1_dropOldest 38 = .ok (.iconst 3, 1) := by decide +kernel
theorem dX1_dropOldest_39 : decode cX1_dropOldest 39 = .ok (.aload_n 1, 1) := by decide +kernel
theorem dX1_dropOldest_40 : decode cX1_dropOldest 40 = .ok (.aastore, 1) := by decide +kernel
theorem dX1_dropOldest_41 : decode cX1_dropOldest 41 = .ok (.aload_n 0, 1) := by decide +kernel
theorem dX1_dropOldest_42 : decode cX1_dropOldest 42 = .ok (.iconst 3, 1) := by decide +kernel
theorem dX1_dropOldest_43 : decode cX1_dropOldest 43 = .ok (.putfield 18, 3) := by decide +kernel
theorem dX1_dropOldest_46 : decode cX1_dropOldest 46 = .ok (.return_, 1) := by decide +kernel
set_option maxRecDepth 20000 in
theorem ggX1_giveBack_X0_become : GoodIn wsX1_giveBack wsX0_become := goodIn_r _ [8, 9, 10, 11, 12, 13, 14, 15, 16, 17, 18, 19, 20, 21, 22, 23, 24, 25, 26, 27, 28, 29, 30, 31, 32, 33, 34, 35, 38, 39, 40, 41, 42, 43, 44, 45, 46, 47, 48, 49, 50, 51, 52, 53, 54] (by decide +kernel) (by decide +kernel)
set_option maxRecDepth 20000 in
theorem gX1_giveBack_X0_become : GoodIn wsX1_giveBack (wsV RX1 25 RX0 yX0_become wsX0_become) := goodIn_app (goodIn_of _ (by decide +kernel)) ggX1_giveBack_X0_become
theorem dX1_giveBack_0 : decode cX1_giveBack 0 = .ok (.aload_n 0, 1) := by decide +kernel
theorem dX1_giveBack_1 : decode cX1_giveBack 1 = .ok (.getfield 18, 3) := by decide +kernel
theorem dX1_giveBack_4 : decode cX1_giveBack 4 = .ok (.ifCond .gt 6, 3) := by decide +kernel
theorem dX1_giveBack_7 : decode cX1_giveBack 7 = .ok (.ldc 29, 2) := by decide +kernel
theorem dX1_giveBack_9 : decode cX1_giveBack 9 = .ok (.ireturn, 1) := by decide +kernel
theorem dX1_giveBack_10 : decode cX1_giveBack 10 = .ok (.aload_n 0, 1) := by decide +kernel
theorem dX1_giveBack_11 : decode cX1_giveBack 11 = .ok (.dup, 1) := by decide +kernel
theorem dX1_giveBack_12 : decode cX1_giveBack 12 = .ok (.getfield 18, 3) := by decide +kernel
theorem dX1_giveBack_15 : decode cX1_giveBack 15 = .ok (.iconst 1, 1) := by decide +kernel
theorem dX1_giveBack_16 : decode cX1_giveBack 16 = .ok (.isub, 1) := by decide +kernel
theorem dX1_giveBack_17 : decode cX1_giveBack 17 = .ok (.putfield 18, 3) := by decide +kernel
theorem dX1_giveBack_20 : decode cX1_giveBack 20 = .ok (.aload_n 1, 1) := by decide +kernel
theorem dX1_giveBack_21 : decode cX1_giveBack 21 = .ok (.aload_n 0, 1) := by decide +kernel
theorem dX1_giveBack_22 : decode cX1_giveBack 22 = .ok (.getfield 11, 3) := by decide +kernel
theorem dX1_giveBack_25 : decode cX1_giveBack 25 = .ok (.aload_n 0, 1) := by decide +kernel
theorem dX1_giveBack_26 : decode cX1_giveBack 26 = .ok (.getfield 18, 3) := by decide +kernel
theorem dX1_giveBack_29 : decode cX1_giveBack 29 = .ok (.aaload, 1) := by decide +kernel
theorem dX1_giveBack_30 : decode cX1_giveBack 30 = .ok (.invokevirtual 25, 3) := by decide +kernel
theorem dX1_giveBack_33 : decode cX1_giveBack 33 = .ok (.aload_n 0, 1) := by decide +kernel
theorem dX1_giveBack_34 : decode cX1_giveBack 34 = .ok (.getfield 18, 3) := by decide +kernel
theorem dX1_giveBack_37 : decode cX1_giveBack 37 = .ok (.ireturn, 1) := by decide +kernel
theorem dX2_init_0 : decode cX2_init 0 = .ok (.aload_n 0, 1) := by decide +kernel
theorem dX2_init_1 : decode cX2_init 1 = .ok (.invokespecial 3, 3) := by decide +kernel
theorem dX2_init_4 : decode cX2_init 4 = .ok (.aload_n 0, 1) := by decide +kernel
theorem dX2_init_5 : decode cX2_init 5 = .ok (.iconst 3, 1) := by decide +kernel
theorem dX2_init_6 : decode cX2_init 6 = .ok (.newarray .long, 2) := by decide +kernel
theorem dX2_init_8 : decode cX2_init 8 = .ok (.putfield 9, 3) := by decide +kernel
theorem dX2_init_11 : decode cX2_init 11 = .ok (.aload_n 0, 1) := by decide +kernel
theorem dX2_init_12 : decode cX2_init 12 = .ok (.iconst 3, 1) := by decide +kernel
theorem dX2_init_13 : decode cX2_init 13 = .ok (.newarray .long, 2) := by decide +kernel
theorem dX2_init_15 : decode cX2_init 15 = .ok (.putfield 15, 3) := by decide +kernel
theorem dX2_init_18 : decode cX2_init 18 = .ok (.return_, 1) := by decide +kernel
set_option maxRecDepth 20000 in
theorem ggX2_letGo_X0_wheelMomentum : GoodIn wsX2_letGo wsX0_wheelMomentum := goodIn_r _ [11, 12, 13, 14, 15, 37, 38, 39, 40, 41, 42, 43, 44, 45, 46, 47, 50, 51, 52, 53, 54, 55] (by decide +kernel) (by decide +kernel)
set_option maxRecDepth 20000 in
theorem gX2_letGo_X0_wheelMomentum : GoodIn wsX2_letGo (wsV RX2 28 RX0 yX0_wheelMomentum wsX0_wheelMomentum) := goodIn_app (goodIn_of _ (by decide +kernel)) ggX2_letGo_X0_wheelMomentum
set_option maxRecDepth 20000 in
theorem ggX2_letGo_X2_crossed : GoodIn wsX2_letGo wsX2_crossed := goodIn_r _ [19, 20, 21, 22] (by decide +kernel) (by decide +kernel)
set_option maxRecDepth 20000 in
theorem gX2_letGo_X2_crossed : GoodIn wsX2_letGo (va_wsS RX2 32 yX2_crossed wsX2_crossed) := goodIn_app (goodIn_of _ (by decide +kernel)) ggX2_letGo_X2_crossed
set_option maxRecDepth 20000 in
theorem ggX2_letGo_X5_quotient : GoodIn wsX2_letGo wsX5_quotient := goodIn_r _ [24, 25, 26, 27, 28] (by decide +kernel) (by decide +kernel)
set_option maxRecDepth 20000 in
theorem gX2_letGo_X5_quotient_n38 : GoodIn wsX2_letGo (wsX5_quotient) := ggX2_letGo_X5_quotient
set_option maxRecDepth 20000 in
theorem ggX2_letGo_X5_limited : GoodIn wsX2_letGo wsX5_limited := goodIn_r _ [30] (by decide +kernel) (by decide +kernel)
set_option maxRecDepth 20000 in
theorem gX2_letGo_X5_limited_n42 : GoodIn wsX2_letGo (wsX5_limited) := ggX2_letGo_X5_limited
set_option maxRecDepth 20000 in
theorem ggX2_letGo_X0_pushFromOutside : GoodIn wsX2_letGo wsX0_pushFromOutside := goodIn_r _ [34, 35, 36, 37, 38, 39, 40, 41, 42, 43, 44, 45, 46, 47] (by decide +kernel) (by decide +kernel)
set_option maxRecDepth 20000 in
theorem gX2_letGo_X0_pushFromOutside : GoodIn wsX2_letGo (wsV RX2 48 RX0 yX0_pushFromOutside wsX0_pushFromOutside) := goodIn_app (goodIn_of _ (by decide +kernel)) ggX2_letGo_X0_pushFromOutside
theorem dX2_letGo_0 : decode cX2_letGo 0 = .ok (.aload_n 1, 1) := by decide +kernel
theorem dX2_letGo_1 : decode cX2_letGo 1 = .ok (.getfield 18, 3) := by decide +kernel
theorem dX2_letGo_4 : decode cX2_letGo 4 = .ok (.iconst 2, 1) := by decide +kernel
theorem dX2_letGo_5 : decode cX2_letGo 5 = .ok (.aaload, 1) := by decide +kernel
theorem dX2_letGo_6 : decode cX2_letGo 6 = .ok (.astore_n 2, 1) := by decide +kernel
theorem dX2_letGo_7 : decode cX2_letGo 7 = .ok (.aload_n 1, 1) := by decide +kernel
theorem dX2_letGo_8 : decode cX2_letGo 8 = .ok (.getfield 24, 3) := by decide +kernel
theorem dX2_letGo_11 : decode cX2_letGo 11 = .ok (.iconst 4, 1) := by decide +kernel
theorem dX2_letGo_12 : decode cX2_letGo 12 = .ok (.iaload, 1) := by decide +kernel
theorem dX2_letGo_13 : decode cX2_letGo 13 = .ok (.i2l, 1) := by decide +kernel
theorem dX2_letGo_14 : decode cX2_letGo 14 = .ok (.lstore_n 3, 1) := by decide +kernel
theorem dX2_letGo_15 : decode cX2_letGo 15 = .ok (.iconst 0, 1) := by decide +kernel
theorem dX2_letGo_16 : decode cX2_letGo 16 = .ok (.istore 5, 2) := by decide +kernel
theorem dX2_letGo_18 : decode cX2_letGo 18 = .ok (.iload 5, 2) := by decide +kernel
theorem dX2_letGo_20 : decode cX2_letGo 20 = .ok (.iconst 3, 1) := by decide +kernel
theorem dX2_letGo_21 : decode cX2_letGo 21 = .ok (.if_icmp .ge 22, 3) := by decide +kernel
theorem dX2_letGo_24 : decode cX2_letGo 24 = .ok (.aload_n 0, 1) := by decide +kernel
theorem dX2_letGo_25 : decode cX2_letGo 25 = .ok (.getfield 9, 3) := by decide +kernel
theorem dX2_letGo_28 : decode cX2_letGo 28 = .ok (.iload 5, 2) := by decide +kernel
theorem dX2_letGo_30 : decode cX2_letGo 30 = .ok (.aload_n 1, 1) := by decide +kernel
theorem dX2_letGo_31 : decode cX2_letGo 31 = .ok (.iload 5, 2) := by decide +kernel
theorem dX2_letGo_33 : decode cX2_letGo 33 = .ok (.invokevirtual 28, 3) := by decide +kernel
theorem dX2_letGo_36 : decode cX2_letGo 36 = .ok (.lastore, 1) := by decide +kernel
theorem dX2_letGo_37 : decode cX2_letGo 37 = .ok (.iinc 5 1, 3) := by decide +kernel
theorem dX2_letGo_40 : decode cX2_letGo 40 = .ok (.goto (-22), 3) := by decide +kernel
theorem dX2_letGo_43 : decode cX2_letGo 43 = .ok (.iconst 0, 1) := by decide +kernel
theorem dX2_letGo_44 : decode cX2_letGo 44 = .ok (.istore 5, 2) := by decide +kernel
theorem dX2_letGo_46 : decode cX2_letGo 46 = .ok (.iload 5, 2) := by decide +kernel
theorem dX2_letGo_48 : decode cX2_letGo 48 = .ok (.iconst 3, 1) := by decide +kernel
theorem dX2_letGo_49 : decode cX2_letGo 49 = .ok (.if_icmp .ge 38, 3) := by decide +kernel
theorem dX2_letGo_52 : decode cX2_letGo 52 = .ok (.aload_n 0, 1) := by decide +kernel
theorem dX2_letGo_53 : decode cX2_letGo 53 = .ok (.getfield 15, 3) := by decide +kernel
theorem dX2_letGo_56 : decode cX2_letGo 56 = .ok (.iload 5, 2) := by decide +kernel
theorem dX2_letGo_58 : decode cX2_letGo 58 = .ok (.aload_n 0, 1) := by decide +kernel
theorem dX2_letGo_59 : decode cX2_letGo 59 = .ok (.getfield 9, 3) := by decide +kernel
theorem dX2_letGo_62 : decode cX2_letGo 62 = .ok (.aload_n 2, 1) := by decide +kernel
theorem dX2_letGo_63 : decode cX2_letGo 63 = .ok (.iload 5, 2) := by decide +kernel
theorem dX2_letGo_65 : decode cX2_letGo 65 = .ok (.invokestatic 32, 3) := by decide +kernel
theorem dX2_letGo_68 : decode cX2_letGo 68 = .ok (.ldc2_w 36, 3) := by decide +kernel
theorem dX2_letGo_71 : decode cX2_letGo 71 = .ok (.invokestatic 38, 3) := by decide +kernel
theorem dX2_letGo_74 : decode cX2_letGo 74 = .ok (.lload_n 3, 1) := by decide +kernel
theorem dX2_letGo_75 : decode cX2_letGo 75 = .ok (.lneg, 1) := by decide +kernel
theorem dX2_letGo_76 : decode cX2_letGo 76 = .ok (.lload_n 3, 1) := by decide +kernel
theorem dX2_letGo_77 : decode cX2_letGo 77 = .ok (.invokestatic 42, 3) := by decide +kernel
theorem dX2_letGo_80 : decode cX2_letGo 80 = .ok (.lastore, 1) := by decide +kernel
theorem dX2_letGo_81 : decode cX2_letGo 81 = .ok (.iinc 5 1, 3) := by decide +kernel
theorem dX2_letGo_84 : decode cX2_letGo 84 = .ok (.goto (-38), 3) := by decide +kernel
theorem dX2_letGo_87 : decode cX2_letGo 87 = .ok (.iconst 0, 1) := by decide +kernel
theorem dX2_letGo_88 : decode cX2_letGo 88 = .ok (.istore 5, 2) := by decide +kernel
theorem dX2_letGo_90 : decode cX2_letGo 90 = .ok (.iload 5, 2) := by decide +kernel
theorem dX2_letGo_92 : decode cX2_letGo 92 = .ok (.iconst 3, 1) := by decide +kernel
theorem dX2_letGo_93 : decode cX2_letGo 93 = .ok (.if_icmp .ge 31, 3) := by decide +kernel
theorem dX2_letGo_96 : decode cX2_letGo 96 = .ok (.aload_n 1, 1) := by decide +kernel
theorem dX2_letGo_97 : decode cX2_letGo 97 = .ok (.iload 5, 2) := by decide +kernel
theorem dX2_letGo_99 : decode cX2_letGo 99 = .ok (.aload_n 0, 1) := by decide +kernel
theorem dX2_letGo_100 : decode cX2_letGo 100 = .ok (.getfield 15, 3) := by decide +kernel
theorem dX2_letGo_103 : decode cX2_letGo 103 = .ok (.aload_n 2, 1) := by decide +kernel
theorem dX2_letGo_104 : decode cX2_letGo 104 = .ok (.iload 5, 2) := by decide +kernel
theorem dX2_letGo_106 : decode cX2_letGo 106 = .ok (.invokestatic 32, 3) := by decide +kernel
theorem dX2_letGo_109 : decode cX2_letGo 109 = .ok (.ldc2_w 46, 3) := by decide +kernel
theorem dX2_letGo_112 : decode cX2_letGo 112 = .ok (.invokestatic 38, 3) := by decide +kernel
theorem dX2_letGo_115 : decode cX2_letGo 115 = .ok (.invokevirtual 48, 3) := by decide +kernel
theorem dX2_letGo_118 : decode cX2_letGo 118 = .ok (.iinc 5 1, 3) := by decide +kernel
theorem dX2_letGo_121 : decode cX2_letGo 121 = .ok (.goto (-31), 3) := by decide +kernel
theorem dX2_letGo_124 : decode cX2_letGo 124 = .ok (.return_, 1) := by decide +kernel
set_option maxRecDepth 20000 in
theorem ggX2_crossed_X5_axisAfter : GoodIn wsX2_crossed wsX5_axisAfter := goodIn_r _ [3] (by decide +kernel) (by decide +kernel)
set_option maxRecDepth 20000 in
theorem gX2_crossed_X5_axisAfter_n52 : GoodIn wsX2_crossed (wsX5_axisAfter) := ggX2_crossed_X5_axisAfter
theorem dX2_crossed_0 : decode cX2_crossed 0 = .ok (.iload_n 2, 1) := by decide +kernel
theorem dX2_crossed_1 : decode cX2_crossed 1 = .ok (.iconst 1, 1) := by decide +kernel
theorem dX2_crossed_2 : decode cX2_crossed 2 = .ok (.invokestatic 52, 3) := by decide +kernel
theorem dX2_crossed_5 : decode cX2_crossed 5 = .ok (.istore_n 3, 1) := by decide +kernel
theorem dX2_crossed_6 : decode cX2_crossed 6 = .ok (.iload_n 2, 1) := by decide +kernel
theorem dX2_crossed_7 : decode cX2_crossed 7 = .ok (.iconst 2, 1) := by decide +kernel
theorem dX2_crossed_8 : decode cX2_crossed 8 = .ok (.invokestatic 52, 3) := by decide +kernel
theorem dX2_crossed_11 : decode cX2_crossed 11 = .ok (.istore 4, 2) := by decide +kernel
theorem dX2_crossed_13 : decode cX2_crossed 13 = .ok (.aload_n 0, 1) := by decide +kernel
theorem dX2_crossed_14 : decode cX2_crossed 14 = .ok (.iload_n 3, 1) := by decide +kernel
theorem dX2_crossed_15 : decode cX2_crossed 15 = .ok (.laload, 1) := by decide +kernel
theorem dX2_crossed_16 : decode cX2_crossed 16 = .ok (.aload_n 1, 1) := by decide +kernel
theorem dX2_crossed_17 : decode cX2_crossed 17 = .ok (.iload 4, 2) := by decide +kernel
theorem dX2_crossed_19 : decode cX2_crossed 19 = .ok (.iaload, 1) := by decide +kernel
theorem dX2_crossed_20 : decode cX2_crossed 20 = .ok (.i2l, 1) := by decide +kernel
theorem dX2_crossed_21 : decode cX2_crossed 21 = .ok (.lmul, 1) := by decide +kernel
theorem dX2_crossed_22 : decode cX2_crossed 22 = .ok (.aload_n 0, 1) := by decide +kernel
theorem dX2_crossed_23 : decode cX2_crossed 23 = .ok (.iload 4, 2) := by decide +kernel
theorem dX2_crossed_25 : decode cX2_crossed 25 = .ok (.laload, 1) := by decide +kernel
theorem dX2_crossed_26 : decode cX2_crossed 26 = .ok (.aload_n 1, 1) := by decide +kernel
theorem dX2_crossed_27 : decode cX2_crossed 27 = .ok (.iload_n 3, 1) := by decide +kernel
theorem dX2_crossed_28 : decode cX2_crossed 28 = .ok (.iaload, 1) := by decide +kernel
theorem dX2_crossed_29 : decode cX2_crossed 29 = .ok (.i2l, 1) := by decide +kernel
theorem dX2_crossed_30 : decode cX2_crossed 30 = .ok (.lmul, 1) := by decide +kernel
theorem dX2_crossed_31 : decode cX2_crossed 31 = .ok (.lsub, 1) := by decide +kernel
theorem dX2_crossed_32 : decode cX2_crossed 32 = .ok (.lreturn, 1) := by decide +kernel
theorem dX3_init_0 : decode cX3_init 0 = .ok (.aload_n 0, 1) := by decide +kernel
theorem dX3_init_1 : decode cX3_init 1 = .ok (.invokespecial 3, 3) := by decide +kernel
theorem dX3_init_4 : decode cX3_init 4 = .ok (.aload_n 0, 1) := by decide +kernel
theorem dX3_init_5 : decode cX3_init 5 = .ok (.iconst 3, 1) := by decide +kernel
theorem dX3_init_6 : decode cX3_init 6 = .ok (.iconst 3, 1) := by decide +kernel
theorem dX3_init_7 : decode cX3_init 7 = .ok (.multianewarray 9 2, 4) := by decide +kernel
theorem dX3_init_11 : decode cX3_init 11 = .ok (.putfield 11, 3) := by decide +kernel
theorem dX3_init_14 : decode cX3_init 14 = .ok (.aload_n 0, 1) := by decide +kernel
theorem dX3_init_15 : decode cX3_init 15 = .ok (.iconst 3, 1) := by decide +kernel
theorem dX3_init_16 : decode cX3_init 16 = .ok (.iconst 3, 1) := by decide +kernel
theorem dX3_init_17 : decode cX3_init 17 = .ok (.multianewarray 9 2, 4) := by decide +kernel
theorem dX3_init_21 : decode cX3_init 21 = .ok (.putfield 16, 3) := by decide +kernel
theorem dX3_init_24 : decode cX3_init 24 = .ok (.aload_n 0, 1) := by decide +kernel
theorem dX3_init_25 : decode cX3_init 25 = .ok (.iconst 3, 1) := by decide +kernel
theorem dX3_init_26 : decode cX3_init 26 = .ok (.newarray .long, 2) := by decide +kernel
theorem dX3_init_28 : decode cX3_init 28 = .ok (.putfield 19, 3) := by decide +kernel
theorem dX3_init_31 : decode cX3_init 31 = .ok (.return_, 1) := by decide +kernel
set_option maxRecDepth 20000 in
theorem ggX3_measure_X3_addProducts : GoodIn wsX3_measure wsX3_addProducts := goodIn_r _ [12, 1, 20, 21, 22, 23] (by decide +kernel) (by decide +kernel)
set_option maxRecDepth 20000 in
theorem gX3_measure_X3_addProducts : GoodIn wsX3_measure (wsV RX3 43 RX3 yX3_addProducts wsX3_addProducts) := goodIn_app (goodIn_of _ (by decide +kernel)) ggX3_measure_X3_addProducts
set_option maxRecDepth 20000 in
theorem ggX3_measure_X3_findCofactors : GoodIn wsX3_measure wsX3_findCofactors := goodIn_r _ [16, 7, 1, 17, 18, 19, 20, 21, 22, 23] (by decide +kernel) (by decide +kernel)
set_option maxRecDepth 20000 in
theorem gX3_measure_X3_findCofactors : GoodIn wsX3_measure (wsV RX3 47 RX3 yX3_findCofactors wsX3_findCofactors) := goodIn_app (goodIn_of _ (by decide +kernel)) ggX3_measure_X3_findCofactors
theorem dX3_measure_0 : decode cX3_measure 0 = .ok (.iconst 0, 1) := by decide +kernel
theorem dX3_measure_1 : decode cX3_measure 1 = .ok (.istore_n 3, 1) := by decide +kernel
theorem dX3_measure_2 : decode cX3_measure 2 = .ok (.iload_n 3, 1) := by decide +kernel
theorem dX3_measure_3 : decode cX3_measure 3 = .ok (.iconst 3, 1) := by decide +kernel
theorem dX3_measure_4 : decode cX3_measure 4 = .ok (.if_icmp .ge 34, 3) := by decide +kernel
theorem dX3_measure_7 : decode cX3_measure 7 = .ok (.iconst 0, 1) := by decide +kernel
theorem dX3_measure_8 : decode cX3_measure 8 = .ok (.istore 4, 2) := by decide +kernel
theorem dX3_measure_10 : decode cX3_measure 10 = .ok (.iload 4, 2) := by decide +kernel
theorem dX3_measure_12 : decode cX3_measure 12 = .ok (.iconst 3, 1) := by decide +kernel
theorem dX3_measure_13 : decode cX3_measure 13 = .ok (.if_icmp .ge 19, 3) := by decide +kernel
theorem dX3_measure_16 : decode cX3_measure 16 = .ok (.aload_n 0, 1) := by decide +kernel
theorem dX3_measure_17 : decode cX3_measure 17 = .ok (.getfield 11, 3) := by decide +kernel
theorem dX3_measure_20 : decode cX3_measure 20 = .ok (.iload_n 3, 1) := by decide +kernel
theorem dX3_measure_21 : decode cX3_measure 21 = .ok (.aaload, 1) := by decide +kernel
theorem dX3_measure_22 : decode cX3_measure 22 = .ok (.iload 4, 2) := by decide +kernel
theorem dX3_measure_24 : decode cX3_measure 24 = .ok (.lconst 0, 1) := by decide +kernel
theorem dX3_measure_25 : decode cX3_measure 25 = .ok (.lastore, 1) := by decide +kernel
theorem dX3_measure_26 : decode cX3_measure 26 = .ok (.iinc 4 1, 3) := by decide +kernel
theorem dX3_measure_29 : decode cX3_measure 29 = .ok (.goto (-19), 3) := by decide +kernel
theorem dX3_measure_32 : decode cX3_measure 32 = .ok (.iinc 3 1, 3) := by decide +kernel
theorem dX3_measure_35 : decode cX3_measure 35 = .ok (.goto (-33), 3) := by decide +kernel
theorem dX3_measure_38 : decode cX3_measure 38 = .ok (.iconst 0, 1) := by decide +kernel
theorem dX3_measure_39 : decode cX3_measure 39 = .ok (.istore_n 3, 1) := by decide +kernel
theorem dX3_measure_40 : decode cX3_measure 40 = .ok (.iload_n 3, 1) := by decide +kernel
theorem dX3_measure_41 : decode cX3_measure 41 = .ok (.aload_n 1, 1) := by decide +kernel
theorem dX3_measure_42 : decode cX3_measure 42 = .ok (.getfield 23, 3) := by decide +kernel
theorem dX3_measure_45 : decode cX3_measure 45 = .ok (.if_icmp .ge 39, 3) := by decide +kernel
theorem dX3_measure_48 : decode cX3_measure 48 = .ok (.iload_n 3, 1) := by decide +kernel
theorem dX3_measure_49 : decode cX3_measure 49 = .ok (.iload_n 2, 1) := by decide +kernel
theorem dX3_measure_50 : decode cX3_measure 50 = .ok (.if_icmp .eq 28, 3) := by decide +kernel
theorem dX3_measure_53 : decode cX3_measure 53 = .ok (.aload_n 1, 1) := by decide +kernel
theorem dX3_measure_54 : decode cX3_measure 54 = .ok (.getfield 29, 3) := by decide +kernel
theorem dX3_measure_57 : decode cX3_measure 57 = .ok (.iload_n 3, 1) := by decide +kernel
theorem dX3_measure_58 : decode cX3_measure 58 = .ok (.aaload, 1) := by decide +kernel
theorem dX3_measure_59 : decode cX3_measure 59 = .ok (.getfield 33, 3) := by decide +kernel
theorem dX3_measure_62 : decode cX3_measure 62 = .ok (.ifCond .ne 16, 3) := by decide +kernel
theorem dX3_measure_65 : decode cX3_measure 65 = .ok (.aload_n 0, 1) := by decide +kernel
theorem dX3_measure_66 : decode cX3_measure 66 = .ok (.aload_n 1, 1) := by decide +kernel
theorem dX3_measure_67 : decode cX3_measure 67 = .ok (.getfield 29, 3) := by decide +kernel
theorem dX3_measure_70 : decode cX3_measure 70 = .ok (.iload_n 3, 1) := by decide +kernel
theorem dX3_measure_71 : decode cX3_measure 71 = .ok (.aaload, 1) := by decide +kernel
theorem dX3_measure_72 : decode cX3_measure 72 = .ok (.getfield 39, 3) := by decide +kernel
theorem dX3_measure_75 : decode cX3_measure 75 = .ok (.invokevirtual 43, 3) := by decide +kernel
theorem dX3_measure_78 : decode cX3_measure 78 = .ok (.iinc 3 1, 3) := by decide +kernel
theorem dX3_measure_81 : decode cX3_measure 81 = .ok (.goto (-41), 3) := by decide +kernel
theorem dX3_measure_84 : decode cX3_measure 84 = .ok (.aload_n 0, 1) := by decide +kernel
theorem dX3_measure_85 : decode cX3_measure 85 = .ok (.invokevirtual 47, 3) := by decide +kernel
theorem dX3_measure_88 : decode cX3_measure 88 = .ok (.aload_n 0, 1) := by decide +kernel
theorem dX3_measure_89 : decode cX3_measure 89 = .ok (.lconst 0, 1) := by decide +kernel
theorem dX3_measure_90 : decode cX3_measure 90 = .ok (.putfield 50, 3) := by decide +kernel
theorem dX3_measure_93 : decode cX3_measure 93 = .ok (.iconst 0, 1) := by decide +kernel
theorem dX3_measure_94 : decode cX3_measure 94 = .ok (.istore_n 3, 1) := by decide +kernel
theorem dX3_measure_95 : decode cX3_measure 95 = .ok (.iload_n 3, 1) := by decide +kernel
theorem dX3_measure_96 : decode cX3_measure 96 = .ok (.iconst 3, 1) := by decide +kernel
theorem dX3_measure_97 : decode cX3_measure 97 = .ok (.if_icmp .ge 35, 3) := by decide +kernel
theorem dX3_measure_100 : decode cX3_measure 100 = .ok (.aload_n 0, 1) := by decide +kernel
theorem dX3_measure_101 : decode cX3_measure 101 = .ok (.dup, 1) := by decide +kernel
theorem dX3_measure_102 : decode cX3_measure 102 = .ok (.getfield 50, 3) := by decide +kernel
theorem dX3_measure_105 : decode cX3_measure 105 = .ok (.aload_n 0, 1) := by decide +kernel
theorem dX3_measure_106 : decode cX3_measure 106 = .ok (.getfield 11, 3) := by decide +kernel
theorem dX3_measure_109 : decode cX3_measure 109 = .ok (.iconst 0, 1) := by decide +kernel
theorem dX3_measure_110 : decode cX3_measure 110 = .ok (.aaload, 1) := by decide +kernel
theorem dX3_measure_111 : decode cX3_measure 111 = .ok (.iload_n 3, 1) := by decide +kernel
theorem dX3_measure_112 : decode cX3_measure 112 = .ok (.laload, 1) := by decide +kernel
theorem dX3_measure_113 : decode cX3_measure 113 = .ok (.aload_n 0, 1) := by decide +kernel
theorem dX3_measure_114 : decode cX3_measure 114 = .ok (.getfield 16, 3) := by decide +kernel
theorem dX3_measure_117 : decode cX3_measure 117 = .ok (.iconst 0, 1) := by decide +kernel
theorem dX3_measure_118 : decode cX3_measure 118 = .ok (.aaload, 1) := by decide +kernel
theorem dX3_measure_119 : decode cX3_measure 119 = .ok (.iload_n 3, 1) := by decide +kernel
theorem dX3_measure_120 : decode cX3_measure 120 = .ok (.laload, 1) := by decide +kernel
theorem dX3_measure_121 : decode cX3_measure 121 = .ok (.lmul, 1) := by decide +kernel
theorem dX3_measure_122 : decode cX3_measure 122 = .ok (.ladd, 1) := by decide +kernel
theorem dX3_measure_123 : decode cX3_measure 123 = .ok (.putfield 50, 3) := by decide +kernel
theorem dX3_measure_126 : decode cX3_measure 126 = .ok (.iinc 3 1, 3) := by decide +kernel
theorem dX3_measure_129 : decode cX3_measure 129 = .ok (.goto (-34), 3) := by decide +kernel
theorem dX3_measure_132 : decode cX3_measure 132 = .ok (.return_, 1) := by decide +kernel
theorem dX3_addProducts_0 : decode cX3_addProducts 0 = .ok (.iconst 0, 1) := by decide +kernel
theorem dX3_addProducts_1 : decode cX3_addProducts 1 = .ok (.istore_n 2, 1) := by decide +kernel
theorem dX3_addProducts_2 : decode cX3_addProducts 2 = .ok (.iload_n 2, 1) := by decide +kernel
theorem dX3_addProducts_3 : decode cX3_addProducts 3 = .ok (.iconst 3, 1) := by decide +kernel
theorem dX3_addProducts_4 : decode cX3_addProducts 4 = .ok (.if_icmp .ge 41, 3) := by decide +kernel
theorem dX3_addProducts_7 : decode cX3_addProducts 7 = .ok (.iconst 0, 1) := by decide +kernel
theorem dX3_addProducts_8 : decode cX3_addProducts 8 = .ok (.istore_n 3, 1) := by decide +kernel
theorem dX3_addProducts_9 : decode cX3_addProducts 9 = .ok (.iload_n 3, 1) := by decide +kernel
theorem dX3_addProducts_10 : decode cX3_addProducts 10 = .ok (.iconst 3, 1) := by decide +kernel
theorem dX3_addProducts_11 : decode cX3_addProducts 11 = .ok (.if_icmp .ge 28, 3) := by decide +kernel
theorem dX3_addProducts_14 : decode cX3_addProducts 14 = .ok (.aload_n 0, 1) := by decide +kernel
theorem dX3_addProducts_15 : decode cX3_addProducts 15 = .ok (.getfield 11, 3) := by decide +kernel
theorem dX3_addProducts_18 : decode cX3_addProducts 18 = .ok (.iload_n 2, 1) := by decide +kernel
theorem dX3_addProducts_19 : decode cX3_addProducts 19 = .ok (.aaload, 1) := by decide +kernel
theorem dX3_addProducts_20 : decode cX3_addProducts 20 = .ok (.iload_n 3, 1) := by decide +kernel
theorem dX3_addProducts_21 : decode cX3_addProducts 21 = .ok (.dup2, 1) := by decide +kernel
theorem dX3_addProducts_22 : decode cX3_addProducts 22 = .ok (.laload, 1) := by decide +kernel
theorem dX3_addProducts_23 : decode cX3_addProducts 23 = .ok (.aload_n 1, 1) := by decide +kernel
theorem dX3_addProducts_24 : decode cX3_addProducts 24 = .ok (.iload_n 2, 1) := by decide +kernel
theorem dX3_addProducts_25 : decode cX3_addProducts 25 = .ok (.iaload, 1) := by decide +kernel
theorem dX3_addProducts_26 : decode cX3_addProducts 26 = .ok (.aload_n 1, 1) := by decide +kernel
theorem dX3_addProducts_27 : decode cX3_addProducts 27 = .ok (.iload_n 3, 1) := by decide +kernel
theorem dX3_addProducts_28 : decode cX3_addProducts 28 = .ok (.iaload, 1) := by decide +kernel
theorem dX3_addProducts_29 : decode cX3_addProducts 29 = .ok (.imul, 1) := by decide +kernel
theorem dX3_addProducts_30 : decode cX3_addProducts 30 = .ok (.i2l, 1) := by decide +kernel
theorem dX3_addProducts_31 : decode cX3_addProducts 31 = .ok (.ladd, 1) := by decide +kernel
theorem dX3_addProducts_32 : decode cX3_addProducts 32 = .ok (.lastore, 1) := by decide +kernel
theorem dX3_addProducts_33 : decode cX3_addProducts 33 = .ok (.iinc 3 1, 3) := by decide +kernel
theorem dX3_addProducts_36 : decode cX3_addProducts 36 = .ok (.goto (-27), 3) := by decide +kernel
theorem dX3_addProducts_39 : decode cX3_addProducts 39 = .ok (.iinc 2 1, 3) := by decide +kernel
theorem dX3_addProducts_42 : decode cX3_addProducts 42 = .ok (.goto (-40), 3) := by decide +kernel
theorem dX3_addProducts_45 : decode cX3_addProducts 45 = .ok (.return_, 1) := by decide +kernel
set_option maxRecDepth 20000 in
theorem ggX3_findCofactors_X5_axisAfter : GoodIn wsX3_findCofactors wsX5_axisAfter := goodIn_r _ [5] (by decide +kernel) (by decide +kernel)
set_option maxRecDepth 20000 in
theorem gX3_findCofactors_X5_axisAfter_n54 : GoodIn wsX3_findCofactors (wsX5_axisAfter) := ggX3_findCofactors_X5_axisAfter
theorem dX3_findCofactors_0 : decode cX3_findCofactors 0 = .ok (.iconst 0, 1) := by decide +kernel
theorem dX3_findCofactors_1 : decode cX3_findCofactors 1 = .ok (.istore_n 1, 1) := by decide +kernel
theorem dX3_findCofactors_2 : decode cX3_findCofactors 2 = .ok (.iload_n 1, 1) := by decide +kernel
theorem dX3_findCofactors_3 : decode cX3_findCofactors 3 = .ok (.iconst 3, 1) := by decide +kernel
theorem dX3_findCofactors_4 : decode cX3_findCofactors 4 = .ok (.if_icmp .ge 100, 3) := by decide +kernel
theorem dX3_findCofactors_7 : decode cX3_findCofactors 7 = .ok (.iload_n 1, 1) := by decide +kernel
theorem dX3_findCofactors_8 : decode cX3_findCofactors 8 = .ok (.iconst 1, 1) := by decide +kernel
theorem dX3_findCofactors_9 : decode cX3_findCofactors 9 = .ok (.invokestatic 54, 3) := by decide +kernel
theorem dX3_findCofactors_12 : decode cX3_findCofactors 12 = .ok (.istore_n 2, 1) := by decide +kernel
theorem dX3_findCofactors_13 : decode cX3_findCofactors 13 = .ok (.iload_n 1, 1) := by decide +kernel
theorem dX3_findCofactors_14 : decode cX3_findCofactors 14 = .ok (.iconst 2, 1) := by decide +kernel
theorem dX3_findCofactors_15 : decode cX3_findCofactors 15 = .ok (.invokestatic 54, 3) := by decide +kernel
theorem dX3_findCofactors_18 : decode cX3_findCofactors 18 = .ok (.istore_n 3, 1) := by decide +kernel
theorem dX3_findCofactors_19 : decode cX3_findCofactors 19 = .ok (.iconst 0, 1) := by decide +kernel
theorem dX3_findCofactors_20 : decode cX3_findCofactors 20 = .ok (.istore 4, 2) := by decide +kernel
theorem dX3_findCofactors_22 : decode cX3_findCofactors 22 = .ok (.iload 4, 2) := by decide +kernel
theorem dX3_findCofactors_24 : decode cX3_findCofactors 24 = .ok (.iconst 3, 1) := by decide +kernel
theorem dX3_findCofactors_25 : decode cX3_findCofactors 25 = .ok (.if_icmp .ge 73, 3) := by decide +kernel
theorem dX3_findCofactors_28 : decode cX3_findCofactors 28 = .ok (.iload 4, 2) := by decide +kernel
theorem dX3_findCofactors_30 : decode cX3_findCofactors 30 = .ok (.iconst 1, 1) := by decide +kernel
theorem dX3_findCofactors_31 : decode cX3_findCofactors 31 = .ok (.invokestatic 54, 3) := by decide +kernel
theorem dX3_findCofactors_34 : decode cX3_findCofactors 34 = .ok (.istore 5, 2) := by decide +kernel
theorem dX3_findCofactors_36 : decode cX3_findCofactors 36 = .ok (.iload 4, 2) := by decide +kernel
theorem dX3_findCofactors_38 : decode cX3_findCofactors 38 = .ok (.iconst 2, 1) := by decide +kernel
theorem dX3_findCofactors_39 : decode cX3_findCofactors 39 = .ok (.invokestatic 54, 3) := by decide +kernel
theorem dX3_findCofactors_42 : decode cX3_findCofactors 42 = .ok (.istore 6, 2) := by decide +kernel
theorem dX3_findCofactors_44 : decode cX3_findCofactors 44 = .ok (.aload_n 0, 1) := by decide +kernel
theorem dX3_findCofactors_45 : decode cX3_findCofactors 45 = .ok (.getfield 16, 3) := by decide +kernel
theorem dX3_findCofactors_48 : decode cX3_findCofactors 48 = .ok (.iload_n 1, 1) := by decide +kernel
theorem dX3_findCofactors_49 : decode cX3_findCofactors 49 = .ok (.aaload, 1) := by decide +kernel
theorem dX3_findCofactors_50 : decode cX3_findCofactors 50 = .ok (.iload 4, 2) := by decide +kernel
theorem dX3_findCofactors_52 : decode cX3_findCofactors 52 = .ok (.aload_n 0, 1) := by decide +kernel
theorem dX3_findCofactors_53 : decode cX3_findCofactors 53 = .ok (.getfield 11, 3) := by decide +kernel
theorem dX3_findCofactors_56 : decode cX3_findCofactors 56 = .ok (.iload_n 2, 1) := by decide +kernel
theorem dX3_findCofactors_57 : decode cX3_findCofactors 57 = .ok (.aaload, 1) := by decide +kernel
theorem dX3_findCofactors_58 : decode cX3_findCofactors 58 = .ok (.iload 5, 2) := by decide +kernel
theorem dX3_findCofactors_60 : decode cX3_findCofactors 60 = .ok (.laload, 1) := by decide +kernel
theorem dX3_findCofactors_61 : decode cX3_findCofactors 61 = .ok (.aload_n 0, 1) := by decide +kernel
theorem dX3_findCofactors_62 : decode cX3_findCofactors 62 = .ok (.getfield 11, 3) := by decide +kernel
theorem dX3_findCofactors_65 : decode cX3_findCofactors 65 = .ok (.iload_n 3, 1) := by decide +kernel
theorem dX3_findCofactors_66 : decode cX3_findCofactors 66 = .ok (.aaload, 1) := by decide +kernel
theorem dX3_findCofactors_67 : decode cX3_findCofactors 67 = .ok (.iload 6, 2) := by decide +kernel
theorem dX3_findCofactors_69 : decode cX3_findCofactors 69 = .ok (.laload, 1) := by decide +kernel
theorem dX3_findCofactors_70 : decode cX3_findCofactors 70 = .ok (.lmul, 1) := by decide +kernel
theorem dX3_findCofactors_71 : decode cX3_findCofactors 71 = .ok (.aload_n 0, 1) := by decide +kernel
theorem dX3_findCofactors_72 : decode cX3_findCofactors 72 = .ok (.getfield 11, 3) := by decide +kernel
theorem dX3_findCofactors_75 : decode cX3_findCofactors 75 = .ok (.iload_n 2, 1) := by decide +kernel
theorem dX3_findCofactors_76 : decode cX3_findCofactors 76 = .ok (.aaload, 1) := by decide +kernel
theorem dX3_findCofactors_77 : decode cX3_findCofactors 77 = .ok (.iload 6, 2) := by decide +kernel
theorem dX3_findCofactors_79 : decode cX3_findCofactors 79 = .ok (.laload, 1) := by decide +kernel
theorem dX3_findCofactors_80 : decode cX3_findCofactors 80 = .ok (.aload_n 0, 1) := by decide +kernel
theorem dX3_findCofactors_81 : decode cX3_findCofactors 81 = .ok (.getfield 11, 3) := by decide +kernel
theorem dX3_findCofactors_84 : decode cX3_findCofactors 84 = .ok (.iload_n 3, 1) := by decide +kernel
theorem dX3_findCofactors_85 : decode cX3_findCofactors 85 = .ok (.aaload, 1) := by decide +kernel
theorem dX3_findCofactors_86 : decode cX3_findCofactors 86 = .ok (.iload 5, 2) := by decide +kernel
theorem dX3_findCofactors_88 : decode cX3_findCofactors 88 = .ok (.laload, 1) := by decide +kernel
theorem dX3_findCofactors_89 : decode cX3_findCofactors 89 = .ok (.lmul, 1) := by decide +kernel
theorem dX3_findCofactors_90 : decode cX3_findCofactors 90 = .ok (.lsub, 1) := by decide +kernel
theorem dX3_findCofactors_91 : decode cX3_findCofactors 91 = .ok (.lastore, 1) := by decide +kernel
theorem dX3_findCofactors_92 : decode cX3_findCofactors 92 = .ok (.iinc 4 1, 3) := by decide +kernel
theorem dX3_findCofactors_95 : decode cX3_findCofactors 95 = .ok (.goto (-73), 3) := by decide +kernel
theorem dX3_findCofactors_98 : decode cX3_findCofactors 98 = .ok (.iinc 1 1, 3) := by decide +kernel
theorem dX3_findCofactors_101 : decode cX3_findCofactors 101 = .ok (.goto (-99), 3) := by decide +kernel
theorem dX3_findCofactors_104 : decode cX3_findCofactors 104 = .ok (.return_, 1) := by decide +kernel
theorem dX3_spans_0 : decode cX3_spans 0 = .ok (.aload_n 0, 1) := by decide +kernel
theorem dX3_spans_1 : decode cX3_spans 1 = .ok (.getfield 50, 3) := by decide +kernel
theorem dX3_spans_4 : decode cX3_spans 4 = .ok (.lconst 0, 1) := by decide +kernel
theorem dX3_spans_5 : decode cX3_spans 5 = .ok (.lcmp, 1) := by decide +kernel
theorem dX3_spans_6 : decode cX3_spans 6 = .ok (.ifCond .le 7, 3) := by decide +kernel
theorem dX3_spans_9 : decode cX3_spans 9 = .ok (.iconst 1, 1) := by decide +kernel
theorem dX3_spans_10 : decode cX3_spans 10 = .ok (.goto 4, 3) := by decide +kernel
theorem dX3_spans_13 : decode cX3_spans 13 = .ok (.iconst 0, 1) := by decide +kernel
theorem dX3_spans_14 : decode cX3_spans 14 = .ok (.ireturn, 1) := by decide +kernel
theorem dX3_aim_0 : decode cX3_aim 0 = .ok (.iconst 0, 1) := by decide +kernel
theorem dX3_aim_1 : decode cX3_aim 1 = .ok (.istore 7, 2) := by decide +kernel
theorem dX3_aim_3 : decode cX3_aim 3 = .ok (.iload 7, 2) := by decide +kernel
theorem dX3_aim_5 : decode cX3_aim 5 = .ok (.iconst 3, 1) := by decide +kernel
theorem dX3_aim_6 : decode cX3_aim 6 = .ok (.if_icmp .ge 52, 3) := by decide +kernel
theorem dX3_aim_9 : decode cX3_aim 9 = .ok (.aload_n 0, 1) := by decide +kernel
theorem dX3_aim_10 : decode cX3_aim 10 = .ok (.getfield 19, 3) := by decide +kernel
theorem dX3_aim_13 : decode cX3_aim 13 = .ok (.iload 7, 2) := by decide +kernel
theorem dX3_aim_15 : decode cX3_aim 15 = .ok (.aload_n 0, 1) := by decide +kernel
theorem dX3_aim_16 : decode cX3_aim 16 = .ok (.getfield 16, 3) := by decide +kernel
theorem dX3_aim_19 : decode cX3_aim 19 = .ok (.iload 7, 2) := by decide +kernel
theorem dX3_aim_21 : decode cX3_aim 21 = .ok (.aaload, 1) := by decide +kernel
theorem dX3_aim_22 : decode cX3_aim 22 = .ok (.iconst 0, 1) := by decide +kernel
theorem dX3_aim_23 : decode cX3_aim 23 = .ok (.laload, 1) := by decide +kernel
theorem dX3_aim_24 : decode cX3_aim 24 = .ok (.lload_n 1, 1) := by decide +kernel
theorem dX3_aim_25 : decode cX3_aim 25 = .ok (.lmul, 1) := by decide +kernel
theorem dX3_aim_26 : decode cX3_aim 26 = .ok (.aload_n 0, 1) := by decide +kernel
theorem dX3_aim_27 : decode cX3_aim 27 = .ok (.getfield 16, 3) := by decide +kernel
theorem dX3_aim_30 : decode cX3_aim 30 = .ok (.iload 7, 2) := by decide +kernel
theorem dX3_aim_32 : decode cX3_aim 32 = .ok (.aaload, 1) := by decide +kernel
theorem dX3_aim_33 : decode cX3_aim 33 = .ok (.iconst 1, 1) := by decide +kernel
theorem dX3_aim_34 : decode cX3_aim 34 = .ok (.laload, 1) := by decide +kernel
theorem dX3_aim_35 : decode cX3_aim 35 = .ok (.lload_n 3, 1) := by decide +kernel
theorem dX3_aim_36 : decode cX3_aim 36 = .ok (.lmul, 1) := by decide +kernel
theorem dX3_aim_37 : decode cX3_aim 37 = .ok (.ladd, 1) := by decide +kernel
theorem dX3_aim_38 : decode cX3_aim 38 = .ok (.aload_n 0, 1) := by decide +kernel
theorem dX3_aim_39 : decode cX3_aim 39 = .ok (.getfield 16, 3) := by decide +kernel
theorem dX3_aim_42 : decode cX3_aim 42 = .ok (.iload 7, 2) := by decide +kernel
theorem dX3_aim_44 : decode cX3_aim 44 = .ok (.aaload, 1) := by decide +kernel
theorem dX3_aim_45 : decode cX3_aim 45 = .ok (.iconst 2, 1) := by decide +kernel
theorem dX3_aim_46 : decode cX3_aim 46 = .ok (.laload, 1) := by decide +kernel
theorem dX3_aim_47 : decode cX3_aim 47 = .ok (.lload 5, 2) := by decide +kernel
theorem dX3_aim_49 : decode cX3_aim 49 = .ok (.lmul, 1) := by decide +kernel
theorem dX3_aim_50 : decode cX3_aim 50 = .ok (.ladd, 1) := by decide +kernel
theorem dX3_aim_51 : decode cX3_aim 51 = .ok (.lastore, 1) := by decide +kernel
theorem dX3_aim_52 : decode cX3_aim 52 = .ok (.iinc 7 1, 3) := by decide +kernel
theorem dX3_aim_55 : decode cX3_aim 55 = .ok (.goto (-52), 3) := by decide +kernel
theorem dX3_aim_58 : decode cX3_aim 58 = .ok (.return_, 1) := by decide +kernel
set_option maxRecDepth 20000 in
theorem ggX3_wishOf_X3_spans : GoodIn wsX3_wishOf wsX3_spans := goodIn_r _ [9, 3, 20, 21, 22, 23] (by decide +kernel) (by decide +kernel)
set_option maxRecDepth 20000 in
theorem gX3_wishOf_X3_spans : GoodIn wsX3_wishOf (wsV RX3 58 RX3 yX3_spans wsX3_spans) := goodIn_app (goodIn_of _ (by decide +kernel)) ggX3_wishOf_X3_spans
set_option maxRecDepth 20000 in
theorem ggX3_wishOf_J9_floorDiv_f86c9 : GoodIn wsX3_wishOf wsJ9_floorDiv_f86c9 := goodIn_r _ [13] (by decide +kernel) (by decide +kernel)
set_option maxRecDepth 20000 in
theorem gX3_wishOf_J9_floorDiv_f86c9 : GoodIn wsX3_wishOf (va_wsS RX3 64 yJ9_floorDiv_f86c9 wsJ9_floorDiv_f86c9) := goodIn_app (goodIn_of _ (by decide +kernel)) ggX3_wishOf_J9_floorDiv_f86c9
theorem dX3_wishOf_0 : decode cX3_wishOf 0 = .ok (.lconst 0, 1) := by decide +kernel
theorem dX3_wishOf_1 : decode cX3_wishOf 1 = .ok (.lstore_n 2, 1) := by decide +kernel
theorem dX3_wishOf_2 : decode cX3_wishOf 2 = .ok (.iconst 0, 1) := by decide +kernel
theorem dX3_wishOf_3 : decode cX3_wishOf 3 = .ok (.istore 4, 2) := by decide +kernel
theorem dX3_wishOf_5 : decode cX3_wishOf 5 = .ok (.iload 4, 2) := by decide +kernel
theorem dX3_wishOf_7 : decode cX3_wishOf 7 = .ok (.iconst 3, 1) := by decide +kernel
theorem dX3_wishOf_8 : decode cX3_wishOf 8 = .ok (.if_icmp .ge 28, 3) := by decide +kernel
theorem dX3_wishOf_11 : decode cX3_wishOf 11 = .ok (.lload_n 2, 1) := by decide +kernel
theorem dX3_wishOf_12 : decode cX3_wishOf 12 = .ok (.aload_n 1, 1) := by decide +kernel
theorem dX3_wishOf_13 : decode cX3_wishOf 13 = .ok (.getfield 39, 3) := by decide +kernel
theorem dX3_wishOf_16 : decode cX3_wishOf 16 = .ok (.iload 4, 2) := by decide +kernel
theorem dX3_wishOf_18 : decode cX3_wishOf 18 = .ok (.iaload, 1) := by decide +kernel
theorem dX3_wishOf_19 : decode cX3_wishOf 19 = .ok (.i2l, 1) := by decide +kernel
theorem dX3_wishOf_20 : decode cX3_wishOf 20 = .ok (.aload_n 0, 1) := by decide +kernel
theorem dX3_wishOf_21 : decode cX3_wishOf 21 = .ok (.getfield 19, 3) := by decide +kernel
theorem dX3_wishOf_24 : decode cX3_wishOf 24 = .ok (.iload 4, 2) := by decide +kernel
theorem dX3_wishOf_26 : decode cX3_wishOf 26 = .ok (.laload, 1) := by decide +kernel
theorem dX3_wishOf_27 : decode cX3_wishOf 27 = .ok (.lmul, 1) := by decide +kernel
theorem dX3_wishOf_28 : decode cX3_wishOf 28 = .ok (.ladd, 1) := by decide +kernel
theorem dX3_wishOf_29 : decode cX3_wishOf 29 = .ok (.lstore_n 2, 1) := by decide +kernel
theorem dX3_wishOf_30 : decode cX3_wishOf 30 = .ok (.iinc 4 1, 3) := by decide +kernel
theorem dX3_wishOf_33 : decode cX3_wishOf 33 = .ok (.goto (-28), 3) := by decide +kernel
theorem dX3_wishOf_36 : decode cX3_wishOf 36 = .ok (.aload_n 0, 1) := by decide +kernel
theorem dX3_wishOf_37 : decode cX3_wishOf 37 = .ok (.invokevirtual 58, 3) := by decide +kernel
theorem dX3_wishOf_40 : decode cX3_wishOf 40 = .ok (.ifCond .eq 27, 3) := by decide +kernel
theorem dX3_wishOf_43 : decode cX3_wishOf 43 = .ok (.aload_n 0, 1) := by decide +kernel
theorem dX3_wishOf_44 : decode cX3_wishOf 44 = .ok (.getfield 50, 3) := by decide +kernel
theorem dX3_wishOf_47 : decode cX3_wishOf 47 = .ok (.ldc2_w 62, 3) := by decide +kernel
theorem dX3_wishOf_50 : decode cX3_wishOf 50 = .ok (.lload_n 2, 1) := by decide +kernel
theorem dX3_wishOf_51 : decode cX3_wishOf 51 = .ok (.lmul, 1) := by decide +kernel
theorem dX3_wishOf_52 : decode cX3_wishOf 52 = .ok (.lsub, 1) := by decide +kernel
theorem dX3_wishOf_53 : decode cX3_wishOf 53 = .ok (.ldc2_w 62, 3) := by decide +kernel
theorem dX3_wishOf_56 : decode cX3_wishOf 56 = .ok (.aload_n 0, 1) := by decide +kernel
theorem dX3_wishOf_57 : decode cX3_wishOf 57 = .ok (.getfield 50, 3) := by decide +kernel
theorem dX3_wishOf_60 : decode cX3_wishOf 60 = .ok (.lmul, 1) := by decide +kernel
theorem dX3_wishOf_61 : decode cX3_wishOf 61 = .ok (.invokestatic 64, 3) := by decide +kernel
theorem dX3_wishOf_64 : decode cX3_wishOf 64 = .ok (.goto 4, 3) := by decide +kernel
theorem dX3_wishOf_67 : decode cX3_wishOf 67 = .ok (.lconst 0, 1) := by decide +kernel
theorem dX3_wishOf_68 : decode cX3_wishOf 68 = .ok (.lreturn, 1) := by decide +kernel
set_option maxRecDepth 20000 in
theorem ggX3_share_X3_spans : GoodIn wsX3_share wsX3_spans := goodIn_r _ [10, 11, 95, 96, 97, 98] (by decide +kernel) (by decide +kernel)
set_option maxRecDepth 20000 in
theorem gX3_share_X3_spans : GoodIn wsX3_share (wsV RX3 58 RX3 yX3_spans wsX3_spans) := goodIn_app (goodIn_of _ (by decide +kernel)) ggX3_share_X3_spans
set_option maxRecDepth 20000 in
theorem ggX3_share_X0_tellNoSpan : GoodIn wsX3_share wsX0_tellNoSpan := goodIn_r _ [16, 17, 18, 19, 20, 21, 78, 79, 80, 81, 82, 83, 84, 85, 86, 87, 88, 89, 90, 91, 92, 93, 94] (by decide +kernel) (by decide +kernel)
set_option maxRecDepth 20000 in
theorem gX3_share_X0_tellNoSpan : GoodIn wsX3_share (wsV RX3 73 RX0 yX0_tellNoSpan wsX0_tellNoSpan) := goodIn_app (goodIn_of _ (by decide +kernel)) ggX3_share_X0_tellNoSpan
set_option maxRecDepth 20000 in
theorem ggX3_share_X0_tellMet : GoodIn wsX3_share wsX0_tellMet := goodIn_r _ [25, 17, 18, 78, 79, 80, 81, 82, 83, 84, 85, 86, 87, 88] (by decide +kernel) (by decide +kernel)
set_option maxRecDepth 20000 in
theorem gX3_share_X0_tellMet : GoodIn wsX3_share (wsV RX3 76 RX0 yX0_tellMet wsX0_tellMet) := goodIn_app (goodIn_of _ (by decide +kernel)) ggX3_share_X0_tellMet
set_option maxRecDepth 20000 in
theorem ggX3_share_X3_aim : GoodIn wsX3_share wsX3_aim := goodIn_r _ [29, 30, 31, 95, 96, 97, 98] (by decide +kernel) (by decide +kernel)
set_option maxRecDepth 20000 in
theorem gX3_share_X3_aim : GoodIn wsX3_share (wsV RX3 82 RX3 yX3_aim wsX3_aim) := goodIn_app (goodIn_of _ (by decide +kernel)) ggX3_share_X3_aim
set_option maxRecDepth 20000 in
theorem ggX3_share_X3_give : GoodIn wsX3_share wsX3_give := goodIn_r _ [35, 2, 3, 36, 37, 38, 39, 40, 41, 9, 42, 30, 11, 43, 6, 7, 8, 10, 44, 45, 46, 47, 48, 49, 50, 51, 52, 53, 54, 55, 56, 57, 58, 59, 60, 61, 62, 63, 64, 65, 66, 67, 68, 69, 70, 71, 72, 15, 73, 17, 74, 75, 76, 77, 18, 78, 79, 80, 81, 82, 83, 84, 85, 86, 87, 88, 89, 90, 91, 92, 93, 94, 95, 96, 97, 98] (by decide +kernel) (by decide +kernel)
set_option maxRecDepth 20000 in
theorem gX3_share_X3_give : GoodIn wsX3_share (wsV RX3 86 RX3 yX3_give wsX3_give) := goodIn_app (goodIn_of _ (by decide +kernel)) ggX3_share_X3_give
theorem dX3_share_0 : decode cX3_share 0 = .ok (.iconst 0, 1) := by decide +kernel
theorem dX3_share_1 : decode cX3_share 1 = .ok (.istore_n 2, 1) := by decide +kernel
theorem dX3_share_2 : decode cX3_share 2 = .ok (.iload_n 2, 1) := by decide +kernel
theorem dX3_share_3 : decode cX3_share 3 = .ok (.aload_n 1, 1) := by decide +kernel
theorem dX3_share_4 : decode cX3_share 4 = .ok (.getfield 23, 3) := by decide +kernel
theorem dX3_share_7 : decode cX3_share 7 = .ok (.if_icmp .ge 19, 3) := by decide +kernel
theorem dX3_share_10 : decode cX3_share 10 = .ok (.aload_n 1, 1) := by decide +kernel
theorem dX3_share_11 : decode cX3_share 11 = .ok (.getfield 29, 3) := by decide +kernel
theorem dX3_share_14 : decode cX3_share 14 = .ok (.iload_n 2, 1) := by decide +kernel
theorem dX3_share_15 : decode cX3_share 15 = .ok (.aaload, 1) := by decide +kernel
theorem dX3_share_16 : decode cX3_share 16 = .ok (.iconst 0, 1) := by decide +kernel
theorem dX3_share_17 : decode cX3_share 17 = .ok (.putfield 70, 3) := by decide +kernel
theorem dX3_share_20 : decode cX3_share 20 = .ok (.iinc 2 1, 3) := by decide +kernel
theorem dX3_share_23 : decode cX3_share 23 = .ok (.goto (-21), 3) := by decide +kernel
theorem dX3_share_26 : decode cX3_share 26 = .ok (.aload_n 0, 1) := by decide +kernel
theorem dX3_share_27 : decode cX3_share 27 = .ok (.invokevirtual 58, 3) := by decide +kernel
theorem dX3_share_30 : decode cX3_share 30 = .ok (.ifCond .ne 8, 3) := by decide +kernel
theorem dX3_share_33 : decode cX3_share 33 = .ok (.aload_n 1, 1) := by decide +kernel
theorem dX3_share_34 : decode cX3_share 34 = .ok (.invokevirtual 73, 3) := by decide +kernel
theorem dX3_share_37 : decode cX3_share 37 = .ok (.return_, 1) := by decide +kernel
theorem dX3_share_38 : decode cX3_share 38 = .ok (.aload_n 1, 1) := by decide +kernel
theorem dX3_share_39 : decode cX3_share 39 = .ok (.invokevirtual 76, 3) := by decide +kernel
theorem dX3_share_42 : decode cX3_share 42 = .ok (.aload_n 0, 1) := by decide +kernel
theorem dX3_share_43 : decode cX3_share 43 = .ok (.aload_n 1, 1) := by decide +kernel
theorem dX3_share_44 : decode cX3_share 44 = .ok (.getfield 79, 3) := by decide +kernel
theorem dX3_share_47 : decode cX3_share 47 = .ok (.iconst 0, 1) := by decide +kernel
theorem dX3_share_48 : decode cX3_share 48 = .ok (.laload, 1) := by decide +kernel
theorem dX3_share_49 : decode cX3_share 49 = .ok (.aload_n 1, 1) := by decide +kernel
theorem dX3_share_50 : decode cX3_share 50 = .ok (.getfield 79, 3) := by decide +kernel
theorem dX3_share_53 : decode cX3_share 53 = .ok (.iconst 1, 1) := by decide +kernel
theorem dX3_share_54 : decode cX3_share 54 = .ok (.laload, 1) := by decide +kernel
theorem dX3_share_55 : decode cX3_share 55 = .ok (.aload_n 1, 1) := by decide +kernel
theorem dX3_share_56 : decode cX3_share 56 = .ok (.getfield 79, 3) := by decide +kernel
theorem dX3_share_59 : decode cX3_share 59 = .ok (.iconst 2, 1) := by decide +kernel
theorem dX3_share_60 : decode cX3_share 60 = .ok (.laload, 1) := by decide +kernel
theorem dX3_share_61 : decode cX3_share 61 = .ok (.invokevirtual 82, 3) := by decide +kernel
theorem dX3_share_64 : decode cX3_share 64 = .ok (.iconst 0, 1) := by decide +kernel
theorem dX3_share_65 : decode cX3_share 65 = .ok (.istore_n 2, 1) := by decide +kernel
theorem dX3_share_66 : decode cX3_share 66 = .ok (.iload_n 2, 1) := by decide +kernel
theorem dX3_share_67 : decode cX3_share 67 = .ok (.aload_n 1, 1) := by decide +kernel
theorem dX3_share_68 : decode cX3_share 68 = .ok (.getfield 23, 3) := by decide +kernel
theorem dX3_share_71 : decode cX3_share 71 = .ok (.if_icmp .ge 27, 3) := by decide +kernel
theorem dX3_share_74 : decode cX3_share 74 = .ok (.aload_n 1, 1) := by decide +kernel
theorem dX3_share_75 : decode cX3_share 75 = .ok (.getfield 29, 3) := by decide +kernel
theorem dX3_share_78 : decode cX3_share 78 = .ok (.iload_n 2, 1) := by decide +kernel
theorem dX3_share_79 : decode cX3_share 79 = .ok (.aaload, 1) := by decide +kernel
theorem dX3_share_80 : decode cX3_share 80 = .ok (.getfield 33, 3) := by decide +kernel
theorem dX3_share_83 : decode cX3_share 83 = .ok (.ifCond .ne 9, 3) := by decide +kernel
theorem dX3_share_86 : decode cX3_share 86 = .ok (.aload_n 0, 1) := by decide +kernel
theorem dX3_share_87 : decode cX3_share 87 = .ok (.aload_n 1, 1) := by decide +kernel
theorem dX3_share_88 : decode cX3_share 88 = .ok (.iload_n 2, 1) := by decide +kernel
theorem dX3_share_89 : decode cX3_share 89 = .ok (.invokevirtual 86, 3) := by decide +kernel
theorem dX3_share_92 : decode cX3_share 92 = .ok (.iinc 2 1, 3) := by decide +kernel
theorem dX3_share_95 : decode cX3_share 95 = .ok (.goto (-29), 3) := by decide +kernel
theorem dX3_share_98 : decode cX3_share 98 = .ok (.return_, 1) := by decide +kernel
set_option maxRecDepth 20000 in
theorem ggX3_give_X3_wishOf : GoodIn wsX3_give wsX3_wishOf := goodIn_r _ [10, 5, 11, 12, 13, 14, 15, 16, 9, 17, 18, 19, 20, 21, 66, 67, 68, 69, 70, 71, 72, 73, 74, 75] (by decide +kernel) (by decide +kernel)
set_option maxRecDepth 20000 in
theorem gX3_give_X3_wishOf : GoodIn wsX3_give (wsV RX3 90 RX3 yX3_wishOf wsX3_wishOf) := goodIn_app (goodIn_of _ (by decide +kernel)) ggX3_give_X3_wishOf
set_option maxRecDepth 20000 in
theorem ggX3_give_X4_allowedByTorque : GoodIn wsX3_give wsX4_allowedByTorque := goodIn_r _ [26, 27, 28, 29, 30, 66, 67, 68, 69, 70, 71] (by decide +kernel) (by decide +kernel)
set_option maxRecDepth 20000 in
theorem gX3_give_X4_allowedByTorque : GoodIn wsX3_give (wsV RX3 94 RX4 yX4_allowedByTorque wsX4_allowedByTorque) := goodIn_app (goodIn_of _ (by decide +kernel)) ggX3_give_X4_allowedByTorque
set_option maxRecDepth 20000 in
theorem ggX3_give_X4_allowedByMomentum : GoodIn wsX3_give wsX4_allowedByMomentum := goodIn_r _ [34, 35, 36, 37, 38, 39, 40, 41, 42, 43, 28, 29, 30, 66, 67, 68, 69, 70, 71] (by decide +kernel) (by decide +kernel)
set_option maxRecDepth 20000 in
theorem gX3_give_X4_allowedByMomentum : GoodIn wsX3_give (wsV RX3 98 RX4 yX4_allowedByMomentum wsX4_allowedByMomentum) := goodIn_app (goodIn_of _ (by decide +kernel)) ggX3_give_X4_allowedByMomentum
set_option maxRecDepth 20000 in
theorem ggX3_give_X0_isMet : GoodIn wsX3_give wsX0_isMet := goodIn_r _ [48, 49, 55, 56, 57, 58, 59, 60, 61, 62, 63, 64, 65] (by decide +kernel) (by decide +kernel)
set_option maxRecDepth 20000 in
theorem gX3_give_X0_isMet : GoodIn wsX3_give (wsV RX3 106 RX0 yX0_isMet wsX0_isMet) := goodIn_app (goodIn_of _ (by decide +kernel)) ggX3_give_X0_isMet
set_option maxRecDepth 20000 in
theorem ggX3_give_X0_tellLimited : GoodIn wsX3_give wsX0_tellLimited := goodIn_r _ [53, 49, 54, 55, 56, 57, 58, 59, 60, 61, 62, 63, 64, 65] (by decide +kernel) (by decide +kernel)
set_option maxRecDepth 20000 in
theorem gX3_give_X0_tellLimited : GoodIn wsX3_give (wsV RX3 109 RX0 yX0_tellLimited wsX0_tellLimited) := goodIn_app (goodIn_of _ (by decide +kernel)) ggX3_give_X0_tellLimited
theorem dX3_give_0 : decode cX3_give 0 = .ok (.aload_n 1, 1) := by decide +kernel
theorem dX3_give_1 : decode cX3_give 1 = .ok (.getfield 29, 3) := by decide +kernel
theorem dX3_give_4 : decode cX3_give 4 = .ok (.iload_n 2, 1) := by decide +kernel
theorem dX3_give_5 : decode cX3_give 5 = .ok (.aaload, 1) := by decide +kernel
theorem dX3_give_6 : decode cX3_give 6 = .ok (.astore_n 3, 1) := by decide +kernel
theorem dX3_give_7 : decode cX3_give 7 = .ok (.aload_n 0, 1) := by decide +kernel
theorem dX3_give_8 : decode cX3_give 8 = .ok (.aload_n 3, 1) := by decide +kernel
theorem dX3_give_9 : decode cX3_give 9 = .ok (.invokevirtual 90, 3) := by decide +kernel
theorem dX3_give_12 : decode cX3_give 12 = .ok (.lstore 4, 2) := by decide +kernel
theorem dX3_give_14 : decode cX3_give 14 = .ok (.aload_n 3, 1) := by decide +kernel
theorem dX3_give_15 : decode cX3_give 15 = .ok (.lload 4, 2) := by decide +kernel
theorem dX3_give_17 : decode cX3_give 17 = .ok (.invokevirtual 94, 3) := by decide +kernel
theorem dX3_give_20 : decode cX3_give 20 = .ok (.lstore 6, 2) := by decide +kernel
theorem dX3_give_22 : decode cX3_give 22 = .ok (.aload_n 3, 1) := by decide +kernel
theorem dX3_give_23 : decode cX3_give 23 = .ok (.lload 6, 2) := by decide +kernel
theorem dX3_give_25 : decode cX3_give 25 = .ok (.invokevirtual 98, 3) := by decide +kernel
theorem dX3_give_28 : decode cX3_give 28 = .ok (.lstore 8, 2) := by decide +kernel
theorem dX3_give_30 : decode cX3_give 30 = .ok (.aload_n 3, 1) := by decide +kernel
theorem dX3_give_31 : decode cX3_give 31 = .ok (.lload 8, 2) := by decide +kernel
theorem dX3_give_33 : decode cX3_give 33 = .ok (.l2i, 1) := by decide +kernel
theorem dX3_give_34 : decode cX3_give 34 = .ok (.putfield 70, 3) := by decide +kernel
theorem dX3_give_37 : decode cX3_give 37 = .ok (.aload_n 3, 1) := by decide +kernel
theorem dX3_give_38 : decode cX3_give 38 = .ok (.dup, 1) := by decide +kernel
theorem dX3_give_39 : decode cX3_give 39 = .ok (.getfield 101, 3) := by decide +kernel
theorem dX3_give_42 : decode cX3_give 42 = .ok (.aload_n 3, 1) := by decide +kernel
theorem dX3_give_43 : decode cX3_give 43 = .ok (.getfield 70, 3) := by decide +kernel
theorem dX3_give_46 : decode cX3_give 46 = .ok (.iadd, 1) := by decide +kernel
theorem dX3_give_47 : decode cX3_give 47 = .ok (.putfield 101, 3) := by decide +kernel
theorem dX3_give_50 : decode cX3_give 50 = .ok (.iconst 0, 1) := by decide +kernel
theorem dX3_give_51 : decode cX3_give 51 = .ok (.istore 10, 2) := by decide +kernel
theorem dX3_give_53 : decode cX3_give 53 = .ok (.iload 10, 2) := by decide +kernel
theorem dX3_give_55 : decode cX3_give 55 = .ok (.iconst 3, 1) := by decide +kernel
theorem dX3_give_56 : decode cX3_give 56 = .ok (.if_icmp .ge 30, 3) := by decide +kernel
theorem dX3_give_59 : decode cX3_give 59 = .ok (.aload_n 1, 1) := by decide +kernel
theorem dX3_give_60 : decode cX3_give 60 = .ok (.getfield 104, 3) := by decide +kernel
theorem dX3_give_63 : decode cX3_give 63 = .ok (.iload 10, 2) := by decide +kernel
theorem dX3_give_65 : decode cX3_give 65 = .ok (.dup2, 1) := by decide +kernel
theorem dX3_give_66 : decode cX3_give 66 = .ok (.laload, 1) := by decide +kernel
theorem dX3_give_67 : decode cX3_give 67 = .ok (.aload_n 3, 1) := by decide +kernel
theorem dX3_give_68 : decode cX3_give 68 = .ok (.getfield 39, 3) := by decide +kernel
theorem dX3_give_71 : decode cX3_give 71 = .ok (.iload 10, 2) := by decide +kernel
theorem dX3_give_73 : decode cX3_give 73 = .ok (.iaload, 1) := by decide +kernel
theorem dX3_give_74 : decode cX3_give 74 = .ok (.i2l, 1) := by decide +kernel
theorem dX3_give_75 : decode cX3_give 75 = .ok (.lload 8, 2) := by decide +kernel
theorem dX3_give_77 : decode cX3_give 77 = .ok (.lmul, 1) := by decide +kernel
theorem dX3_give_78 : decode cX3_give 78 = .ok (.lsub, 1) := by decide +kernel
theorem dX3_give_79 : decode cX3_give 79 = .ok (.lastore, 1) := by decide +kernel
theorem dX3_give_80 : decode cX3_give 80 = .ok (.iinc 10 1, 3) := by decide +kernel
theorem dX3_give_83 : decode cX3_give 83 = .ok (.goto (-30), 3) := by decide +kernel
theorem dX3_give_86 : decode cX3_give 86 = .ok (.lload 8, 2) := by decide +kernel
theorem dX3_give_88 : decode cX3_give 88 = .ok (.lload 4, 2) := by decide +kernel
theorem dX3_give_90 : decode cX3_give 90 = .ok (.lcmp, 1) := by decide +kernel
theorem dX3_give_91 : decode cX3_give 91 = .ok (.ifCond .eq 28, 3) := by decide +kernel
theorem dX3_give_94 : decode cX3_give 94 = .ok (.aload_n 1, 1) := by decide +kernel
theorem dX3_give_95 : decode cX3_give 95 = .ok (.invokevirtual 106, 3) := by decide +kernel
theorem dX3_give_98 : decode cX3_give 98 = .ok (.ifCond .eq 21, 3) := by decide +kernel
theorem dX3_give_101 : decode cX3_give 101 = .ok (.aload_n 1, 1) := by decide +kernel
theorem dX3_give_102 : decode cX3_give 102 = .ok (.iload_n 2, 1) := by decide +kernel
theorem dX3_give_103 : decode cX3_give 103 = .ok (.lload 8, 2) := by decide +kernel
theorem dX3_give_105 : decode cX3_give 105 = .ok (.lload 6, 2) := by decide +kernel
theorem dX3_give_107 : decode cX3_give 107 = .ok (.lcmp, 1) := by decide +kernel
theorem dX3_give_108 : decode cX3_give 108 = .ok (.ifCond .ne 7, 3) := by decide +kernel
theorem dX3_give_111 : decode cX3_give 111 = .ok (.iconst 1, 1) := by decide +kernel
theorem dX3_give_112 : decode cX3_give 112 = .ok (.goto 4, 3) := by decide +kernel
theorem dX3_give_115 : decode cX3_give 115 = .ok (.iconst 0, 1) := by decide +kernel
theorem dX3_give_116 : decode cX3_give 116 = .ok (.invokevirtual 109, 3) := by decide +kernel
theorem dX3_give_119 : decode cX3_give 119 = .ok (.return_, 1) := by decide +kernel
theorem dX4_init_0 : decode cX4_init 0 = .ok (.aload_n 0, 1) := by decide +kernel
theorem dX4_init_1 : decode cX4_init 1 = .ok (.invokespecial 3, 3) := by decide +kernel
theorem dX4_init_4 : decode cX4_init 4 = .ok (.aload_n 0, 1) := by decide +kernel
theorem dX4_init_5 : decode cX4_init 5 = .ok (.iconst 3, 1) := by decide +kernel
theorem dX4_init_6 : decode cX4_init 6 = .ok (.newarray .int, 2) := by decide +kernel
theorem dX4_init_8 : decode cX4_init 8 = .ok (.putfield 9, 3) := by decide +kernel
theorem dX4_init_11 : decode cX4_init 11 = .ok (.return_, 1) := by decide +kernel
theorem dX4_start_0 : decode cX4_start 0 = .ok (.aload_n 0, 1) := by decide +kernel
theorem dX4_start_1 : decode cX4_start 1 = .ok (.getfield 9, 3) := by decide +kernel
theorem dX4_start_4 : decode cX4_start 4 = .ok (.iconst 0, 1) := by decide +kernel
theorem dX4_start_5 : decode cX4_start 5 = .ok (.iload_n 1, 1) := by decide +kernel
theorem dX4_start_6 : decode cX4_start 6 = .ok (.iastore, 1) := by decide +kernel
theorem dX4_start_7 : decode cX4_start 7 = .ok (.aload_n 0, 1) := by decide +kernel
theorem dX4_start_8 : decode cX4_start 8 = .ok (.getfield 9, 3) := by decide +kernel
theorem dX4_start_11 : decode cX4_start 11 = .ok (.iconst 1, 1) := by decide +kernel
theorem dX4_start_12 : decode cX4_start 12 = .ok (.iload_n 2, 1) := by decide +kernel
theorem dX4_start_13 : decode cX4_start 13 = .ok (.iastore, 1) := by decide +kernel
theorem dX4_start_14 : decode cX4_start 14 = .ok (.aload_n 0, 1) := by decide +kernel
theorem dX4_start_15 : decode cX4_start 15 = .ok (.getfield 9, 3) := by decide +kernel
theorem dX4_start_18 : decode cX4_start 18 = .ok (.iconst 2, 1) := by decide +kernel
theorem dX4_start_19 : decode cX4_start 19 = .ok (.iload_n 3, 1) := by decide +kernel
theorem dX4_start_20 : decode cX4_start 20 = .ok (.iastore, 1) := by decide +kernel
theorem dX4_start_21 : decode cX4_start 21 = .ok (.aload_n 0, 1) := by decide +kernel
theorem dX4_start_22 : decode cX4_start 22 = .ok (.iconst 0, 1) := by decide +kernel
theorem dX4_start_23 : decode cX4_start 23 = .ok (.putfield 15, 3) := by decide +kernel
theorem dX4_start_26 : decode cX4_start 26 = .ok (.aload_n 0, 1) := by decide +kernel
theorem dX4_start_27 : decode cX4_start 27 = .ok (.iload 4, 2) := by decide +kernel
theorem dX4_start_29 : decode cX4_start 29 = .ok (.putfield 19, 3) := by decide +kernel
theorem dX4_start_32 : decode cX4_start 32 = .ok (.aload_n 0, 1) := by decide +kernel
theorem dX4_start_33 : decode cX4_start 33 = .ok (.iload 5, 2) := by decide +kernel
theorem dX4_start_35 : decode cX4_start 35 = .ok (.putfield 22, 3) := by decide +kernel
theorem dX4_start_38 : decode cX4_start 38 = .ok (.aload_n 0, 1) := by decide +kernel
theorem dX4_start_39 : decode cX4_start 39 = .ok (.iconst 0, 1) := by decide +kernel
theorem dX4_start_40 : decode cX4_start 40 = .ok (.putfield 25, 3) := by decide +kernel
theorem dX4_start_43 : decode cX4_start 43 = .ok (.aload_n 0, 1) := by decide +kernel
theorem dX4_start_44 : decode cX4_start 44 = .ok (.iconst 0, 1) := by decide +kernel
theorem dX4_start_45 : decode cX4_start 45 = .ok (.putfield 29, 3) := by decide +kernel
theorem dX4_start_48 : decode cX4_start 48 = .ok (.return_, 1) := by decide +kernel
theorem dX4_become_0 : decode cX4_become 0 = .ok (.aload_n 1, 1) := by decide +kernel
theorem dX4_become_1 : decode cX4_become 1 = .ok (.getfield 9, 3) := by decide +kernel
theorem dX4_become_4 : decode cX4_become 4 = .ok (.iconst 0, 1) := by decide +kernel
theorem dX4_become_5 : decode cX4_become 5 = .ok (.aload_n 0, 1) := by decide +kernel
theorem dX4_become_6 : decode cX4_become 6 = .ok (.getfield 9, 3) := by decide +kernel
theorem dX4_become_9 : decode cX4_become 9 = .ok (.iconst 0, 1) := by decide +kernel
theorem dX4_become_10 : decode cX4_become 10 = .ok (.iconst 3, 1) := by decide +kernel
theorem dX4_become_11 : decode cX4_become 11 = .ok (.invokestatic 32, 3) := by decide +kernel
theorem dX4_become_14 : decode cX4_become 14 = .ok (.aload_n 0, 1) := by decide +kernel
theorem dX4_become_15 : decode cX4_become 15 = .ok (.aload_n 1, 1) := by decide +kernel
theorem dX4_become_16 : decode cX4_become 16 = .ok (.getfield 15, 3) := by decide +kernel
theorem dX4_become_19 : decode cX4_become 19 = .ok (.putfield 15, 3) := by decide +kernel
theorem dX4_become_22 : decode cX4_become 22 = .ok (.aload_n 0, 1) := by decide +kernel
theorem dX4_become_23 : decode cX4_become 23 = .ok (.aload_n 1, 1) := by decide +kernel
theorem dX4_become_24 : decode cX4_become 24 = .ok (.getfield 19, 3) := by decide +kernel
theorem dX4_become_27 : decode cX4_become 27 = .ok (.putfield 19, 3) := by decide +kernel
theorem dX4_become_30 : decode cX4_become 30 = .ok (.aload_n 0, 1) := by decide +kernel
theorem dX4_become_31 : decode cX4_become 31 = .ok (.aload_n 1, 1) := by decide +kernel
theorem dX4_become_32 : decode cX4_become 32 = .ok (.getfield 22, 3) := by decide +kernel
theorem dX4_become_35 : decode cX4_become 35 = .ok (.putfield 22, 3) := by decide +kernel
theorem dX4_become_38 : decode cX4_become 38 = .ok (.aload_n 0, 1) := by decide +kernel
theorem dX4_become_39 : decode cX4_become 39 = .ok (.aload_n 1, 1) := by decide +kernel
theorem dX4_become_40 : decode cX4_become 40 = .ok (.getfield 25, 3) := by decide +kernel
theorem dX4_become_43 : decode cX4_become 43 = .ok (.putfield 25, 3) := by decide +kernel
theorem dX4_become_46 : decode cX4_become 46 = .ok (.aload_n 0, 1) := by decide +kernel
theorem dX4_become_47 : decode cX4_become 47 = .ok (.aload_n 1, 1) := by decide +kernel
theorem dX4_become_48 : decode cX4_become 48 = .ok (.getfield 29, 3) := by decide +kernel
theorem dX4_become_51 : decode cX4_become 51 = .ok (.putfield 29, 3) := by decide +kernel
theorem dX4_become_54 : decode cX4_become 54 = .ok (.return_, 1) := by decide +kernel
theorem dX4_number_0 : decode cX4_number 0 = .ok (.iload_n 1, 1) := by decide +kernel
theorem dX4_number_1 : decode cX4_number 1 = .ok (.tableswitch 78 0 6 #[43, 43, 43, 50, 55, 60, 65], 43) := by decide +kernel
theorem dX4_number_44 : decode cX4_number 44 = .ok (.aload_n 0, 1) := by decide +kernel
theorem dX4_number_45 : decode cX4_number 45 = .ok (.getfield 9, 3) := by decide +kernel
theorem dX4_number_48 : decode cX4_number 48 = .ok (.iload_n 1, 1) := by decide +kernel
theorem dX4_number_49 : decode cX4_number 49 = .ok (.iaload, 1) := by decide +kernel
theorem dX4_number_50 : decode cX4_number 50 = .ok (.ireturn, 1) := by decide +kernel
theorem dX4_number_51 : decode cX4_number 51 = .ok (.aload_n 0, 1) := by decide +kernel
theorem dX4_number_52 : decode cX4_number 52 = .ok (.getfield 15, 3) := by decide +kernel
theorem dX4_number_55 : decode cX4_number 55 = .ok (.ireturn, 1) := by decide +kernel
theorem dX4_number_56 : decode cX4_number 56 = .ok (.aload_n 0, 1) := by decide +kernel
theorem dX4_number_57 : decode cX4_number 57 = .ok (.getfield 19, 3) := by decide +kernel
theorem dX4_number_60 : decode cX4_number 60 = .ok (.ireturn, 1) := by decide +kernel
theorem dX4_number_61 : decode cX4_number 61 = .ok (.aload_n 0, 1) := by decide +kernel
theorem dX4_number_62 : decode cX4_number 62 = .ok (.getfield 22, 3) := by decide +kernel
theorem dX4_number_65 : decode cX4_number 65 = .ok (.ireturn, 1) := by decide +kernel
theorem dX4_number_66 : decode cX4_number 66 = .ok (.aload_n 0, 1) := by decide +kernel
theorem dX4_number_67 : decode cX4_number 67 = .ok (.getfield 25, 3) := by decide +kernel
theorem dX4_number_70 : decode cX4_number 70 = .ok (.ifCond .eq 7, 3) := by decide +kernel
theorem dX4_number_73 : decode cX4_number 73 = .ok (.iconst 1, 1) := by decide +kernel
theorem dX4_number_74 : decode cX4_number 74 = .ok (.goto 4, 3) := by decide +kernel
theorem dX4_number_77 : decode cX4_number 77 = .ok (.iconst 0, 1) := by decide +kernel
theorem dX4_number_78 : decode cX4_number 78 = .ok (.ireturn, 1) := by decide +kernel
theorem dX4_number_79 : decode cX4_number 79 = .ok (.aload_n 0, 1) := by decide +kernel
theorem dX4_number_80 : decode cX4_number 80 = .ok (.getfield 29, 3) := by decide +kernel
theorem dX4_number_83 : decode cX4_number 83 = .ok (.ireturn, 1) := by decide +kernel
set_option maxRecDepth 20000 in
theorem ggX4_allowedByTorque_X5_limited : GoodIn wsX4_allowedByTorque wsX5_limited := goodIn_r _ [4] (by decide +kernel) (by decide +kernel)
set_option maxRecDepth 20000 in
theorem gX4_allowedByTorque_X5_limited_n38 : GoodIn wsX4_allowedByTorque (wsX5_limited) := ggX4_allowedByTorque_X5_limited
theorem dX4_allowedByTorque_0 : decode cX4_allowedByTorque 0 = .ok (.lload_n 1, 1) := by decide +kernel
theorem dX4_allowedByTorque_1 : decode cX4_allowedByTorque 1 = .ok (.aload_n 0, 1) := by decide +kernel
theorem dX4_allowedByTorque_2 : decode cX4_allowedByTorque 2 = .ok (.getfield 22, 3) := by decide +kernel
theorem dX4_allowedByTorque_5 : decode cX4_allowedByTorque 5 = .ok (.ineg, 1) := by decide +kernel
theorem dX4_allowedByTorque_6 : decode cX4_allowedByTorque 6 = .ok (.i2l, 1) := by decide +kernel
theorem dX4_allowedByTorque_7 : decode cX4_allowedByTorque 7 = .ok (.aload_n 0, 1) := by decide +kernel
theorem dX4_allowedByTorque_8 : decode cX4_allowedByTorque 8 = .ok (.getfield 22, 3) := by decide +kernel
theorem dX4_allowedByTorque_11 : decode cX4_allowedByTorque 11 = .ok (.i2l, 1) := by decide +kernel
theorem dX4_allowedByTorque_12 : decode cX4_allowedByTorque 12 = .ok (.invokestatic 38, 3) := by decide +kernel
theorem dX4_allowedByTorque_15 : decode cX4_allowedByTorque 15 = .ok (.lreturn, 1) := by decide +kernel
set_option maxRecDepth 20000 in
theorem ggX4_allowedByMomentum_X5_limited : GoodIn wsX4_allowedByMomentum wsX5_limited := goodIn_r _ [12] (by decide +kernel) (by decide +kernel)
set_option maxRecDepth 20000 in
theorem gX4_allowedByMomentum_X5_limited_n38 : GoodIn wsX4_allowedByMomentum (wsX5_limited) := ggX4_allowedByMomentum_X5_limited
theorem dX4_allowedByMomentum_0 : decode cX4_allowedByMomentum 0 = .ok (.iconst 0, 1) := by decide +kernel
theorem dX4_allowedByMomentum_1 : decode cX4_allowedByMomentum 1 = .ok (.aload_n 0, 1) := by decide +kernel
theorem dX4_allowedByMomentum_2 : decode cX4_allowedByMomentum 2 = .ok (.getfield 19, 3) := by decide +kernel
theorem dX4_allowedByMomentum_5 : decode cX4_allowedByMomentum 5 = .ok (.ineg, 1) := by decide +kernel
theorem dX4_allowedByMomentum_6 : decode cX4_allowedByMomentum 6 = .ok (.aload_n 0, 1) := by decide +kernel
theorem dX4_allowedByMomentum_7 : decode cX4_allowedByMomentum 7 = .ok (.getfield 15, 3) := by decide +kernel
theorem dX4_allowedByMomentum_10 : decode cX4_allowedByMomentum 10 = .ok (.isub, 1) := by decide +kernel
theorem dX4_allowedByMomentum_11 : decode cX4_allowedByMomentum 11 = .ok (.invokestatic 42, 3) := by decide +kernel
theorem dX4_allowedByMomentum_14 : decode cX4_allowedByMomentum 14 = .ok (.i2l, 1) := by decide +kernel
theorem dX4_allowedByMomentum_15 : decode cX4_allowedByMomentum 15 = .ok (.lstore_n 3, 1) := by decide +kernel
theorem dX4_allowedByMomentum_16 : decode cX4_allowedByMomentum 16 = .ok (.iconst 0, 1) := by decide +kernel
theorem dX4_allowedByMomentum_17 : decode cX4_allowedByMomentum 17 = .ok (.aload_n 0, 1) := by decide +kernel
theorem dX4_allowedByMomentum_18 : decode cX4_allowedByMomentum 18 = .ok (.getfield 19, 3) := by decide +kernel
theorem dX4_allowedByMomentum_21 : decode cX4_allowedByMomentum 21 = .ok (.aload_n 0, 1) := by decide +kernel
theorem dX4_allowedByMomentum_22 : decode cX4_allowedByMomentum 22 = .ok (.getfield 15, 3) := by decide +kernel
theorem dX4_allowedByMomentum_25 : decode cX4_allowedByMomentum 25 = .ok (.isub, 1) := by decide +kernel
theorem dX4_allowedByMomentum_26 : decode cX4_allowedByMomentum 26 = .ok (.invokestatic 48, 3) := by decide +kernel
theorem dX4_allowedByMomentum_29 : decode cX4_allowedByMomentum 29 = .ok (.i2l, 1) := by decide +kernel
theorem dX4_allowedByMomentum_30 : decode cX4_allowedByMomentum 30 = .ok (.lstore 5, 2) := by decide +kernel
theorem dX4_allowedByMomentum_32 : decode cX4_allowedByMomentum 32 = .ok (.lload_n 1, 1) := by decide +kernel
theorem dX4_allowedByMomentum_33 : decode cX4_allowedByMomentum 33 = .ok (.lload_n 3, 1) := by decide +kernel
theorem dX4_allowedByMomentum_34 : decode cX4_allowedByMomentum 34 = .ok (.lload 5, 2) := by decide +kernel
theorem dX4_allowedByMomentum_36 : decode cX4_allowedByMomentum 36 = .ok (.invokestatic 38, 3) := by decide +kernel
theorem dX4_allowedByMomentum_39 : decode cX4_allowedByMomentum 39 = .ok (.lreturn, 1) := by decide +kernel
theorem dX4_fullPart_0 : decode cX4_fullPart 0 = .ok (.aload_n 0, 1) := by decide +kernel
theorem dX4_fullPart_1 : decode cX4_fullPart 1 = .ok (.getfield 19, 3) := by decide +kernel
theorem dX4_fullPart_4 : decode cX4_fullPart 4 = .ok (.ifCond .le 11, 3) := by decide +kernel
theorem dX4_fullPart_7 : decode cX4_fullPart 7 = .ok (.aload_n 0, 1) := by decide +kernel
theorem dX4_fullPart_8 : decode cX4_fullPart 8 = .ok (.getfield 19, 3) := by decide +kernel
theorem dX4_fullPart_11 : decode cX4_fullPart 11 = .ok (.i2f, 1) := by decide +kernel
theorem dX4_fullPart_12 : decode cX4_fullPart 12 = .ok (.goto 4, 3) := by decide +kernel
theorem dX4_fullPart_15 : decode cX4_fullPart 15 = .ok (.fconst 1, 1) := by decide +kernel
theorem dX4_fullPart_16 : decode cX4_fullPart 16 = .ok (.fstore_n 1, 1) := by decide +kernel
theorem dX4_fullPart_17 : decode cX4_fullPart 17 = .ok (.aload_n 0, 1) := by decide +kernel
theorem dX4_fullPart_18 : decode cX4_fullPart 18 = .ok (.getfield 15, 3) := by decide +kernel
theorem dX4_fullPart_21 : decode cX4_fullPart 21 = .ok (.invokestatic 51, 3) := by decide +kernel
theorem dX4_fullPart_24 : decode cX4_fullPart 24 = .ok (.i2f, 1) := by decide +kernel
theorem dX4_fullPart_25 : decode cX4_fullPart 25 = .ok (.fload_n 1, 1) := by decide +kernel
theorem dX4_fullPart_26 : decode cX4_fullPart 26 = .ok (.fdiv, 1) := by decide +kernel
theorem dX4_fullPart_27 : decode cX4_fullPart 27 = .ok (.freturn, 1) := by decide +kernel
