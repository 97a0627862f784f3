set_option maxRecDepth 20000 in
theorem ggX6_init_X6_axisAt : GoodIn wsX6_init wsX6_axisAt := goodIn_r _ [23] (by decide +kernel) (by decide +kernel)
set_option maxRecDepth 20000 in
theorem gX6_init_X6_axisAt : GoodIn wsX6_init (va_wsS RX6 45 yX6_axisAt wsX6_axisAt) := goodIn_app (goodIn_of _ (by decide +kernel)) ggX6_init_X6_axisAt
set_option maxRecDepth 20000 in
theorem ggX6_init_X6_reasons : GoodIn wsX6_init wsX6_reasons := goodIn_r _ [27, 5, 28, 29, 30, 31, 32, 33, 34, 35, 36, 37, 38] (by decide +kernel) (by decide +kernel)
set_option maxRecDepth 20000 in
theorem gX6_init_X6_reasons : GoodIn wsX6_init (wsV RX6 53 RX6 yX6_reasons wsX6_reasons) := goodIn_app (goodIn_of _ (by decide +kernel)) ggX6_init_X6_reasons
theorem dX6_init_0 : decode cX6_init 0 = .ok (.aload_n 0, 1) := by decide +kernel
theorem dX6_init_1 : decode cX6_init 1 = .ok (.invokespecial 1, 3) := by decide +kernel
theorem dX6_init_4 : decode cX6_init 4 = .ok (.aload_n 0, 1) := by decide +kernel
theorem dX6_init_5 : decode cX6_init 5 = .ok (.bipush 100, 2) := by decide +kernel
theorem dX6_init_7 : decode cX6_init 7 = .ok (.newarray .long, 2) := by decide +kernel
theorem dX6_init_9 : decode cX6_init 9 = .ok (.putfield 7, 3) := by decide +kernel
theorem dX6_init_12 : decode cX6_init 12 = .ok (.aload_n 0, 1) := by decide +kernel
theorem dX6_init_13 : decode cX6_init 13 = .ok (.bipush 100, 2) := by decide +kernel
theorem dX6_init_15 : decode cX6_init 15 = .ok (.newarray .long, 2) := by decide +kernel
theorem dX6_init_17 : decode cX6_init 17 = .ok (.putfield 13, 3) := by decide +kernel
theorem dX6_init_20 : decode cX6_init 20 = .ok (.aload_n 0, 1) := by decide +kernel
theorem dX6_init_21 : decode cX6_init 21 = .ok (.sipush 400, 3) := by decide +kernel
theorem dX6_init_24 : decode cX6_init 24 = .ok (.newarray .long, 2) := by decide +kernel
theorem dX6_init_26 : decode cX6_init 26 = .ok (.putfield 16, 3) := by decide +kernel
theorem dX6_init_29 : decode cX6_init 29 = .ok (.aload_n 0, 1) := by decide +kernel
theorem dX6_init_30 : decode cX6_init 30 = .ok (.bipush 9, 2) := by decide +kernel
theorem dX6_init_32 : decode cX6_init 32 = .ok (.newarray .long, 2) := by decide +kernel
theorem dX6_init_34 : decode cX6_init 34 = .ok (.putfield 19, 3) := by decide +kernel
theorem dX6_init_37 : decode cX6_init 37 = .ok (.aload_n 0, 1) := by decide +kernel
theorem dX6_init_38 : decode cX6_init 38 = .ok (.bipush 9, 2) := by decide +kernel
theorem dX6_init_40 : decode cX6_init 40 = .ok (.newarray .long, 2) := by decide +kernel
theorem dX6_init_42 : decode cX6_init 42 = .ok (.putfield 22, 3) := by decide +kernel
theorem dX6_init_45 : decode cX6_init 45 = .ok (.aload_n 0, 1) := by decide +kernel
theorem dX6_init_46 : decode cX6_init 46 = .ok (.iconst 3, 1) := by decide +kernel
theorem dX6_init_47 : decode cX6_init 47 = .ok (.newarray .long, 2) := by decide +kernel
theorem dX6_init_49 : decode cX6_init 49 = .ok (.putfield 25, 3) := by decide +kernel
theorem dX6_init_52 : decode cX6_init 52 = .ok (.aload_n 0, 1) := by decide +kernel
theorem dX6_init_53 : decode cX6_init 53 = .ok (.iconst 3, 1) := by decide +kernel
theorem dX6_init_54 : decode cX6_init 54 = .ok (.newarray .long, 2) := by decide +kernel
theorem dX6_init_56 : decode cX6_init 56 = .ok (.putfield 28, 3) := by decide +kernel
theorem dX6_init_59 : decode cX6_init 59 = .ok (.aload_n 0, 1) := by decide +kernel
theorem dX6_init_60 : decode cX6_init 60 = .ok (.iconst 3, 1) := by decide +kernel
theorem dX6_init_61 : decode cX6_init 61 = .ok (.newarray .long, 2) := by decide +kernel
theorem dX6_init_63 : decode cX6_init 63 = .ok (.putfield 31, 3) := by decide +kernel
theorem dX6_init_66 : decode cX6_init 66 = .ok (.aload_n 0, 1) := by decide +kernel
theorem dX6_init_67 : decode cX6_init 67 = .ok (.iconst 3, 1) := by decide +kernel
theorem dX6_init_68 : decode cX6_init 68 = .ok (.newarray .long, 2) := by decide +kernel
theorem dX6_init_70 : decode cX6_init 70 = .ok (.putfield 34, 3) := by decide +kernel
theorem dX6_init_73 : decode cX6_init 73 = .ok (.aload_n 0, 1) := by decide +kernel
theorem dX6_init_74 : decode cX6_init 74 = .ok (.getfield 7, 3) := by decide +kernel
theorem dX6_init_77 : decode cX6_init 77 = .ok (.iconst 0, 1) := by decide +kernel
theorem dX6_init_78 : decode cX6_init 78 = .ok (.ldc2_w 37, 3) := by decide +kernel
theorem dX6_init_81 : decode cX6_init 81 = .ok (.lastore, 1) := by decide +kernel
theorem dX6_init_82 : decode cX6_init 82 = .ok (.aload_n 0, 1) := by decide +kernel
theorem dX6_init_83 : decode cX6_init 83 = .ok (.getfield 7, 3) := by decide +kernel
theorem dX6_init_86 : decode cX6_init 86 = .ok (.iconst 1, 1) := by decide +kernel
theorem dX6_init_87 : decode cX6_init 87 = .ok (.ldc2_w 39, 3) := by decide +kernel
theorem dX6_init_90 : decode cX6_init 90 = .ok (.lastore, 1) := by decide +kernel
theorem dX6_init_91 : decode cX6_init 91 = .ok (.aload_n 0, 1) := by decide +kernel
theorem dX6_init_92 : decode cX6_init 92 = .ok (.getfield 7, 3) := by decide +kernel
theorem dX6_init_95 : decode cX6_init 95 = .ok (.iconst 2, 1) := by decide +kernel
theorem dX6_init_96 : decode cX6_init 96 = .ok (.ldc2_w 41, 3) := by decide +kernel
theorem dX6_init_99 : decode cX6_init 99 = .ok (.lastore, 1) := by decide +kernel
theorem dX6_init_100 : decode cX6_init 100 = .ok (.aload_n 0, 1) := by decide +kernel
theorem dX6_init_101 : decode cX6_init 101 = .ok (.getfield 7, 3) := by decide +kernel
theorem dX6_init_104 : decode cX6_init 104 = .ok (.iconst 3, 1) := by decide +kernel
theorem dX6_init_105 : decode cX6_init 105 = .ok (.ldc2_w 43, 3) := by decide +kernel
theorem dX6_init_108 : decode cX6_init 108 = .ok (.lastore, 1) := by decide +kernel
theorem dX6_init_109 : decode cX6_init 109 = .ok (.iconst 0, 1) := by decide +kernel
theorem dX6_init_110 : decode cX6_init 110 = .ok (.istore_n 1, 1) := by decide +kernel
theorem dX6_init_111 : decode cX6_init 111 = .ok (.iload_n 1, 1) := by decide +kernel
theorem dX6_init_112 : decode cX6_init 112 = .ok (.iconst 3, 1) := by decide +kernel
theorem dX6_init_113 : decode cX6_init 113 = .ok (.if_icmp .ge 22, 3) := by decide +kernel
theorem dX6_init_116 : decode cX6_init 116 = .ok (.aload_n 0, 1) := by decide +kernel
theorem dX6_init_117 : decode cX6_init 117 = .ok (.getfield 7, 3) := by decide +kernel
theorem dX6_init_120 : decode cX6_init 120 = .ok (.iload_n 1, 1) := by decide +kernel
theorem dX6_init_121 : decode cX6_init 121 = .ok (.iconst 2, 1) := by decide +kernel
theorem dX6_init_122 : decode cX6_init 122 = .ok (.invokestatic 45, 3) := by decide +kernel
theorem dX6_init_125 : decode cX6_init 125 = .ok (.ldc2_w 49, 3) := by decide +kernel
theorem dX6_init_128 : decode cX6_init 128 = .ok (.lastore, 1) := by decide +kernel
theorem dX6_init_129 : decode cX6_init 129 = .ok (.iinc 1 1, 3) := by decide +kernel
theorem dX6_init_132 : decode cX6_init 132 = .ok (.goto (-21), 3) := by decide +kernel
theorem dX6_init_135 : decode cX6_init 135 = .ok (.aload_n 0, 1) := by decide +kernel
theorem dX6_init_136 : decode cX6_init 136 = .ok (.lconst 0, 1) := by decide +kernel
theorem dX6_init_137 : decode cX6_init 137 = .ok (.ldc2_w 51, 3) := by decide +kernel
theorem dX6_init_140 : decode cX6_init 140 = .ok (.ldc2_w 51, 3) := by decide +kernel
theorem dX6_init_143 : decode cX6_init 143 = .ok (.invokevirtual 53, 3) := by decide +kernel
theorem dX6_init_146 : decode cX6_init 146 = .ok (.return_, 1) := by decide +kernel
theorem dX6_in_0 : decode cX6_in 0 = .ok (.iload_n 0, 1) := by decide +kernel
theorem dX6_in_1 : decode cX6_in 1 = .ok (.iload_n 1, 1) := by decide +kernel
theorem dX6_in_2 : decode cX6_in 2 = .ok (.if_icmp .lt 12, 3) := by decide +kernel
theorem dX6_in_5 : decode cX6_in 5 = .ok (.iload_n 0, 1) := by decide +kernel
theorem dX6_in_6 : decode cX6_in 6 = .ok (.iload_n 2, 1) := by decide +kernel
theorem dX6_in_7 : decode cX6_in 7 = .ok (.if_icmp .gt 7, 3) := by decide +kernel
theorem dX6_in_10 : decode cX6_in 10 = .ok (.iconst 1, 1) := by decide +kernel
theorem dX6_in_11 : decode cX6_in 11 = .ok (.goto 4, 3) := by decide +kernel
theorem dX6_in_14 : decode cX6_in 14 = .ok (.iconst 0, 1) := by decide +kernel
theorem dX6_in_15 : decode cX6_in 15 = .ok (.ireturn, 1) := by decide +kernel
theorem dX6_act_0 : decode cX6_act 0 = .ok (.aload_n 0, 1) := by decide +kernel
theorem dX6_act_1 : decode cX6_act 1 = .ok (.getfield 57, 3) := by decide +kernel
theorem dX6_act_4 : decode cX6_act 4 = .ok (.iconst 4, 1) := by decide +kernel
theorem dX6_act_5 : decode cX6_act 5 = .ok (.if_icmp .ne 43, 3) := by decide +kernel
theorem dX6_act_8 : decode cX6_act 8 = .ok (.iconst 0, 1) := by decide +kernel
theorem dX6_act_9 : decode cX6_act 9 = .ok (.istore_n 1, 1) := by decide +kernel
theorem dX6_act_10 : decode cX6_act 10 = .ok (.iload_n 1, 1) := by decide +kernel
theorem dX6_act_11 : decode cX6_act 11 = .ok (.sipush 300, 3) := by decide +kernel
theorem dX6_act_14 : decode cX6_act 14 = .ok (.if_icmp .ge 24, 3) := by decide +kernel
theorem dX6_act_17 : decode cX6_act 17 = .ok (.aload_n 0, 1) := by decide +kernel
theorem dX6_act_18 : decode cX6_act 18 = .ok (.getfield 16, 3) := by decide +kernel
theorem dX6_act_21 : decode cX6_act 21 = .ok (.iload_n 1, 1) := by decide +kernel
theorem dX6_act_22 : decode cX6_act 22 = .ok (.aload_n 0, 1) := by decide +kernel
theorem dX6_act_23 : decode cX6_act 23 = .ok (.getfield 16, 3) := by decide +kernel
theorem dX6_act_26 : decode cX6_act 26 = .ok (.iload_n 1, 1) := by decide +kernel
theorem dX6_act_27 : decode cX6_act 27 = .ok (.bipush 100, 2) := by decide +kernel
theorem dX6_act_29 : decode cX6_act 29 = .ok (.iadd, 1) := by decide +kernel
theorem dX6_act_30 : decode cX6_act 30 = .ok (.laload, 1) := by decide +kernel
theorem dX6_act_31 : decode cX6_act 31 = .ok (.lastore, 1) := by decide +kernel
theorem dX6_act_32 : decode cX6_act 32 = .ok (.iinc 1 1, 3) := by decide +kernel
theorem dX6_act_35 : decode cX6_act 35 = .ok (.goto (-25), 3) := by decide +kernel
theorem dX6_act_38 : decode cX6_act 38 = .ok (.aload_n 0, 1) := by decide +kernel
theorem dX6_act_39 : decode cX6_act 39 = .ok (.dup, 1) := by decide +kernel
theorem dX6_act_40 : decode cX6_act 40 = .ok (.getfield 57, 3) := by decide +kernel
theorem dX6_act_43 : decode cX6_act 43 = .ok (.iconst 1, 1) := by decide +kernel
theorem dX6_act_44 : decode cX6_act 44 = .ok (.isub, 1) := by decide +kernel
theorem dX6_act_45 : decode cX6_act 45 = .ok (.putfield 57, 3) := by decide +kernel
theorem dX6_act_48 : decode cX6_act 48 = .ok (.iconst 0, 1) := by decide +kernel
theorem dX6_act_49 : decode cX6_act 49 = .ok (.istore_n 1, 1) := by decide +kernel
theorem dX6_act_50 : decode cX6_act 50 = .ok (.iload_n 1, 1) := by decide +kernel
theorem dX6_act_51 : decode cX6_act 51 = .ok (.bipush 100, 2) := by decide +kernel
theorem dX6_act_53 : decode cX6_act 53 = .ok (.if_icmp .ge 29, 3) := by decide +kernel
theorem dX6_act_56 : decode cX6_act 56 = .ok (.aload_n 0, 1) := by decide +kernel
theorem dX6_act_57 : decode cX6_act 57 = .ok (.getfield 16, 3) := by decide +kernel
theorem dX6_act_60 : decode cX6_act 60 = .ok (.bipush 100, 2) := by decide +kernel
theorem dX6_act_62 : decode cX6_act 62 = .ok (.aload_n 0, 1) := by decide +kernel
theorem dX6_act_63 : decode cX6_act 63 = .ok (.getfield 57, 3) := by decide +kernel
theorem dX6_act_66 : decode cX6_act 66 = .ok (.imul, 1) := by decide +kernel
theorem dX6_act_67 : decode cX6_act 67 = .ok (.iload_n 1, 1) := by decide +kernel
theorem dX6_act_68 : decode cX6_act 68 = .ok (.iadd, 1) := by decide +kernel
theorem dX6_act_69 : decode cX6_act 69 = .ok (.aload_n 0, 1) := by decide +kernel
theorem dX6_act_70 : decode cX6_act 70 = .ok (.getfield 7, 3) := by decide +kernel
theorem dX6_act_73 : decode cX6_act 73 = .ok (.iload_n 1, 1) := by decide +kernel
theorem dX6_act_74 : decode cX6_act 74 = .ok (.laload, 1) := by decide +kernel
theorem dX6_act_75 : decode cX6_act 75 = .ok (.lastore, 1) := by decide +kernel
theorem dX6_act_76 : decode cX6_act 76 = .ok (.iinc 1 1, 3) := by decide +kernel
theorem dX6_act_79 : decode cX6_act 79 = .ok (.goto (-29), 3) := by decide +kernel
theorem dX6_act_82 : decode cX6_act 82 = .ok (.aload_n 0, 1) := by decide +kernel
theorem dX6_act_83 : decode cX6_act 83 = .ok (.dup, 1) := by decide +kernel
theorem dX6_act_84 : decode cX6_act 84 = .ok (.getfield 57, 3) := by decide +kernel
theorem dX6_act_87 : decode cX6_act 87 = .ok (.iconst 1, 1) := by decide +kernel
theorem dX6_act_88 : decode cX6_act 88 = .ok (.iadd, 1) := by decide +kernel
theorem dX6_act_89 : decode cX6_act 89 = .ok (.putfield 57, 3) := by decide +kernel
theorem dX6_act_92 : decode cX6_act 92 = .ok (.return_, 1) := by decide +kernel
theorem dX6_copies_0 : decode cX6_copies 0 = .ok (.iconst 0, 1) := by decide +kernel
theorem dX6_copies_1 : decode cX6_copies 1 = .ok (.istore_n 2, 1) := by decide +kernel
theorem dX6_copies_2 : decode cX6_copies 2 = .ok (.iload_n 2, 1) := by decide +kernel
theorem dX6_copies_3 : decode cX6_copies 3 = .ok (.bipush 100, 2) := by decide +kernel
theorem dX6_copies_5 : decode cX6_copies 5 = .ok (.if_icmp .ge 15, 3) := by decide +kernel
theorem dX6_copies_8 : decode cX6_copies 8 = .ok (.aload_n 1, 1) := by decide +kernel
theorem dX6_copies_9 : decode cX6_copies 9 = .ok (.iload_n 2, 1) := by decide +kernel
theorem dX6_copies_10 : decode cX6_copies 10 = .ok (.aload_n 0, 1) := by decide +kernel
theorem dX6_copies_11 : decode cX6_copies 11 = .ok (.iload_n 2, 1) := by decide +kernel
theorem dX6_copies_12 : decode cX6_copies 12 = .ok (.laload, 1) := by decide +kernel
theorem dX6_copies_13 : decode cX6_copies 13 = .ok (.lastore, 1) := by decide +kernel
theorem dX6_copies_14 : decode cX6_copies 14 = .ok (.iinc 2 1, 3) := by decide +kernel
theorem dX6_copies_17 : decode cX6_copies 17 = .ok (.goto (-15), 3) := by decide +kernel
theorem dX6_copies_20 : decode cX6_copies 20 = .ok (.return_, 1) := by decide +kernel
theorem dX6_div_0 : decode cX6_div 0 = .ok (.lload_n 0, 1) := by decide +kernel
theorem dX6_div_1 : decode cX6_div 1 = .ok (.lload_n 2, 1) := by decide +kernel
theorem dX6_div_2 : decode cX6_div 2 = .ok (.lrem, 1) := by decide +kernel
theorem dX6_div_3 : decode cX6_div 3 = .ok (.lstore 4, 2) := by decide +kernel
theorem dX6_div_5 : decode cX6_div 5 = .ok (.lload_n 0, 1) := by decide +kernel
theorem dX6_div_6 : decode cX6_div 6 = .ok (.lload 4, 2) := by decide +kernel
theorem dX6_div_8 : decode cX6_div 8 = .ok (.lconst 0, 1) := by decide +kernel
theorem dX6_div_9 : decode cX6_div 9 = .ok (.lcmp, 1) := by decide +kernel
theorem dX6_div_10 : decode cX6_div 10 = .ok (.ifCond .ge 10, 3) := by decide +kernel
theorem dX6_div_13 : decode cX6_div 13 = .ok (.lload 4, 2) := by decide +kernel
theorem dX6_div_15 : decode cX6_div 15 = .ok (.lload_n 2, 1) := by decide +kernel
theorem dX6_div_16 : decode cX6_div 16 = .ok (.ladd, 1) := by decide +kernel
theorem dX6_div_17 : decode cX6_div 17 = .ok (.goto 5, 3) := by decide +kernel
theorem dX6_div_20 : decode cX6_div 20 = .ok (.lload 4, 2) := by decide +kernel
theorem dX6_div_22 : decode cX6_div 22 = .ok (.lsub, 1) := by decide +kernel
theorem dX6_div_23 : decode cX6_div 23 = .ok (.lload_n 2, 1) := by decide +kernel
theorem dX6_div_24 : decode cX6_div 24 = .ok (.ldiv, 1) := by decide +kernel
theorem dX6_div_25 : decode cX6_div 25 = .ok (.lreturn, 1) := by decide +kernel
set_option maxRecDepth 20000 in
theorem ggX6_nearest_X6_div : GoodIn wsX6_nearest wsX6_div := goodIn_r _ [5] (by decide +kernel) (by decide +kernel)
set_option maxRecDepth 20000 in
theorem gX6_nearest_X6_div : GoodIn wsX6_nearest (va_wsS RX6 63 yX6_div wsX6_div) := goodIn_app (goodIn_of _ (by decide +kernel)) ggX6_nearest_X6_div
theorem dX6_nearest_0 : decode cX6_nearest 0 = .ok (.ldc2_w 61, 3) := by decide +kernel
theorem dX6_nearest_3 : decode cX6_nearest 3 = .ok (.lload_n 0, 1) := by decide +kernel
theorem dX6_nearest_4 : decode cX6_nearest 4 = .ok (.lmul, 1) := by decide +kernel
theorem dX6_nearest_5 : decode cX6_nearest 5 = .ok (.lload_n 2, 1) := by decide +kernel
theorem dX6_nearest_6 : decode cX6_nearest 6 = .ok (.ladd, 1) := by decide +kernel
theorem dX6_nearest_7 : decode cX6_nearest 7 = .ok (.ldc2_w 61, 3) := by decide +kernel
theorem dX6_nearest_10 : decode cX6_nearest 10 = .ok (.lload_n 2, 1) := by decide +kernel
theorem dX6_nearest_11 : decode cX6_nearest 11 = .ok (.lmul, 1) := by decide +kernel
theorem dX6_nearest_12 : decode cX6_nearest 12 = .ok (.invokestatic 63, 3) := by decide +kernel
theorem dX6_nearest_15 : decode cX6_nearest 15 = .ok (.lreturn, 1) := by decide +kernel
theorem dX6_held_0 : decode cX6_held 0 = .ok (.lload_n 0, 1) := by decide +kernel
theorem dX6_held_1 : decode cX6_held 1 = .ok (.lload_n 2, 1) := by decide +kernel
theorem dX6_held_2 : decode cX6_held 2 = .ok (.lcmp, 1) := by decide +kernel
theorem dX6_held_3 : decode cX6_held 3 = .ok (.ifCond .le 7, 3) := by decide +kernel
theorem dX6_held_6 : decode cX6_held 6 = .ok (.lload_n 2, 1) := by decide +kernel
theorem dX6_held_7 : decode cX6_held 7 = .ok (.goto 16, 3) := by decide +kernel
theorem dX6_held_10 : decode cX6_held 10 = .ok (.lload_n 0, 1) := by decide +kernel
theorem dX6_held_11 : decode cX6_held 11 = .ok (.lload_n 2, 1) := by decide +kernel
theorem dX6_held_12 : decode cX6_held 12 = .ok (.lneg, 1) := by decide +kernel
theorem dX6_held_13 : decode cX6_held 13 = .ok (.lcmp, 1) := by decide +kernel
theorem dX6_held_14 : decode cX6_held 14 = .ok (.ifCond .ge 8, 3) := by decide +kernel
theorem dX6_held_17 : decode cX6_held 17 = .ok (.lload_n 2, 1) := by decide +kernel
theorem dX6_held_18 : decode cX6_held 18 = .ok (.lneg, 1) := by decide +kernel
theorem dX6_held_19 : decode cX6_held 19 = .ok (.goto 4, 3) := by decide +kernel
theorem dX6_held_22 : decode cX6_held 22 = .ok (.lload_n 0, 1) := by decide +kernel
theorem dX6_held_23 : decode cX6_held 23 = .ok (.lreturn, 1) := by decide +kernel
theorem dX6_size_0 : decode cX6_size 0 = .ok (.lload_n 0, 1) := by decide +kernel
theorem dX6_size_1 : decode cX6_size 1 = .ok (.lconst 0, 1) := by decide +kernel
theorem dX6_size_2 : decode cX6_size 2 = .ok (.lcmp, 1) := by decide +kernel
theorem dX6_size_3 : decode cX6_size 3 = .ok (.ifCond .ge 8, 3) := by decide +kernel
theorem dX6_size_6 : decode cX6_size 6 = .ok (.lload_n 0, 1) := by decide +kernel
theorem dX6_size_7 : decode cX6_size 7 = .ok (.lneg, 1) := by decide +kernel
theorem dX6_size_8 : decode cX6_size 8 = .ok (.goto 4, 3) := by decide +kernel
theorem dX6_size_11 : decode cX6_size 11 = .ok (.lload_n 0, 1) := by decide +kernel
theorem dX6_size_12 : decode cX6_size 12 = .ok (.lreturn, 1) := by decide +kernel
theorem dX6_axisAt_0 : decode cX6_axisAt 0 = .ok (.bipush 12, 2) := by decide +kernel
theorem dX6_axisAt_2 : decode cX6_axisAt 2 = .ok (.bipush 8, 2) := by decide +kernel
theorem dX6_axisAt_4 : decode cX6_axisAt 4 = .ok (.iload_n 0, 1) := by decide +kernel
theorem dX6_axisAt_5 : decode cX6_axisAt 5 = .ok (.imul, 1) := by decide +kernel
theorem dX6_axisAt_6 : decode cX6_axisAt 6 = .ok (.iadd, 1) := by decide +kernel
theorem dX6_axisAt_7 : decode cX6_axisAt 7 = .ok (.iload_n 1, 1) := by decide +kernel
theorem dX6_axisAt_8 : decode cX6_axisAt 8 = .ok (.iadd, 1) := by decide +kernel
theorem dX6_axisAt_9 : decode cX6_axisAt 9 = .ok (.ireturn, 1) := by decide +kernel
theorem dX6_wheelAt_0 : decode cX6_wheelAt 0 = .ok (.bipush 40, 2) := by decide +kernel
theorem dX6_wheelAt_2 : decode cX6_wheelAt 2 = .ok (.bipush 8, 2) := by decide +kernel
theorem dX6_wheelAt_4 : decode cX6_wheelAt 4 = .ok (.iload_n 0, 1) := by decide +kernel
theorem dX6_wheelAt_5 : decode cX6_wheelAt 5 = .ok (.imul, 1) := by decide +kernel
theorem dX6_wheelAt_6 : decode cX6_wheelAt 6 = .ok (.iadd, 1) := by decide +kernel
theorem dX6_wheelAt_7 : decode cX6_wheelAt 7 = .ok (.iload_n 1, 1) := by decide +kernel
theorem dX6_wheelAt_8 : decode cX6_wheelAt 8 = .ok (.iadd, 1) := by decide +kernel
theorem dX6_wheelAt_9 : decode cX6_wheelAt 9 = .ok (.ireturn, 1) := by decide +kernel
set_option maxRecDepth 20000 in
theorem ggX6_isWheel_X6_in : GoodIn wsX6_isWheel wsX6_in := goodIn_r _ [5] (by decide +kernel) (by decide +kernel)
set_option maxRecDepth 20000 in
theorem gX6_isWheel_X6_in : GoodIn wsX6_isWheel (va_wsS RX6 67 yX6_in wsX6_in) := goodIn_app (goodIn_of _ (by decide +kernel)) ggX6_isWheel_X6_in
theorem dX6_isWheel_0 : decode cX6_isWheel 0 = .ok (.iload_n 1, 1) := by decide +kernel
theorem dX6_isWheel_1 : decode cX6_isWheel 1 = .ok (.iconst 0, 1) := by decide +kernel
theorem dX6_isWheel_2 : decode cX6_isWheel 2 = .ok (.aload_n 0, 1) := by decide +kernel
theorem dX6_isWheel_3 : decode cX6_isWheel 3 = .ok (.getfield 7, 3) := by decide +kernel
theorem dX6_isWheel_6 : decode cX6_isWheel 6 = .ok (.bipush 6, 2) := by decide +kernel
theorem dX6_isWheel_8 : decode cX6_isWheel 8 = .ok (.laload, 1) := by decide +kernel
theorem dX6_isWheel_9 : decode cX6_isWheel 9 = .ok (.l2i, 1) := by decide +kernel
theorem dX6_isWheel_10 : decode cX6_isWheel 10 = .ok (.iconst 1, 1) := by decide +kernel
theorem dX6_isWheel_11 : decode cX6_isWheel 11 = .ok (.isub, 1) := by decide +kernel
theorem dX6_isWheel_12 : decode cX6_isWheel 12 = .ok (.invokestatic 67, 3) := by decide +kernel
theorem dX6_isWheel_15 : decode cX6_isWheel 15 = .ok (.ireturn, 1) := by decide +kernel
set_option maxRecDepth 20000 in
theorem ggX6_works_X6_wheelAt : GoodIn wsX6_works wsX6_wheelAt := goodIn_r _ [5] (by decide +kernel) (by decide +kernel)
set_option maxRecDepth 20000 in
theorem gX6_works_X6_wheelAt : GoodIn wsX6_works (va_wsS RX6 71 yX6_wheelAt wsX6_wheelAt) := goodIn_app (goodIn_of _ (by decide +kernel)) ggX6_works_X6_wheelAt
theorem dX6_works_0 : decode cX6_works 0 = .ok (.aload_n 0, 1) := by decide +kernel
theorem dX6_works_1 : decode cX6_works 1 = .ok (.getfield 7, 3) := by decide +kernel
theorem dX6_works_4 : decode cX6_works 4 = .ok (.iload_n 1, 1) := by decide +kernel
theorem dX6_works_5 : decode cX6_works 5 = .ok (.bipush 6, 2) := by decide +kernel
theorem dX6_works_7 : decode cX6_works 7 = .ok (.invokestatic 71, 3) := by decide +kernel
theorem dX6_works_10 : decode cX6_works 10 = .ok (.laload, 1) := by decide +kernel
theorem dX6_works_11 : decode cX6_works 11 = .ok (.lconst 0, 1) := by decide +kernel
theorem dX6_works_12 : decode cX6_works 12 = .ok (.lcmp, 1) := by decide +kernel
theorem dX6_works_13 : decode cX6_works 13 = .ok (.ifCond .ne 7, 3) := by decide +kernel
theorem dX6_works_16 : decode cX6_works 16 = .ok (.iconst 1, 1) := by decide +kernel
theorem dX6_works_17 : decode cX6_works 17 = .ok (.goto 4, 3) := by decide +kernel
theorem dX6_works_20 : decode cX6_works 20 = .ok (.iconst 0, 1) := by decide +kernel
theorem dX6_works_21 : decode cX6_works 21 = .ok (.ireturn, 1) := by decide +kernel
theorem dX6_reasons_0 : decode cX6_reasons 0 = .ok (.aload_n 0, 1) := by decide +kernel
theorem dX6_reasons_1 : decode cX6_reasons 1 = .ok (.getfield 7, 3) := by decide +kernel
theorem dX6_reasons_4 : decode cX6_reasons 4 = .ok (.bipush 8, 2) := by decide +kernel
theorem dX6_reasons_6 : decode cX6_reasons 6 = .ok (.lload_n 1, 1) := by decide +kernel
theorem dX6_reasons_7 : decode cX6_reasons 7 = .ok (.lastore, 1) := by decide +kernel
theorem dX6_reasons_8 : decode cX6_reasons 8 = .ok (.aload_n 0, 1) := by decide +kernel
theorem dX6_reasons_9 : decode cX6_reasons 9 = .ok (.getfield 7, 3) := by decide +kernel
theorem dX6_reasons_12 : decode cX6_reasons 12 = .ok (.bipush 9, 2) := by decide +kernel
theorem dX6_reasons_14 : decode cX6_reasons 14 = .ok (.lload_n 3, 1) := by decide +kernel
theorem dX6_reasons_15 : decode cX6_reasons 15 = .ok (.lastore, 1) := by decide +kernel
theorem dX6_reasons_16 : decode cX6_reasons 16 = .ok (.aload_n 0, 1) := by decide +kernel
theorem dX6_reasons_17 : decode cX6_reasons 17 = .ok (.getfield 7, 3) := by decide +kernel
theorem dX6_reasons_20 : decode cX6_reasons 20 = .ok (.bipush 10, 2) := by decide +kernel
theorem dX6_reasons_22 : decode cX6_reasons 22 = .ok (.lload 5, 2) := by decide +kernel
theorem dX6_reasons_24 : decode cX6_reasons 24 = .ok (.lastore, 1) := by decide +kernel
theorem dX6_reasons_25 : decode cX6_reasons 25 = .ok (.return_, 1) := by decide +kernel
set_option maxRecDepth 20000 in
theorem ggX6_isPart_X6_in : GoodIn wsX6_isPart wsX6_in := goodIn_r _ [4] (by decide +kernel) (by decide +kernel)
set_option maxRecDepth 20000 in
theorem gX6_isPart_X6_in : GoodIn wsX6_isPart (va_wsS RX6 67 yX6_in wsX6_in) := goodIn_app (goodIn_of _ (by decide +kernel)) ggX6_isPart_X6_in
theorem dX6_isPart_0 : decode cX6_isPart 0 = .ok (.iload_n 0, 1) := by decide +kernel
theorem dX6_isPart_1 : decode cX6_isPart 1 = .ok (.bipush (-9), 2) := by decide +kernel
theorem dX6_isPart_3 : decode cX6_isPart 3 = .ok (.bipush 9, 2) := by decide +kernel
theorem dX6_isPart_5 : decode cX6_isPart 5 = .ok (.invokestatic 67, 3) := by decide +kernel
theorem dX6_isPart_8 : decode cX6_isPart 8 = .ok (.ireturn, 1) := by decide +kernel
set_option maxRecDepth 20000 in
theorem ggX6_addWheel_X6_isPart : GoodIn wsX6_addWheel wsX6_isPart := goodIn_r _ [10, 11, 12, 9, 13] (by decide +kernel) (by decide +kernel)
set_option maxRecDepth 20000 in
theorem gX6_addWheel_X6_isPart : GoodIn wsX6_addWheel (va_wsS RX6 74 yX6_isPart wsX6_isPart) := goodIn_app (goodIn_of _ (by decide +kernel)) ggX6_addWheel_X6_isPart
set_option maxRecDepth 20000 in
theorem ggX6_addWheel_X6_in : GoodIn wsX6_addWheel wsX6_in := goodIn_r _ [13] (by decide +kernel) (by decide +kernel)
set_option maxRecDepth 20000 in
theorem gX6_addWheel_X6_in : GoodIn wsX6_addWheel (va_wsS RX6 67 yX6_in wsX6_in) := goodIn_app (goodIn_of _ (by decide +kernel)) ggX6_addWheel_X6_in
set_option maxRecDepth 20000 in
theorem ggX6_addWheel_X6_act : GoodIn wsX6_addWheel wsX6_act := goodIn_r _ [17, 18, 19, 4, 23, 24, 25, 26, 27, 28, 29, 30, 31, 32, 33] (by decide +kernel) (by decide +kernel)
set_option maxRecDepth 20000 in
theorem gX6_addWheel_X6_act : GoodIn wsX6_addWheel (wsV RX6 84 RX6 yX6_act wsX6_act) := goodIn_app (goodIn_of _ (by decide +kernel)) ggX6_addWheel_X6_act
set_option maxRecDepth 20000 in
theorem ggX6_addWheel_X6_wheelAt : GoodIn wsX6_addWheel wsX6_wheelAt := goodIn_r _ [22] (by decide +kernel) (by decide +kernel)
set_option maxRecDepth 20000 in
theorem gX6_addWheel_X6_wheelAt : GoodIn wsX6_addWheel (va_wsS RX6 71 yX6_wheelAt wsX6_wheelAt) := goodIn_app (goodIn_of _ (by decide +kernel)) ggX6_addWheel_X6_wheelAt
theorem dX6_addWheel_0 : decode cX6_addWheel 0 = .ok (.iload_n 1, 1) := by decide +kernel
theorem dX6_addWheel_1 : decode cX6_addWheel 1 = .ok (.invokestatic 74, 3) := by decide +kernel
theorem dX6_addWheel_4 : decode cX6_addWheel 4 = .ok (.ifCond .eq 51, 3) := by decide +kernel
theorem dX6_addWheel_7 : decode cX6_addWheel 7 = .ok (.iload_n 2, 1) := by decide +kernel
theorem dX6_addWheel_8 : decode cX6_addWheel 8 = .ok (.invokestatic 74, 3) := by decide +kernel
theorem dX6_addWheel_11 : decode cX6_addWheel 11 = .ok (.ifCond .eq 44, 3) := by decide +kernel
theorem dX6_addWheel_14 : decode cX6_addWheel 14 = .ok (.iload_n 3, 1) := by decide +kernel
theorem dX6_addWheel_15 : decode cX6_addWheel 15 = .ok (.invokestatic 74, 3) := by decide +kernel
theorem dX6_addWheel_18 : decode cX6_addWheel 18 = .ok (.ifCond .eq 37, 3) := by decide +kernel
theorem dX6_addWheel_21 : decode cX6_addWheel 21 = .ok (.iload_n 1, 1) := by decide +kernel
theorem dX6_addWheel_22 : decode cX6_addWheel 22 = .ok (.ifCond .ne 11, 3) := by decide +kernel
theorem dX6_addWheel_25 : decode cX6_addWheel 25 = .ok (.iload_n 2, 1) := by decide +kernel
theorem dX6_addWheel_26 : decode cX6_addWheel 26 = .ok (.ifCond .ne 7, 3) := by decide +kernel
theorem dX6_addWheel_29 : decode cX6_addWheel 29 = .ok (.iload_n 3, 1) := by decide +kernel
theorem dX6_addWheel_30 : decode cX6_addWheel 30 = .ok (.ifCond .eq 25, 3) := by decide +kernel
theorem dX6_addWheel_33 : decode cX6_addWheel 33 = .ok (.iload 4, 2) := by decide +kernel
theorem dX6_addWheel_35 : decode cX6_addWheel 35 = .ok (.iconst 1, 1) := by decide +kernel
theorem dX6_addWheel_36 : decode cX6_addWheel 36 = .ok (.ldc 78, 2) := by decide +kernel
theorem dX6_addWheel_38 : decode cX6_addWheel 38 = .ok (.invokestatic 67, 3) := by decide +kernel
theorem dX6_addWheel_41 : decode cX6_addWheel 41 = .ok (.ifCond .eq 14, 3) := by decide +kernel
theorem dX6_addWheel_44 : decode cX6_addWheel 44 = .ok (.iload 5, 2) := by decide +kernel
theorem dX6_addWheel_46 : decode cX6_addWheel 46 = .ok (.iconst 1, 1) := by decide +kernel
theorem dX6_addWheel_47 : decode cX6_addWheel 47 = .ok (.ldc 79, 2) := by decide +kernel
theorem dX6_addWheel_49 : decode cX6_addWheel 49 = .ok (.invokestatic 67, 3) := by decide +kernel
theorem dX6_addWheel_52 : decode cX6_addWheel 52 = .ok (.ifCond .ne 6, 3) := by decide +kernel
theorem dX6_addWheel_55 : decode cX6_addWheel 55 = .ok (.ldc 80, 2) := by decide +kernel
theorem dX6_addWheel_57 : decode cX6_addWheel 57 = .ok (.ireturn, 1) := by decide +kernel
theorem dX6_addWheel_58 : decode cX6_addWheel 58 = .ok (.aload_n 0, 1) := by decide +kernel
theorem dX6_addWheel_59 : decode cX6_addWheel 59 = .ok (.getfield 7, 3) := by decide +kernel
theorem dX6_addWheel_62 : decode cX6_addWheel 62 = .ok (.bipush 6, 2) := by decide +kernel
theorem dX6_addWheel_64 : decode cX6_addWheel 64 = .ok (.laload, 1) := by decide +kernel
theorem dX6_addWheel_65 : decode cX6_addWheel 65 = .ok (.ldc2_w 81, 3) := by decide +kernel
theorem dX6_addWheel_68 : decode cX6_addWheel 68 = .ok (.lcmp, 1) := by decide +kernel
theorem dX6_addWheel_69 : decode cX6_addWheel 69 = .ok (.ifCond .ne 6, 3) := by decide +kernel
theorem dX6_addWheel_72 : decode cX6_addWheel 72 = .ok (.ldc 83, 2) := by decide +kernel
theorem dX6_addWheel_74 : decode cX6_addWheel 74 = .ok (.ireturn, 1) := by decide +kernel
theorem dX6_addWheel_75 : decode cX6_addWheel 75 = .ok (.aload_n 0, 1) := by decide +kernel
theorem dX6_addWheel_76 : decode cX6_addWheel 76 = .ok (.invokevirtual 84, 3) := by decide +kernel
theorem dX6_addWheel_79 : decode cX6_addWheel 79 = .ok (.aload_n 0, 1) := by decide +kernel
theorem dX6_addWheel_80 : decode cX6_addWheel 80 = .ok (.getfield 7, 3) := by decide +kernel
theorem dX6_addWheel_83 : decode cX6_addWheel 83 = .ok (.bipush 6, 2) := by decide +kernel
theorem dX6_addWheel_85 : decode cX6_addWheel 85 = .ok (.laload, 1) := by decide +kernel
theorem dX6_addWheel_86 : decode cX6_addWheel 86 = .ok (.l2i, 1) := by decide +kernel
theorem dX6_addWheel_87 : decode cX6_addWheel 87 = .ok (.istore 6, 2) := by decide +kernel
theorem dX6_addWheel_89 : decode cX6_addWheel 89 = .ok (.aload_n 0, 1) := by decide +kernel
theorem dX6_addWheel_90 : decode cX6_addWheel 90 = .ok (.getfield 7, 3) := by decide +kernel
theorem dX6_addWheel_93 : decode cX6_addWheel 93 = .ok (.iload 6, 2) := by decide +kernel
theorem dX6_addWheel_95 : decode cX6_addWheel 95 = .ok (.iconst 0, 1) := by decide +kernel
theorem dX6_addWheel_96 : decode cX6_addWheel 96 = .ok (.invokestatic 71, 3) := by decide +kernel
theorem dX6_addWheel_99 : decode cX6_addWheel 99 = .ok (.iload_n 1, 1) := by decide +kernel
theorem dX6_addWheel_100 : decode cX6_addWheel 100 = .ok (.i2l, 1) := by decide +kernel
theorem dX6_addWheel_101 : decode cX6_addWheel 101 = .ok (.lastore, 1) := by decide +kernel
theorem dX6_addWheel_102 : decode cX6_addWheel 102 = .ok (.aload_n 0, 1) := by decide +kernel
theorem dX6_addWheel_103 : decode cX6_addWheel 103 = .ok (.getfield 7, 3) := by decide +kernel
theorem dX6_addWheel_106 : decode cX6_addWheel 106 = .ok (.iload 6, 2) := by decide +kernel
theorem dX6_addWheel_108 : decode cX6_addWheel 108 = .ok (.iconst 1, 1) := by decide +kernel
theorem dX6_addWheel_109 : decode cX6_addWheel 109 = .ok (.invokestatic 71, 3) := by decide +kernel
theorem dX6_addWheel_112 : decode cX6_addWheel 112 = .ok (.iload_n 2, 1) := by decide +kernel
theorem dX6_addWheel_113 : decode cX6_addWheel 113 = .ok (.i2l, 1) := by decide +kernel
theorem dX6_addWheel_114 : decode cX6_addWheel 114 = .ok (.lastore, 1) := by decide +kernel
theorem dX6_addWheel_115 : decode cX6_addWheel 115 = .ok (.aload_n 0, 1) := by decide +kernel
theorem dX6_addWheel_116 : decode cX6_addWheel 116 = .ok (.getfield 7, 3) := by decide +kernel
theorem dX6_addWheel_119 : decode cX6_addWheel 119 = .ok (.iload 6, 2) := by decide +kernel
theorem dX6_addWheel_121 : decode cX6_addWheel 121 = .ok (.iconst 2, 1) := by decide +kernel
theorem dX6_addWheel_122 : decode cX6_addWheel 122 = .ok (.invokestatic 71, 3) := by decide +kernel
theorem dX6_addWheel_125 : decode cX6_addWheel 125 = .ok (.iload_n 3, 1) := by decide +kernel
theorem dX6_addWheel_126 : decode cX6_addWheel 126 = .ok (.i2l, 1) := by decide +kernel
theorem dX6_addWheel_127 : decode cX6_addWheel 127 = .ok (.lastore, 1) := by decide +kernel
theorem dX6_addWheel_128 : decode cX6_addWheel 128 = .ok (.aload_n 0, 1) := by decide +kernel
theorem dX6_addWheel_129 : decode cX6_addWheel 129 = .ok (.getfield 7, 3) := by decide +kernel
theorem dX6_addWheel_132 : decode cX6_addWheel 132 = .ok (.iload 6, 2) := by decide +kernel
theorem dX6_addWheel_134 : decode cX6_addWheel 134 = .ok (.iconst 3, 1) := by decide +kernel
theorem dX6_addWheel_135 : decode cX6_addWheel 135 = .ok (.invokestatic 71, 3) := by decide +kernel
theorem dX6_addWheel_138 : decode cX6_addWheel 138 = .ok (.lconst 0, 1) := by decide +kernel
theorem dX6_addWheel_139 : decode cX6_addWheel 139 = .ok (.lastore, 1) := by decide +kernel
theorem dX6_addWheel_140 : decode cX6_addWheel 140 = .ok (.aload_n 0, 1) := by decide +kernel
theorem dX6_addWheel_141 : decode cX6_addWheel 141 = .ok (.getfield 7, 3) := by decide +kernel
theorem dX6_addWheel_144 : decode cX6_addWheel 144 = .ok (.iload 6, 2) := by decide +kernel
theorem dX6_addWheel_146 : decode cX6_addWheel 146 = .ok (.iconst 4, 1) := by decide +kernel
theorem dX6_addWheel_147 : decode cX6_addWheel 147 = .ok (.invokestatic 71, 3) := by decide +kernel
theorem dX6_addWheel_150 : decode cX6_addWheel 150 = .ok (.iload 4, 2) := by decide +kernel
theorem dX6_addWheel_152 : decode cX6_addWheel 152 = .ok (.i2l, 1) := by decide +kernel
theorem dX6_addWheel_153 : decode cX6_addWheel 153 = .ok (.lastore, 1) := by decide +kernel
theorem dX6_addWheel_154 : decode cX6_addWheel 154 = .ok (.aload_n 0, 1) := by decide +kernel
theorem dX6_addWheel_155 : decode cX6_addWheel 155 = .ok (.getfield 7, 3) := by decide +kernel
theorem dX6_addWheel_158 : decode cX6_addWheel 158 = .ok (.iload 6, 2) := by decide +kernel
theorem dX6_addWheel_160 : decode cX6_addWheel 160 = .ok (.iconst 5, 1) := by decide +kernel
theorem dX6_addWheel_161 : decode cX6_addWheel 161 = .ok (.invokestatic 71, 3) := by decide +kernel
theorem dX6_addWheel_164 : decode cX6_addWheel 164 = .ok (.iload 5, 2) := by decide +kernel
theorem dX6_addWheel_166 : decode cX6_addWheel 166 = .ok (.i2l, 1) := by decide +kernel
theorem dX6_addWheel_167 : decode cX6_addWheel 167 = .ok (.lastore, 1) := by decide +kernel
theorem dX6_addWheel_168 : decode cX6_addWheel 168 = .ok (.aload_n 0, 1) := by decide +kernel
theorem dX6_addWheel_169 : decode cX6_addWheel 169 = .ok (.getfield 7, 3) := by decide +kernel
theorem dX6_addWheel_172 : decode cX6_addWheel 172 = .ok (.iload 6, 2) := by decide +kernel
theorem dX6_addWheel_174 : decode cX6_addWheel 174 = .ok (.bipush 6, 2) := by decide +kernel
theorem dX6_addWheel_176 : decode cX6_addWheel 176 = .ok (.invokestatic 71, 3) := by decide +kernel
theorem dX6_addWheel_179 : decode cX6_addWheel 179 = .ok (.lconst 0, 1) := by decide +kernel
theorem dX6_addWheel_180 : decode cX6_addWheel 180 = .ok (.lastore, 1) := by decide +kernel
theorem dX6_addWheel_181 : decode cX6_addWheel 181 = .ok (.aload_n 0, 1) := by decide +kernel
theorem dX6_addWheel_182 : decode cX6_addWheel 182 = .ok (.getfield 7, 3) := by decide +kernel
theorem dX6_addWheel_185 : decode cX6_addWheel 185 = .ok (.iload 6, 2) := by decide +kernel
theorem dX6_addWheel_187 : decode cX6_addWheel 187 = .ok (.bipush 7, 2) := by decide +kernel
theorem dX6_addWheel_189 : decode cX6_addWheel 189 = .ok (.invokestatic 71, 3) := by decide +kernel
theorem dX6_addWheel_192 : decode cX6_addWheel 192 = .ok (.lconst 0, 1) := by decide +kernel
theorem dX6_addWheel_193 : decode cX6_addWheel 193 = .ok (.lastore, 1) := by decide +kernel
theorem dX6_addWheel_194 : decode cX6_addWheel 194 = .ok (.aload_n 0, 1) := by decide +kernel
theorem dX6_addWheel_195 : decode cX6_addWheel 195 = .ok (.getfield 7, 3) := by decide +kernel
theorem dX6_addWheel_198 : decode cX6_addWheel 198 = .ok (.bipush 6, 2) := by decide +kernel
theorem dX6_addWheel_200 : decode cX6_addWheel 200 = .ok (.dup2, 1) := by decide +kernel
theorem dX6_addWheel_201 : decode cX6_addWheel 201 = .ok (.laload, 1) := by decide +kernel
theorem dX6_addWheel_202 : decode cX6_addWheel 202 = .ok (.lconst 1, 1) := by decide +kernel
theorem dX6_addWheel_203 : decode cX6_addWheel 203 = .ok (.ladd, 1) := by decide +kernel
theorem dX6_addWheel_204 : decode cX6_addWheel 204 = .ok (.lastore, 1) := by decide +kernel
theorem dX6_addWheel_205 : decode cX6_addWheel 205 = .ok (.iload 6, 2) := by decide +kernel
theorem dX6_addWheel_207 : decode cX6_addWheel 207 = .ok (.ireturn, 1) := by decide +kernel
set_option maxRecDepth 20000 in
theorem ggX6_sets_X6_act : GoodIn wsX6_sets wsX6_act := goodIn_r _ [6, 7, 8, 1, 9, 10, 11, 12, 13, 14, 15, 16, 17, 18, 19] (by decide +kernel) (by decide +kernel)
set_option maxRecDepth 20000 in
theorem gX6_sets_X6_act : GoodIn wsX6_sets (wsV RX6 84 RX6 yX6_act wsX6_act) := goodIn_app (goodIn_of _ (by decide +kernel)) ggX6_sets_X6_act
theorem dX6_sets_0 : decode cX6_sets 0 = .ok (.aload_n 0, 1) := by decide +kernel
theorem dX6_sets_1 : decode cX6_sets 1 = .ok (.invokevirtual 84, 3) := by decide +kernel
theorem dX6_sets_4 : decode cX6_sets 4 = .ok (.aload_n 0, 1) := by decide +kernel
theorem dX6_sets_5 : decode cX6_sets 5 = .ok (.getfield 7, 3) := by decide +kernel
theorem dX6_sets_8 : decode cX6_sets 8 = .ok (.iload_n 1, 1) := by decide +kernel
theorem dX6_sets_9 : decode cX6_sets 9 = .ok (.laload, 1) := by decide +kernel
theorem dX6_sets_10 : decode cX6_sets 10 = .ok (.l2i, 1) := by decide +kernel
theorem dX6_sets_11 : decode cX6_sets 11 = .ok (.istore_n 3, 1) := by decide +kernel
theorem dX6_sets_12 : decode cX6_sets 12 = .ok (.aload_n 0, 1) := by decide +kernel
theorem dX6_sets_13 : decode cX6_sets 13 = .ok (.getfield 7, 3) := by decide +kernel
theorem dX6_sets_16 : decode cX6_sets 16 = .ok (.iload_n 1, 1) := by decide +kernel
theorem dX6_sets_17 : decode cX6_sets 17 = .ok (.iload_n 2, 1) := by decide +kernel
theorem dX6_sets_18 : decode cX6_sets 18 = .ok (.i2l, 1) := by decide +kernel
theorem dX6_sets_19 : decode cX6_sets 19 = .ok (.lastore, 1) := by decide +kernel
theorem dX6_sets_20 : decode cX6_sets 20 = .ok (.iload_n 3, 1) := by decide +kernel
theorem dX6_sets_21 : decode cX6_sets 21 = .ok (.ireturn, 1) := by decide +kernel
set_option maxRecDepth 20000 in
theorem ggX6_fail_X6_isWheel : GoodIn wsX6_fail wsX6_isWheel := goodIn_r _ [6, 7, 8, 9, 5, 10, 24, 25, 26, 27, 28, 29, 30, 31, 32, 33, 34] (by decide +kernel) (by decide +kernel)
set_option maxRecDepth 20000 in
theorem gX6_fail_X6_isWheel : GoodIn wsX6_fail (wsV RX6 87 RX6 yX6_isWheel wsX6_isWheel) := goodIn_app (goodIn_of _ (by decide +kernel)) ggX6_fail_X6_isWheel
set_option maxRecDepth 20000 in
theorem ggX6_fail_X6_wheelAt : GoodIn wsX6_fail wsX6_wheelAt := goodIn_r _ [13] (by decide +kernel) (by decide +kernel)
set_option maxRecDepth 20000 in
theorem gX6_fail_X6_wheelAt : GoodIn wsX6_fail (va_wsS RX6 71 yX6_wheelAt wsX6_wheelAt) := goodIn_app (goodIn_of _ (by decide +kernel)) ggX6_fail_X6_wheelAt
set_option maxRecDepth 20000 in
theorem ggX6_fail_X6_sets : GoodIn wsX6_fail wsX6_sets := goodIn_r _ [17, 7, 18, 19, 20, 5, 21, 22, 23, 24, 25, 26, 27, 28, 29, 30, 31, 32, 33, 34] (by decide +kernel) (by decide +kernel)
set_option maxRecDepth 20000 in
theorem gX6_fail_X6_sets : GoodIn wsX6_fail (wsV RX6 90 RX6 yX6_sets wsX6_sets) := goodIn_app (goodIn_of _ (by decide +kernel)) ggX6_fail_X6_sets
theorem dX6_fail_0 : decode cX6_fail 0 = .ok (.aload_n 0, 1) := by decide +kernel
theorem dX6_fail_1 : decode cX6_fail 1 = .ok (.iload_n 1, 1) := by decide +kernel
theorem dX6_fail_2 : decode cX6_fail 2 = .ok (.invokevirtual 87, 3) := by decide +kernel
theorem dX6_fail_5 : decode cX6_fail 5 = .ok (.ifCond .eq 25, 3) := by decide +kernel
theorem dX6_fail_8 : decode cX6_fail 8 = .ok (.aload_n 0, 1) := by decide +kernel
theorem dX6_fail_9 : decode cX6_fail 9 = .ok (.iload_n 1, 1) := by decide +kernel
theorem dX6_fail_10 : decode cX6_fail 10 = .ok (.bipush 6, 2) := by decide +kernel
theorem dX6_fail_12 : decode cX6_fail 12 = .ok (.invokestatic 71, 3) := by decide +kernel
theorem dX6_fail_15 : decode cX6_fail 15 = .ok (.iload_n 2, 1) := by decide +kernel
theorem dX6_fail_16 : decode cX6_fail 16 = .ok (.ifCond .eq 7, 3) := by decide +kernel
theorem dX6_fail_19 : decode cX6_fail 19 = .ok (.iconst 1, 1) := by decide +kernel
theorem dX6_fail_20 : decode cX6_fail 20 = .ok (.goto 4, 3) := by decide +kernel
theorem dX6_fail_23 : decode cX6_fail 23 = .ok (.iconst 0, 1) := by decide +kernel
theorem dX6_fail_24 : decode cX6_fail 24 = .ok (.invokevirtual 90, 3) := by decide +kernel
theorem dX6_fail_27 : decode cX6_fail 27 = .ok (.goto 5, 3) := by decide +kernel
theorem dX6_fail_30 : decode cX6_fail 30 = .ok (.ldc 80, 2) := by decide +kernel
theorem dX6_fail_32 : decode cX6_fail 32 = .ok (.ireturn, 1) := by decide +kernel
set_option maxRecDepth 20000 in
theorem ggX6_setMost_X6_isWheel : GoodIn wsX6_setMost wsX6_isWheel := goodIn_r _ [8, 9, 10, 11, 7, 12, 26, 27, 28, 29, 30, 31, 32, 33, 34, 35, 36] (by decide +kernel) (by decide +kernel)
set_option maxRecDepth 20000 in
theorem gX6_setMost_X6_isWheel : GoodIn wsX6_setMost (wsV RX6 87 RX6 yX6_isWheel wsX6_isWheel) := goodIn_app (goodIn_of _ (by decide +kernel)) ggX6_setMost_X6_isWheel
set_option maxRecDepth 20000 in
theorem ggX6_setMost_X6_in : GoodIn wsX6_setMost wsX6_in := goodIn_r _ [12] (by decide +kernel) (by decide +kernel)
set_option maxRecDepth 20000 in
theorem gX6_setMost_X6_in : GoodIn wsX6_setMost (va_wsS RX6 67 yX6_in wsX6_in) := goodIn_app (goodIn_of _ (by decide +kernel)) ggX6_setMost_X6_in
set_option maxRecDepth 20000 in
theorem ggX6_setMost_X6_wheelAt : GoodIn wsX6_setMost wsX6_wheelAt := goodIn_r _ [15] (by decide +kernel) (by decide +kernel)
set_option maxRecDepth 20000 in
theorem gX6_setMost_X6_wheelAt : GoodIn wsX6_setMost (va_wsS RX6 71 yX6_wheelAt wsX6_wheelAt) := goodIn_app (goodIn_of _ (by decide +kernel)) ggX6_setMost_X6_wheelAt
set_option maxRecDepth 20000 in
theorem ggX6_setMost_X6_sets : GoodIn wsX6_setMost wsX6_sets := goodIn_r _ [19, 9, 20, 21, 22, 7, 23, 24, 25, 26, 27, 28, 29, 30, 31, 32, 33, 34, 35, 36] (by decide +kernel) (by decide +kernel)
set_option maxRecDepth 20000 in
theorem gX6_setMost_X6_sets : GoodIn wsX6_setMost (wsV RX6 90 RX6 yX6_sets wsX6_sets) := goodIn_app (goodIn_of _ (by decide +kernel)) ggX6_setMost_X6_sets
theorem dX6_setMost_0 : decode cX6_setMost 0 = .ok (.aload_n 0, 1) := by decide +kernel
theorem dX6_setMost_1 : decode cX6_setMost 1 = .ok (.iload_n 1, 1) := by decide +kernel
theorem dX6_setMost_2 : decode cX6_setMost 2 = .ok (.invokevirtual 87, 3) := by decide +kernel
theorem dX6_setMost_5 : decode cX6_setMost 5 = .ok (.ifCond .eq 43, 3) := by decide +kernel
theorem dX6_setMost_8 : decode cX6_setMost 8 = .ok (.iload_n 3, 1) := by decide +kernel
theorem dX6_setMost_9 : decode cX6_setMost 9 = .ok (.iconst 1, 1) := by decide +kernel
theorem dX6_setMost_10 : decode cX6_setMost 10 = .ok (.iload_n 2, 1) := by decide +kernel
theorem dX6_setMost_11 : decode cX6_setMost 11 = .ok (.ifCond .eq 8, 3) := by decide +kernel
theorem dX6_setMost_14 : decode cX6_setMost 14 = .ok (.ldc 79, 2) := by decide +kernel
theorem dX6_setMost_16 : decode cX6_setMost 16 = .ok (.goto 5, 3) := by decide +kernel
theorem dX6_setMost_19 : decode cX6_setMost 19 = .ok (.ldc 78, 2) := by decide +kernel
theorem dX6_setMost_21 : decode cX6_setMost 21 = .ok (.invokestatic 67, 3) := by decide +kernel
theorem dX6_setMost_24 : decode cX6_setMost 24 = .ok (.ifCond .eq 24, 3) := by decide +kernel
theorem dX6_setMost_27 : decode cX6_setMost 27 = .ok (.aload_n 0, 1) := by decide +kernel
theorem dX6_setMost_28 : decode cX6_setMost 28 = .ok (.iload_n 1, 1) := by decide +kernel
theorem dX6_setMost_29 : decode cX6_setMost 29 = .ok (.iload_n 2, 1) := by decide +kernel
theorem dX6_setMost_30 : decode cX6_setMost 30 = .ok (.ifCond .eq 7, 3) := by decide +kernel
theorem dX6_setMost_33 : decode cX6_setMost 33 = .ok (.iconst 5, 1) := by decide +kernel
theorem dX6_setMost_34 : decode cX6_setMost 34 = .ok (.goto 4, 3) := by decide +kernel
theorem dX6_setMost_37 : decode cX6_setMost 37 = .ok (.iconst 4, 1) := by decide +kernel
theorem dX6_setMost_38 : decode cX6_setMost 38 = .ok (.invokestatic 71, 3) := by decide +kernel
theorem dX6_setMost_41 : decode cX6_setMost 41 = .ok (.iload_n 3, 1) := by decide +kernel
theorem dX6_setMost_42 : decode cX6_setMost 42 = .ok (.invokevirtual 90, 3) := by decide +kernel
theorem dX6_setMost_45 : decode cX6_setMost 45 = .ok (.goto 5, 3) := by decide +kernel
theorem dX6_setMost_48 : decode cX6_setMost 48 = .ok (.ldc 80, 2) := by decide +kernel
theorem dX6_setMost_50 : decode cX6_setMost 50 = .ok (.ireturn, 1) := by decide +kernel
set_option maxRecDepth 20000 in
theorem ggX6_wheel_X6_isWheel : GoodIn wsX6_wheel wsX6_isWheel := goodIn_r _ [7, 1, 8, 9, 6, 10, 14, 15, 16, 17, 18, 19, 20, 21, 22, 23, 24] (by decide +kernel) (by decide +kernel)
set_option maxRecDepth 20000 in
theorem gX6_wheel_X6_isWheel : GoodIn wsX6_wheel (wsV RX6 87 RX6 yX6_isWheel wsX6_isWheel) := goodIn_app (goodIn_of _ (by decide +kernel)) ggX6_wheel_X6_isWheel
set_option maxRecDepth 20000 in
theorem ggX6_wheel_X6_in : GoodIn wsX6_wheel wsX6_in := goodIn_r _ [10] (by decide +kernel) (by decide +kernel)
set_option maxRecDepth 20000 in
theorem gX6_wheel_X6_in : GoodIn wsX6_wheel (va_wsS RX6 67 yX6_in wsX6_in) := goodIn_app (goodIn_of _ (by decide +kernel)) ggX6_wheel_X6_in
set_option maxRecDepth 20000 in
theorem ggX6_wheel_X6_wheelAt : GoodIn wsX6_wheel wsX6_wheelAt := goodIn_r _ [13] (by decide +kernel) (by decide +kernel)
set_option maxRecDepth 20000 in
theorem gX6_wheel_X6_wheelAt : GoodIn wsX6_wheel (va_wsS RX6 71 yX6_wheelAt wsX6_wheelAt) := goodIn_app (goodIn_of _ (by decide +kernel)) ggX6_wheel_X6_wheelAt
theorem dX6_wheel_0 : decode cX6_wheel 0 = .ok (.aload_n 0, 1) := by decide +kernel
theorem dX6_wheel_1 : decode cX6_wheel 1 = .ok (.iload_n 1, 1) := by decide +kernel
theorem dX6_wheel_2 : decode cX6_wheel 2 = .ok (.invokevirtual 87, 3) := by decide +kernel
theorem dX6_wheel_5 : decode cX6_wheel 5 = .ok (.ifCond .eq 27, 3) := by decide +kernel
theorem dX6_wheel_8 : decode cX6_wheel 8 = .ok (.iload_n 2, 1) := by decide +kernel
theorem dX6_wheel_9 : decode cX6_wheel 9 = .ok (.iconst 0, 1) := by decide +kernel
theorem dX6_wheel_10 : decode cX6_wheel 10 = .ok (.bipush 7, 2) := by decide +kernel
theorem dX6_wheel_12 : decode cX6_wheel 12 = .ok (.invokestatic 67, 3) := by decide +kernel
theorem dX6_wheel_15 : decode cX6_wheel 15 = .ok (.ifCond .eq 17, 3) := by decide +kernel
theorem dX6_wheel_18 : decode cX6_wheel 18 = .ok (.aload_n 0, 1) := by decide +kernel
theorem dX6_wheel_19 : decode cX6_wheel 19 = .ok (.getfield 7, 3) := by decide +kernel
theorem dX6_wheel_22 : decode cX6_wheel 22 = .ok (.iload_n 1, 1) := by decide +kernel
theorem dX6_wheel_23 : decode cX6_wheel 23 = .ok (.iload_n 2, 1) := by decide +kernel
theorem dX6_wheel_24 : decode cX6_wheel 24 = .ok (.invokestatic 71, 3) := by decide +kernel
theorem dX6_wheel_27 : decode cX6_wheel 27 = .ok (.laload, 1) := by decide +kernel
theorem dX6_wheel_28 : decode cX6_wheel 28 = .ok (.l2i, 1) := by decide +kernel
theorem dX6_wheel_29 : decode cX6_wheel 29 = .ok (.goto 5, 3) := by decide +kernel
theorem dX6_wheel_32 : decode cX6_wheel 32 = .ok (.ldc 80, 2) := by decide +kernel
theorem dX6_wheel_34 : decode cX6_wheel 34 = .ok (.ireturn, 1) := by decide +kernel
theorem dX6_wheels_0 : decode cX6_wheels 0 = .ok (.aload_n 0, 1) := by decide +kernel
theorem dX6_wheels_1 : decode cX6_wheels 1 = .ok (.getfield 7, 3) := by decide +kernel
theorem dX6_wheels_4 : decode cX6_wheels 4 = .ok (.bipush 6, 2) := by decide +kernel
theorem dX6_wheels_6 : decode cX6_wheels 6 = .ok (.laload, 1) := by decide +kernel
theorem dX6_wheels_7 : decode cX6_wheels 7 = .ok (.l2i, 1) := by decide +kernel
theorem dX6_wheels_8 : decode cX6_wheels 8 = .ok (.ireturn, 1) := by decide +kernel
set_option maxRecDepth 20000 in
theorem ggX6_isAxis_X6_in : GoodIn wsX6_isAxis wsX6_in := goodIn_r _ [4] (by decide +kernel) (by decide +kernel)
set_option maxRecDepth 20000 in
theorem gX6_isAxis_X6_in : GoodIn wsX6_isAxis (va_wsS RX6 67 yX6_in wsX6_in) := goodIn_app (goodIn_of _ (by decide +kernel)) ggX6_isAxis_X6_in
theorem dX6_isAxis_0 : decode cX6_isAxis 0 = .ok (.iload_n 0, 1) := by decide +kernel
theorem dX6_isAxis_1 : decode cX6_isAxis 1 = .ok (.iconst 0, 1) := by decide +kernel
theorem dX6_isAxis_2 : decode cX6_isAxis 2 = .ok (.iconst 2, 1) := by decide +kernel
theorem dX6_isAxis_3 : decode cX6_isAxis 3 = .ok (.invokestatic 67, 3) := by decide +kernel
theorem dX6_isAxis_6 : decode cX6_isAxis 6 = .ok (.ireturn, 1) := by decide +kernel
set_option maxRecDepth 20000 in
theorem ggX6_setAxis_X6_in : GoodIn wsX6_setAxis wsX6_in := goodIn_r _ [7] (by decide +kernel) (by decide +kernel)
set_option maxRecDepth 20000 in
theorem gX6_setAxis_X6_in : GoodIn wsX6_setAxis (va_wsS RX6 67 yX6_in wsX6_in) := goodIn_app (goodIn_of _ (by decide +kernel)) ggX6_setAxis_X6_in
set_option maxRecDepth 20000 in
theorem ggX6_setAxis_X6_isAxis : GoodIn wsX6_setAxis wsX6_isAxis := goodIn_r _ [10, 4, 5, 6, 7] (by decide +kernel) (by decide +kernel)
set_option maxRecDepth 20000 in
theorem gX6_setAxis_X6_isAxis : GoodIn wsX6_setAxis (va_wsS RX6 94 yX6_isAxis wsX6_isAxis) := goodIn_app (goodIn_of _ (by decide +kernel)) ggX6_setAxis_X6_isAxis
set_option maxRecDepth 20000 in
theorem ggX6_setAxis_X6_axisAt : GoodIn wsX6_setAxis wsX6_axisAt := goodIn_r _ [13] (by decide +kernel) (by decide +kernel)
set_option maxRecDepth 20000 in
theorem gX6_setAxis_X6_axisAt : GoodIn wsX6_setAxis (va_wsS RX6 45 yX6_axisAt wsX6_axisAt) := goodIn_app (goodIn_of _ (by decide +kernel)) ggX6_setAxis_X6_axisAt
set_option maxRecDepth 20000 in
theorem ggX6_setAxis_X6_sets : GoodIn wsX6_setAxis wsX6_sets := goodIn_r _ [17, 18, 19, 20, 21, 6, 22, 23, 24, 25, 26, 27, 28, 29, 30, 31, 32, 33, 34, 35] (by decide +kernel) (by decide +kernel)
set_option maxRecDepth 20000 in
theorem gX6_setAxis_X6_sets : GoodIn wsX6_setAxis (wsV RX6 90 RX6 yX6_sets wsX6_sets) := goodIn_app (goodIn_of _ (by decide +kernel)) ggX6_setAxis_X6_sets
theorem dX6_setAxis_0 : decode cX6_setAxis 0 = .ok (.iload_n 2, 1) := by decide +kernel
theorem dX6_setAxis_1 : decode cX6_setAxis 1 = .ok (.ifCond .ne 14, 3) := by decide +kernel
theorem dX6_setAxis_4 : decode cX6_setAxis 4 = .ok (.iload_n 3, 1) := by decide +kernel
theorem dX6_setAxis_5 : decode cX6_setAxis 5 = .ok (.iconst 1, 1) := by decide +kernel
theorem dX6_setAxis_6 : decode cX6_setAxis 6 = .ok (.sipush 1000, 3) := by decide +kernel
theorem dX6_setAxis_9 : decode cX6_setAxis 9 = .ok (.invokestatic 67, 3) := by decide +kernel
theorem dX6_setAxis_12 : decode cX6_setAxis 12 = .ok (.goto 58, 3) := by decide +kernel
theorem dX6_setAxis_15 : decode cX6_setAxis 15 = .ok (.iload_n 2, 1) := by decide +kernel
theorem dX6_setAxis_16 : decode cX6_setAxis 16 = .ok (.iconst 1, 1) := by decide +kernel
theorem dX6_setAxis_17 : decode cX6_setAxis 17 = .ok (.if_icmp .ne 14, 3) := by decide +kernel
theorem dX6_setAxis_20 : decode cX6_setAxis 20 = .ok (.iload_n 3, 1) := by decide +kernel
theorem dX6_setAxis_21 : decode cX6_setAxis 21 = .ok (.ldc 93, 2) := by decide +kernel
theorem dX6_setAxis_23 : decode cX6_setAxis 23 = .ok (.ldc 78, 2) := by decide +kernel
theorem dX6_setAxis_25 : decode cX6_setAxis 25 = .ok (.invokestatic 67, 3) := by decide +kernel
theorem dX6_setAxis_28 : decode cX6_setAxis 28 = .ok (.goto 42, 3) := by decide +kernel
theorem dX6_setAxis_31 : decode cX6_setAxis 31 = .ok (.iload_n 2, 1) := by decide +kernel
theorem dX6_setAxis_32 : decode cX6_setAxis 32 = .ok (.iconst 2, 1) := by decide +kernel
theorem dX6_setAxis_33 : decode cX6_setAxis 33 = .ok (.if_icmp .ne 14, 3) := by decide +kernel
theorem dX6_setAxis_36 : decode cX6_setAxis 36 = .ok (.iload_n 3, 1) := by decide +kernel
theorem dX6_setAxis_37 : decode cX6_setAxis 37 = .ok (.bipush (-100), 2) := by decide +kernel
theorem dX6_setAxis_39 : decode cX6_setAxis 39 = .ok (.bipush 100, 2) := by decide +kernel
theorem dX6_setAxis_41 : decode cX6_setAxis 41 = .ok (.invokestatic 67, 3) := by decide +kernel
theorem dX6_setAxis_44 : decode cX6_setAxis 44 = .ok (.goto 26, 3) := by decide +kernel
theorem dX6_setAxis_47 : decode cX6_setAxis 47 = .ok (.iload_n 2, 1) := by decide +kernel
theorem dX6_setAxis_48 : decode cX6_setAxis 48 = .ok (.iconst 3, 1) := by decide +kernel
theorem dX6_setAxis_49 : decode cX6_setAxis 49 = .ok (.if_icmp .ne 20, 3) := by decide +kernel
theorem dX6_setAxis_52 : decode cX6_setAxis 52 = .ok (.iload_n 3, 1) := by decide +kernel
theorem dX6_setAxis_53 : decode cX6_setAxis 53 = .ok (.sipush (-1000), 3) := by decide +kernel
theorem dX6_setAxis_56 : decode cX6_setAxis 56 = .ok (.sipush 1000, 3) := by decide +kernel
theorem dX6_setAxis_59 : decode cX6_setAxis 59 = .ok (.invokestatic 67, 3) := by decide +kernel
theorem dX6_setAxis_62 : decode cX6_setAxis 62 = .ok (.ifCond .eq 7, 3) := by decide +kernel
theorem dX6_setAxis_65 : decode cX6_setAxis 65 = .ok (.iconst 1, 1) := by decide +kernel
theorem dX6_setAxis_66 : decode cX6_setAxis 66 = .ok (.goto 4, 3) := by decide +kernel
theorem dX6_setAxis_69 : decode cX6_setAxis 69 = .ok (.iconst 0, 1) := by decide +kernel
theorem dX6_setAxis_70 : decode cX6_setAxis 70 = .ok (.istore 4, 2) := by decide +kernel
theorem dX6_setAxis_72 : decode cX6_setAxis 72 = .ok (.iload_n 1, 1) := by decide +kernel
theorem dX6_setAxis_73 : decode cX6_setAxis 73 = .ok (.invokestatic 94, 3) := by decide +kernel
theorem dX6_setAxis_76 : decode cX6_setAxis 76 = .ok (.ifCond .eq 23, 3) := by decide +kernel
theorem dX6_setAxis_79 : decode cX6_setAxis 79 = .ok (.iload 4, 2) := by decide +kernel
theorem dX6_setAxis_81 : decode cX6_setAxis 81 = .ok (.ifCond .eq 18, 3) := by decide +kernel
theorem dX6_setAxis_84 : decode cX6_setAxis 84 = .ok (.aload_n 0, 1) := by decide +kernel
theorem dX6_setAxis_85 : decode cX6_setAxis 85 = .ok (.iload_n 1, 1) := by decide +kernel
theorem dX6_setAxis_86 : decode cX6_setAxis 86 = .ok (.iconst 2, 1) := by decide +kernel
theorem dX6_setAxis_87 : decode cX6_setAxis 87 = .ok (.iload_n 2, 1) := by decide +kernel
theorem dX6_setAxis_88 : decode cX6_setAxis 88 = .ok (.iadd, 1) := by decide +kernel
theorem dX6_setAxis_89 : decode cX6_setAxis 89 = .ok (.invokestatic 45, 3) := by decide +kernel
theorem dX6_setAxis_92 : decode cX6_setAxis 92 = .ok (.iload_n 3, 1) := by decide +kernel
theorem dX6_setAxis_93 : decode cX6_setAxis 93 = .ok (.invokevirtual 90, 3) := by decide +kernel
theorem dX6_setAxis_96 : decode cX6_setAxis 96 = .ok (.goto 5, 3) := by decide +kernel
theorem dX6_setAxis_99 : decode cX6_setAxis 99 = .ok (.ldc 80, 2) := by decide +kernel
theorem dX6_setAxis_101 : decode cX6_setAxis 101 = .ok (.ireturn, 1) := by decide +kernel
set_option maxRecDepth 20000 in
theorem ggX6_set_X6_in : GoodIn wsX6_set wsX6_in := goodIn_r _ [6] (by decide +kernel) (by decide +kernel)
set_option maxRecDepth 20000 in
theorem gX6_set_X6_in : GoodIn wsX6_set (va_wsS RX6 67 yX6_in wsX6_in) := goodIn_app (goodIn_of _ (by decide +kernel)) ggX6_set_X6_in
set_option maxRecDepth 20000 in
theorem ggX6_set_X6_sets : GoodIn wsX6_set wsX6_sets := goodIn_r _ [10, 11, 12, 13, 14, 5, 15, 16, 17, 18, 19, 20, 21, 22, 23, 24, 25, 26, 27, 28] (by decide +kernel) (by decide +kernel)
set_option maxRecDepth 20000 in
theorem gX6_set_X6_sets : GoodIn wsX6_set (wsV RX6 90 RX6 yX6_sets wsX6_sets) := goodIn_app (goodIn_of _ (by decide +kernel)) ggX6_set_X6_sets
theorem dX6_set_0 : decode cX6_set 0 = .ok (.iload_n 1, 1) := by decide +kernel
theorem dX6_set_1 : decode cX6_set 1 = .ok (.ifCond .eq 8, 3) := by decide +kernel
theorem dX6_set_4 : decode cX6_set 4 = .ok (.iload_n 1, 1) := by decide +kernel
theorem dX6_set_5 : decode cX6_set 5 = .ok (.iconst 1, 1) := by decide +kernel
theorem dX6_set_6 : decode cX6_set 6 = .ok (.if_icmp .ne 9, 3) := by decide +kernel
theorem dX6_set_9 : decode cX6_set 9 = .ok (.sipush 1000, 3) := by decide +kernel
theorem dX6_set_12 : decode cX6_set 12 = .ok (.goto 16, 3) := by decide +kernel
theorem dX6_set_15 : decode cX6_set 15 = .ok (.iload_n 1, 1) := by decide +kernel
theorem dX6_set_16 : decode cX6_set 16 = .ok (.iconst 3, 1) := by decide +kernel
theorem dX6_set_17 : decode cX6_set 17 = .ok (.if_icmp .ne 8, 3) := by decide +kernel
theorem dX6_set_20 : decode cX6_set 20 = .ok (.ldc 79, 2) := by decide +kernel
theorem dX6_set_22 : decode cX6_set 22 = .ok (.goto 6, 3) := by decide +kernel
theorem dX6_set_25 : decode cX6_set 25 = .ok (.sipush 10000, 3) := by decide +kernel
theorem dX6_set_28 : decode cX6_set 28 = .ok (.istore_n 3, 1) := by decide +kernel
theorem dX6_set_29 : decode cX6_set 29 = .ok (.iload_n 1, 1) := by decide +kernel
theorem dX6_set_30 : decode cX6_set 30 = .ok (.iconst 2, 1) := by decide +kernel
theorem dX6_set_31 : decode cX6_set 31 = .ok (.if_icmp .eq 8, 3) := by decide +kernel
theorem dX6_set_34 : decode cX6_set 34 = .ok (.iload_n 1, 1) := by decide +kernel
theorem dX6_set_35 : decode cX6_set 35 = .ok (.iconst 3, 1) := by decide +kernel
theorem dX6_set_36 : decode cX6_set 36 = .ok (.if_icmp .ne 7, 3) := by decide +kernel
theorem dX6_set_39 : decode cX6_set 39 = .ok (.iconst 1, 1) := by decide +kernel
theorem dX6_set_40 : decode cX6_set 40 = .ok (.goto 4, 3) := by decide +kernel
theorem dX6_set_43 : decode cX6_set 43 = .ok (.iconst 0, 1) := by decide +kernel
theorem dX6_set_44 : decode cX6_set 44 = .ok (.istore 4, 2) := by decide +kernel
theorem dX6_set_46 : decode cX6_set 46 = .ok (.iload_n 1, 1) := by decide +kernel
theorem dX6_set_47 : decode cX6_set 47 = .ok (.iconst 0, 1) := by decide +kernel
theorem dX6_set_48 : decode cX6_set 48 = .ok (.iconst 4, 1) := by decide +kernel
theorem dX6_set_49 : decode cX6_set 49 = .ok (.invokestatic 67, 3) := by decide +kernel
theorem dX6_set_52 : decode cX6_set 52 = .ok (.ifCond .eq 22, 3) := by decide +kernel
theorem dX6_set_55 : decode cX6_set 55 = .ok (.iload_n 2, 1) := by decide +kernel
theorem dX6_set_56 : decode cX6_set 56 = .ok (.iload 4, 2) := by decide +kernel
theorem dX6_set_58 : decode cX6_set 58 = .ok (.iload_n 3, 1) := by decide +kernel
theorem dX6_set_59 : decode cX6_set 59 = .ok (.invokestatic 67, 3) := by decide +kernel
theorem dX6_set_62 : decode cX6_set 62 = .ok (.ifCond .eq 12, 3) := by decide +kernel
theorem dX6_set_65 : decode cX6_set 65 = .ok (.aload_n 0, 1) := by decide +kernel
theorem dX6_set_66 : decode cX6_set 66 = .ok (.iload_n 1, 1) := by decide +kernel
theorem dX6_set_67 : decode cX6_set 67 = .ok (.iload_n 2, 1) := by decide +kernel
theorem dX6_set_68 : decode cX6_set 68 = .ok (.invokevirtual 90, 3) := by decide +kernel
theorem dX6_set_71 : decode cX6_set 71 = .ok (.goto 5, 3) := by decide +kernel
theorem dX6_set_74 : decode cX6_set 74 = .ok (.ldc 80, 2) := by decide +kernel
theorem dX6_set_76 : decode cX6_set 76 = .ok (.ireturn, 1) := by decide +kernel
set_option maxRecDepth 20000 in
theorem ggX6_setting_X6_in : GoodIn wsX6_setting wsX6_in := goodIn_r _ [6] (by decide +kernel) (by decide +kernel)
set_option maxRecDepth 20000 in
theorem gX6_setting_X6_in : GoodIn wsX6_setting (va_wsS RX6 67 yX6_in wsX6_in) := goodIn_app (goodIn_of _ (by decide +kernel)) ggX6_setting_X6_in
theorem dX6_setting_0 : decode cX6_setting 0 = .ok (.iload_n 1, 1) := by decide +kernel
theorem dX6_setting_1 : decode cX6_setting 1 = .ok (.iconst 0, 1) := by decide +kernel
theorem dX6_setting_2 : decode cX6_setting 2 = .ok (.iconst 4, 1) := by decide +kernel
theorem dX6_setting_3 : decode cX6_setting 3 = .ok (.invokestatic 67, 3) := by decide +kernel
theorem dX6_setting_6 : decode cX6_setting 6 = .ok (.ifCond .eq 13, 3) := by decide +kernel
theorem dX6_setting_9 : decode cX6_setting 9 = .ok (.aload_n 0, 1) := by decide +kernel
theorem dX6_setting_10 : decode cX6_setting 10 = .ok (.getfield 7, 3) := by decide +kernel
theorem dX6_setting_13 : decode cX6_setting 13 = .ok (.iload_n 1, 1) := by decide +kernel
theorem dX6_setting_14 : decode cX6_setting 14 = .ok (.laload, 1) := by decide +kernel
theorem dX6_setting_15 : decode cX6_setting 15 = .ok (.l2i, 1) := by decide +kernel
theorem dX6_setting_16 : decode cX6_setting 16 = .ok (.goto 5, 3) := by decide +kernel
theorem dX6_setting_19 : decode cX6_setting 19 = .ok (.ldc 80, 2) := by decide +kernel
theorem dX6_setting_21 : decode cX6_setting 21 = .ok (.ireturn, 1) := by decide +kernel
set_option maxRecDepth 20000 in
theorem ggX6_rate_X6_axisAt : GoodIn wsX6_rate wsX6_axisAt := goodIn_r _ [5] (by decide +kernel) (by decide +kernel)
set_option maxRecDepth 20000 in
theorem gX6_rate_X6_axisAt : GoodIn wsX6_rate (va_wsS RX6 45 yX6_axisAt wsX6_axisAt) := goodIn_app (goodIn_of _ (by decide +kernel)) ggX6_rate_X6_axisAt
set_option maxRecDepth 20000 in
theorem ggX6_rate_X6_div : GoodIn wsX6_rate wsX6_div := goodIn_r _ [8] (by decide +kernel) (by decide +kernel)
set_option maxRecDepth 20000 in
theorem gX6_rate_X6_div : GoodIn wsX6_rate (va_wsS RX6 63 yX6_div wsX6_div) := goodIn_app (goodIn_of _ (by decide +kernel)) ggX6_rate_X6_div
theorem dX6_rate_0 : decode cX6_rate 0 = .ok (.aload_n 0, 1) := by decide +kernel
theorem dX6_rate_1 : decode cX6_rate 1 = .ok (.getfield 7, 3) := by decide +kernel
theorem dX6_rate_4 : decode cX6_rate 4 = .ok (.iload_n 1, 1) := by decide +kernel
theorem dX6_rate_5 : decode cX6_rate 5 = .ok (.iconst 1, 1) := by decide +kernel
theorem dX6_rate_6 : decode cX6_rate 6 = .ok (.invokestatic 45, 3) := by decide +kernel
theorem dX6_rate_9 : decode cX6_rate 9 = .ok (.laload, 1) := by decide +kernel
theorem dX6_rate_10 : decode cX6_rate 10 = .ok (.aload_n 0, 1) := by decide +kernel
theorem dX6_rate_11 : decode cX6_rate 11 = .ok (.getfield 7, 3) := by decide +kernel
theorem dX6_rate_14 : decode cX6_rate 14 = .ok (.iload_n 1, 1) := by decide +kernel
theorem dX6_rate_15 : decode cX6_rate 15 = .ok (.iconst 2, 1) := by decide +kernel
theorem dX6_rate_16 : decode cX6_rate 16 = .ok (.invokestatic 45, 3) := by decide +kernel
theorem dX6_rate_19 : decode cX6_rate 19 = .ok (.laload, 1) := by decide +kernel
theorem dX6_rate_20 : decode cX6_rate 20 = .ok (.invokestatic 63, 3) := by decide +kernel
theorem dX6_rate_23 : decode cX6_rate 23 = .ok (.lreturn, 1) := by decide +kernel
set_option maxRecDepth 20000 in
theorem ggX6_pushes_X6_axisAt : GoodIn wsX6_pushes wsX6_axisAt := goodIn_r _ [5] (by decide +kernel) (by decide +kernel)
set_option maxRecDepth 20000 in
theorem gX6_pushes_X6_axisAt : GoodIn wsX6_pushes (va_wsS RX6 45 yX6_axisAt wsX6_axisAt) := goodIn_app (goodIn_of _ (by decide +kernel)) ggX6_pushes_X6_axisAt
theorem dX6_pushes_0 : decode cX6_pushes 0 = .ok (.aload_n 0, 1) := by decide +kernel
theorem dX6_pushes_1 : decode cX6_pushes 1 = .ok (.getfield 7, 3) := by decide +kernel
theorem dX6_pushes_4 : decode cX6_pushes 4 = .ok (.iload_n 1, 1) := by decide +kernel
theorem dX6_pushes_5 : decode cX6_pushes 5 = .ok (.iconst 1, 1) := by decide +kernel
theorem dX6_pushes_6 : decode cX6_pushes 6 = .ok (.invokestatic 45, 3) := by decide +kernel
theorem dX6_pushes_9 : decode cX6_pushes 9 = .ok (.dup2, 1) := by decide +kernel
theorem dX6_pushes_10 : decode cX6_pushes 10 = .ok (.laload, 1) := by decide +kernel
theorem dX6_pushes_11 : decode cX6_pushes 11 = .ok (.lload_n 2, 1) := by decide +kernel
theorem dX6_pushes_12 : decode cX6_pushes 12 = .ok (.ladd, 1) := by decide +kernel
theorem dX6_pushes_13 : decode cX6_pushes 13 = .ok (.lastore, 1) := by decide +kernel
theorem dX6_pushes_14 : decode cX6_pushes 14 = .ok (.aload_n 0, 1) := by decide +kernel
theorem dX6_pushes_15 : decode cX6_pushes 15 = .ok (.getfield 7, 3) := by decide +kernel
theorem dX6_pushes_18 : decode cX6_pushes 18 = .ok (.iload_n 1, 1) := by decide +kernel
theorem dX6_pushes_19 : decode cX6_pushes 19 = .ok (.bipush 6, 2) := by decide +kernel
theorem dX6_pushes_21 : decode cX6_pushes 21 = .ok (.invokestatic 45, 3) := by decide +kernel
theorem dX6_pushes_24 : decode cX6_pushes 24 = .ok (.dup2, 1) := by decide +kernel
theorem dX6_pushes_25 : decode cX6_pushes 25 = .ok (.laload, 1) := by decide +kernel
theorem dX6_pushes_26 : decode cX6_pushes 26 = .ok (.lload_n 2, 1) := by decide +kernel
theorem dX6_pushes_27 : decode cX6_pushes 27 = .ok (.ladd, 1) := by decide +kernel
theorem dX6_pushes_28 : decode cX6_pushes 28 = .ok (.lastore, 1) := by decide +kernel
theorem dX6_pushes_29 : decode cX6_pushes 29 = .ok (.return_, 1) := by decide +kernel
set_option maxRecDepth 20000 in
theorem ggX6_strike_X6_isAxis : GoodIn wsX6_strike wsX6_isAxis := goodIn_r _ [7, 8, 9, 6, 10] (by decide +kernel) (by decide +kernel)
set_option maxRecDepth 20000 in
theorem gX6_strike_X6_isAxis : GoodIn wsX6_strike (va_wsS RX6 94 yX6_isAxis wsX6_isAxis) := goodIn_app (goodIn_of _ (by decide +kernel)) ggX6_strike_X6_isAxis
set_option maxRecDepth 20000 in
theorem ggX6_strike_X6_in : GoodIn wsX6_strike wsX6_in := goodIn_r _ [10] (by decide +kernel) (by decide +kernel)
set_option maxRecDepth 20000 in
theorem gX6_strike_X6_in : GoodIn wsX6_strike (va_wsS RX6 67 yX6_in wsX6_in) := goodIn_app (goodIn_of _ (by decide +kernel)) ggX6_strike_X6_in
set_option maxRecDepth 20000 in
theorem ggX6_strike_X6_act : GoodIn wsX6_strike wsX6_act := goodIn_r _ [14, 15, 16, 17, 32, 33, 34, 35, 36, 37, 38, 39, 40, 41, 42] (by decide +kernel) (by decide +kernel)
set_option maxRecDepth 20000 in
theorem gX6_strike_X6_act : GoodIn wsX6_strike (wsV RX6 84 RX6 yX6_act wsX6_act) := goodIn_app (goodIn_of _ (by decide +kernel)) ggX6_strike_X6_act
set_option maxRecDepth 20000 in
theorem ggX6_strike_X6_pushes : GoodIn wsX6_strike wsX6_pushes := goodIn_r _ [21, 17, 22, 23, 6, 24, 32, 33, 34, 35, 36, 37, 38, 39, 40, 41, 42] (by decide +kernel) (by decide +kernel)
set_option maxRecDepth 20000 in
theorem gX6_strike_X6_pushes : GoodIn wsX6_strike (wsV RX6 100 RX6 yX6_pushes wsX6_pushes) := goodIn_app (goodIn_of _ (by decide +kernel)) ggX6_strike_X6_pushes
set_option maxRecDepth 20000 in
theorem ggX6_strike_X6_rate : GoodIn wsX6_strike wsX6_rate := goodIn_r _ [28, 17, 22, 23, 6, 24, 29, 30, 31, 32, 33, 34, 35, 36, 37, 38, 39, 40, 41, 42] (by decide +kernel) (by decide +kernel)
set_option maxRecDepth 20000 in
theorem gX6_strike_X6_rate : GoodIn wsX6_strike (wsV RX6 104 RX6 yX6_rate wsX6_rate) := goodIn_app (goodIn_of _ (by decide +kernel)) ggX6_strike_X6_rate
theorem dX6_strike_0 : decode cX6_strike 0 = .ok (.iload_n 1, 1) := by decide +kernel
theorem dX6_strike_1 : decode cX6_strike 1 = .ok (.invokestatic 94, 3) := by decide +kernel
theorem dX6_strike_4 : decode cX6_strike 4 = .ok (.ifCond .eq 14, 3) := by decide +kernel
theorem dX6_strike_7 : decode cX6_strike 7 = .ok (.iload_n 2, 1) := by decide +kernel
theorem dX6_strike_8 : decode cX6_strike 8 = .ok (.ldc 97, 2) := by decide +kernel
theorem dX6_strike_10 : decode cX6_strike 10 = .ok (.ldc 79, 2) := by decide +kernel
theorem dX6_strike_12 : decode cX6_strike 12 = .ok (.invokestatic 67, 3) := by decide +kernel
theorem dX6_strike_15 : decode cX6_strike 15 = .ok (.ifCond .ne 7, 3) := by decide +kernel
theorem dX6_strike_18 : decode cX6_strike 18 = .ok (.ldc2_w 98, 3) := by decide +kernel
theorem dX6_strike_21 : decode cX6_strike 21 = .ok (.lreturn, 1) := by decide +kernel
theorem dX6_strike_22 : decode cX6_strike 22 = .ok (.aload_n 0, 1) := by decide +kernel
theorem dX6_strike_23 : decode cX6_strike 23 = .ok (.invokevirtual 84, 3) := by decide +kernel
theorem dX6_strike_26 : decode cX6_strike 26 = .ok (.aload_n 0, 1) := by decide +kernel
theorem dX6_strike_27 : decode cX6_strike 27 = .ok (.iload_n 1, 1) := by decide +kernel
theorem dX6_strike_28 : decode cX6_strike 28 = .ok (.iload_n 2, 1) := by decide +kernel
theorem dX6_strike_29 : decode cX6_strike 29 = .ok (.i2l, 1) := by decide +kernel
theorem dX6_strike_30 : decode cX6_strike 30 = .ok (.invokevirtual 100, 3) := by decide +kernel
theorem dX6_strike_33 : decode cX6_strike 33 = .ok (.aload_n 0, 1) := by decide +kernel
theorem dX6_strike_34 : decode cX6_strike 34 = .ok (.iload_n 1, 1) := by decide +kernel
theorem dX6_strike_35 : decode cX6_strike 35 = .ok (.invokevirtual 104, 3) := by decide +kernel
theorem dX6_strike_38 : decode cX6_strike 38 = .ok (.lreturn, 1) := by decide +kernel
theorem dX6_other_0 : decode cX6_other 0 = .ok (.iload_n 0, 1) := by decide +kernel
theorem dX6_other_1 : decode cX6_other 1 = .ok (.iload_n 1, 1) := by decide +kernel
theorem dX6_other_2 : decode cX6_other 2 = .ok (.iadd, 1) := by decide +kernel
theorem dX6_other_3 : decode cX6_other 3 = .ok (.iconst 3, 1) := by decide +kernel
theorem dX6_other_4 : decode cX6_other 4 = .ok (.irem, 1) := by decide +kernel
theorem dX6_other_5 : decode cX6_other 5 = .ok (.ireturn, 1) := by decide +kernel
set_option maxRecDepth 20000 in
theorem ggX6_spans_X6_works : GoodIn wsX6_spans wsX6_works := goodIn_r _ [9, 2, 10, 11, 8, 12, 16, 17, 18, 19, 20, 21, 22, 23, 24, 25, 26] (by decide +kernel) (by decide +kernel)
set_option maxRecDepth 20000 in
theorem gX6_spans_X6_works : GoodIn wsX6_spans (wsV RX6 108 RX6 yX6_works wsX6_works) := goodIn_app (goodIn_of _ (by decide +kernel)) ggX6_spans_X6_works
set_option maxRecDepth 20000 in
theorem ggX6_spans_X6_wheelAt : GoodIn wsX6_spans wsX6_wheelAt := goodIn_r _ [12] (by decide +kernel) (by decide +kernel)
set_option maxRecDepth 20000 in
theorem gX6_spans_X6_wheelAt : GoodIn wsX6_spans (va_wsS RX6 71 yX6_wheelAt wsX6_wheelAt) := goodIn_app (goodIn_of _ (by decide +kernel)) ggX6_spans_X6_wheelAt
set_option maxRecDepth 20000 in
theorem ggX6_spans_X6_other : GoodIn wsX6_spans wsX6_other := goodIn_r _ [15] (by decide +kernel) (by decide +kernel)
set_option maxRecDepth 20000 in
theorem gX6_spans_X6_other : GoodIn wsX6_spans (va_wsS RX6 111 yX6_other wsX6_other) := goodIn_app (goodIn_of _ (by decide +kernel)) ggX6_spans_X6_other
theorem dX6_spans_0 : decode cX6_spans 0 = .ok (.iconst 0, 1) := by decide +kernel
theorem dX6_spans_1 : decode cX6_spans 1 = .ok (.istore_n 2, 1) := by decide +kernel
theorem dX6_spans_2 : decode cX6_spans 2 = .ok (.iload_n 2, 1) := by decide +kernel
theorem dX6_spans_3 : decode cX6_spans 3 = .ok (.bipush 9, 2) := by decide +kernel
theorem dX6_spans_5 : decode cX6_spans 5 = .ok (.if_icmp .ge 16, 3) := by decide +kernel
theorem dX6_spans_8 : decode cX6_spans 8 = .ok (.aload_n 0, 1) := by decide +kernel
theorem dX6_spans_9 : decode cX6_spans 9 = .ok (.getfield 19, 3) := by decide +kernel
theorem dX6_spans_12 : decode cX6_spans 12 = .ok (.iload_n 2, 1) := by decide +kernel
theorem dX6_spans_13 : decode cX6_spans 13 = .ok (.lconst 0, 1) := by decide +kernel
theorem dX6_spans_14 : decode cX6_spans 14 = .ok (.lastore, 1) := by decide +kernel
theorem dX6_spans_15 : decode cX6_spans 15 = .ok (.iinc 2 1, 3) := by decide +kernel
theorem dX6_spans_18 : decode cX6_spans 18 = .ok (.goto (-16), 3) := by decide +kernel
theorem dX6_spans_21 : decode cX6_spans 21 = .ok (.iconst 0, 1) := by decide +kernel
theorem dX6_spans_22 : decode cX6_spans 22 = .ok (.istore_n 2, 1) := by decide +kernel
theorem dX6_spans_23 : decode cX6_spans 23 = .ok (.iload_n 2, 1) := by decide +kernel
theorem dX6_spans_24 : decode cX6_spans 24 = .ok (.i2l, 1) := by decide +kernel
theorem dX6_spans_25 : decode cX6_spans 25 = .ok (.aload_n 0, 1) := by decide +kernel
theorem dX6_spans_26 : decode cX6_spans 26 = .ok (.getfield 7, 3) := by decide +kernel
theorem dX6_spans_29 : decode cX6_spans 29 = .ok (.bipush 6, 2) := by decide +kernel
theorem dX6_spans_31 : decode cX6_spans 31 = .ok (.laload, 1) := by decide +kernel
theorem dX6_spans_32 : decode cX6_spans 32 = .ok (.lcmp, 1) := by decide +kernel
theorem dX6_spans_33 : decode cX6_spans 33 = .ok (.ifCond .ge 70, 3) := by decide +kernel
theorem dX6_spans_36 : decode cX6_spans 36 = .ok (.iconst 0, 1) := by decide +kernel
theorem dX6_spans_37 : decode cX6_spans 37 = .ok (.istore_n 3, 1) := by decide +kernel
theorem dX6_spans_38 : decode cX6_spans 38 = .ok (.iload_n 3, 1) := by decide +kernel
theorem dX6_spans_39 : decode cX6_spans 39 = .ok (.bipush 9, 2) := by decide +kernel
theorem dX6_spans_41 : decode cX6_spans 41 = .ok (.if_icmp .ge 56, 3) := by decide +kernel
theorem dX6_spans_44 : decode cX6_spans 44 = .ok (.aload_n 0, 1) := by decide +kernel
theorem dX6_spans_45 : decode cX6_spans 45 = .ok (.iload_n 2, 1) := by decide +kernel
theorem dX6_spans_46 : decode cX6_spans 46 = .ok (.invokevirtual 108, 3) := by decide +kernel
theorem dX6_spans_49 : decode cX6_spans 49 = .ok (.ifCond .eq 48, 3) := by decide +kernel
theorem dX6_spans_52 : decode cX6_spans 52 = .ok (.iload_n 2, 1) := by decide +kernel
theorem dX6_spans_53 : decode cX6_spans 53 = .ok (.iload_n 1, 1) := by decide +kernel
theorem dX6_spans_54 : decode cX6_spans 54 = .ok (.if_icmp .eq 43, 3) := by decide +kernel
theorem dX6_spans_57 : decode cX6_spans 57 = .ok (.aload_n 0, 1) := by decide +kernel
theorem dX6_spans_58 : decode cX6_spans 58 = .ok (.getfield 19, 3) := by decide +kernel
theorem dX6_spans_61 : decode cX6_spans 61 = .ok (.iload_n 3, 1) := by decide +kernel
theorem dX6_spans_62 : decode cX6_spans 62 = .ok (.dup2, 1) := by decide +kernel
theorem dX6_spans_63 : decode cX6_spans 63 = .ok (.laload, 1) := by decide +kernel
theorem dX6_spans_64 : decode cX6_spans 64 = .ok (.aload_n 0, 1) := by decide +kernel
theorem dX6_spans_65 : decode cX6_spans 65 = .ok (.getfield 7, 3) := by decide +kernel
theorem dX6_spans_68 : decode cX6_spans 68 = .ok (.iload_n 2, 1) := by decide +kernel
theorem dX6_spans_69 : decode cX6_spans 69 = .ok (.iload_n 3, 1) := by decide +kernel
theorem dX6_spans_70 : decode cX6_spans 70 = .ok (.iconst 3, 1) := by decide +kernel
theorem dX6_spans_71 : decode cX6_spans 71 = .ok (.idiv, 1) := by decide +kernel
theorem dX6_spans_72 : decode cX6_spans 72 = .ok (.invokestatic 71, 3) := by decide +kernel
theorem dX6_spans_75 : decode cX6_spans 75 = .ok (.laload, 1) := by decide +kernel
theorem dX6_spans_76 : decode cX6_spans 76 = .ok (.aload_n 0, 1) := by decide +kernel
theorem dX6_spans_77 : decode cX6_spans 77 = .ok (.getfield 7, 3) := by decide +kernel
theorem dX6_spans_80 : decode cX6_spans 80 = .ok (.iload_n 2, 1) := by decide +kernel
theorem dX6_spans_81 : decode cX6_spans 81 = .ok (.iload_n 3, 1) := by decide +kernel
theorem dX6_spans_82 : decode cX6_spans 82 = .ok (.iconst 3, 1) := by decide +kernel
theorem dX6_spans_83 : decode cX6_spans 83 = .ok (.irem, 1) := by decide +kernel
theorem dX6_spans_84 : decode cX6_spans 84 = .ok (.invokestatic 71, 3) := by decide +kernel
theorem dX6_spans_87 : decode cX6_spans 87 = .ok (.laload, 1) := by decide +kernel
theorem dX6_spans_88 : decode cX6_spans 88 = .ok (.lmul, 1) := by decide +kernel
theorem dX6_spans_89 : decode cX6_spans 89 = .ok (.ladd, 1) := by decide +kernel
theorem dX6_spans_90 : decode cX6_spans 90 = .ok (.lastore, 1) := by decide +kernel
theorem dX6_spans_91 : decode cX6_spans 91 = .ok (.iinc 3 1, 3) := by decide +kernel
theorem dX6_spans_94 : decode cX6_spans 94 = .ok (.goto (-56), 3) := by decide +kernel
theorem dX6_spans_97 : decode cX6_spans 97 = .ok (.iinc 2 1, 3) := by decide +kernel
theorem dX6_spans_100 : decode cX6_spans 100 = .ok (.goto (-77), 3) := by decide +kernel
theorem dX6_spans_103 : decode cX6_spans 103 = .ok (.iconst 0, 1) := by decide +kernel
theorem dX6_spans_104 : decode cX6_spans 104 = .ok (.istore_n 2, 1) := by decide +kernel
theorem dX6_spans_105 : decode cX6_spans 105 = .ok (.iload_n 2, 1) := by decide +kernel
theorem dX6_spans_106 : decode cX6_spans 106 = .ok (.iconst 3, 1) := by decide +kernel
theorem dX6_spans_107 : decode cX6_spans 107 = .ok (.if_icmp .ge 105, 3) := by decide +kernel
theorem dX6_spans_110 : decode cX6_spans 110 = .ok (.iconst 0, 1) := by decide +kernel
theorem dX6_spans_111 : decode cX6_spans 111 = .ok (.istore_n 3, 1) := by decide +kernel
theorem dX6_spans_112 : decode cX6_spans 112 = .ok (.iload_n 3, 1) := by decide +kernel
theorem dX6_spans_113 : decode cX6_spans 113 = .ok (.iconst 3, 1) := by decide +kernel
theorem dX6_spans_114 : decode cX6_spans 114 = .ok (.if_icmp .ge 92, 3) := by decide +kernel
theorem dX6_spans_117 : decode cX6_spans 117 = .ok (.iconst 3, 1) := by decide +kernel
theorem dX6_spans_118 : decode cX6_spans 118 = .ok (.iload_n 2, 1) := by decide +kernel
theorem dX6_spans_119 : decode cX6_spans 119 = .ok (.iconst 1, 1) := by decide +kernel
theorem dX6_spans_120 : decode cX6_spans 120 = .ok (.invokestatic 111, 3) := by decide +kernel
theorem dX6_spans_123 : decode cX6_spans 123 = .ok (.imul, 1) := by decide +kernel
theorem dX6_spans_124 : decode cX6_spans 124 = .ok (.istore 4, 2) := by decide +kernel
theorem dX6_spans_126 : decode cX6_spans 126 = .ok (.iconst 3, 1) := by decide +kernel
theorem dX6_spans_127 : decode cX6_spans 127 = .ok (.iload_n 2, 1) := by decide +kernel
theorem dX6_spans_128 : decode cX6_spans 128 = .ok (.iconst 2, 1) := by decide +kernel
theorem dX6_spans_129 : decode cX6_spans 129 = .ok (.invokestatic 111, 3) := by decide +kernel
theorem dX6_spans_132 : decode cX6_spans 132 = .ok (.imul, 1) := by decide +kernel
theorem dX6_spans_133 : decode cX6_spans 133 = .ok (.istore 5, 2) := by decide +kernel
theorem dX6_spans_135 : decode cX6_spans 135 = .ok (.aload_n 0, 1) := by decide +kernel
theorem dX6_spans_136 : decode cX6_spans 136 = .ok (.getfield 22, 3) := by decide +kernel
theorem dX6_spans_139 : decode cX6_spans 139 = .ok (.iconst 3, 1) := by decide +kernel
theorem dX6_spans_140 : decode cX6_spans 140 = .ok (.iload_n 2, 1) := by decide +kernel
theorem dX6_spans_141 : decode cX6_spans 141 = .ok (.imul, 1) := by decide +kernel
theorem dX6_spans_142 : decode cX6_spans 142 = .ok (.iload_n 3, 1) := by decide +kernel
theorem dX6_spans_143 : decode cX6_spans 143 = .ok (.iadd, 1) := by decide +kernel
theorem dX6_spans_144 : decode cX6_spans 144 = .ok (.aload_n 0, 1) := by decide +kernel
theorem dX6_spans_145 : decode cX6_spans 145 = .ok (.getfield 19, 3) := by decide +kernel
theorem dX6_spans_148 : decode cX6_spans 148 = .ok (.iload 4, 2) := by decide +kernel
theorem dX6_spans_150 : decode cX6_spans 150 = .ok (.iload_n 3, 1) := by decide +kernel
theorem dX6_spans_151 : decode cX6_spans 151 = .ok (.iconst 1, 1) := by decide +kernel
theorem dX6_spans_152 : decode cX6_spans 152 = .ok (.invokestatic 111, 3) := by decide +kernel
theorem dX6_spans_155 : decode cX6_spans 155 = .ok (.iadd, 1) := by decide +kernel
theorem dX6_spans_156 : decode cX6_spans 156 = .ok (.laload, 1) := by decide +kernel
theorem dX6_spans_157 : decode cX6_spans 157 = .ok (.aload_n 0, 1) := by decide +kernel
theorem dX6_spans_158 : decode cX6_spans 158 = .ok (.getfield 19, 3) := by decide +kernel
theorem dX6_spans_161 : decode cX6_spans 161 = .ok (.iload 5, 2) := by decide +kernel
theorem dX6_spans_163 : decode cX6_spans 163 = .ok (.iload_n 3, 1) := by decide +kernel
theorem dX6_spans_164 : decode cX6_spans 164 = .ok (.iconst 2, 1) := by decide +kernel
theorem dX6_spans_165 : decode cX6_spans 165 = .ok (.invokestatic 111, 3) := by decide +kernel
theorem dX6_spans_168 : decode cX6_spans 168 = .ok (.iadd, 1) := by decide +kernel
theorem dX6_spans_169 : decode cX6_spans 169 = .ok (.laload, 1) := by decide +kernel
theorem dX6_spans_170 : decode cX6_spans 170 = .ok (.lmul, 1) := by decide +kernel
theorem dX6_spans_171 : decode cX6_spans 171 = .ok (.aload_n 0, 1) := by decide +kernel
theorem dX6_spans_172 : decode cX6_spans 172 = .ok (.getfield 19, 3) := by decide +kernel
theorem dX6_spans_175 : decode cX6_spans 175 = .ok (.iload 4, 2) := by decide +kernel
theorem dX6_spans_177 : decode cX6_spans 177 = .ok (.iload_n 3, 1) := by decide +kernel
theorem dX6_spans_178 : decode cX6_spans 178 = .ok (.iconst 2, 1) := by decide +kernel
theorem dX6_spans_179 : decode cX6_spans 179 = .ok (.invokestatic 111, 3) := by decide +kernel
theorem dX6_spans_182 : decode cX6_spans 182 = .ok (.iadd, 1) := by decide +kernel
theorem dX6_spans_183 : decode cX6_spans 183 = .ok (.laload, 1) := by decide +kernel
theorem dX6_spans_184 : decode cX6_spans 184 = .ok (.aload_n 0, 1) := by decide +kernel
theorem dX6_spans_185 : decode cX6_spans 185 = .ok (.getfield 19, 3) := by decide +kernel
theorem dX6_spans_188 : decode cX6_spans 188 = .ok (.iload 5, 2) := by decide +kernel
theorem dX6_spans_190 : decode cX6_spans 190 = .ok (.iload_n 3, 1) := by decide +kernel
theorem dX6_spans_191 : decode cX6_spans 191 = .ok (.iconst 1, 1) := by decide +kernel
theorem dX6_spans_192 : decode cX6_spans 192 = .ok (.invokestatic 111, 3) := by decide +kernel
theorem dX6_spans_195 : decode cX6_spans 195 = .ok (.iadd, 1) := by decide +kernel
theorem dX6_spans_196 : decode cX6_spans 196 = .ok (.laload, 1) := by decide +kernel
theorem dX6_spans_197 : decode cX6_spans 197 = .ok (.lmul, 1) := by decide +kernel
theorem dX6_spans_198 : decode cX6_spans 198 = .ok (.lsub, 1) := by decide +kernel
theorem dX6_spans_199 : decode cX6_spans 199 = .ok (.lastore, 1) := by decide +kernel
theorem dX6_spans_200 : decode cX6_spans 200 = .ok (.iinc 3 1, 3) := by decide +kernel
theorem dX6_spans_203 : decode cX6_spans 203 = .ok (.goto (-91), 3) := by decide +kernel
theorem dX6_spans_206 : decode cX6_spans 206 = .ok (.iinc 2 1, 3) := by decide +kernel
theorem dX6_spans_209 : decode cX6_spans 209 = .ok (.goto (-104), 3) := by decide +kernel
theorem dX6_spans_212 : decode cX6_spans 212 = .ok (.aload_n 0, 1) := by decide +kernel
theorem dX6_spans_213 : decode cX6_spans 213 = .ok (.aload_n 0, 1) := by decide +kernel
theorem dX6_spans_214 : decode cX6_spans 214 = .ok (.getfield 19, 3) := by decide +kernel
theorem dX6_spans_217 : decode cX6_spans 217 = .ok (.iconst 0, 1) := by decide +kernel
theorem dX6_spans_218 : decode cX6_spans 218 = .ok (.laload, 1) := by decide +kernel
theorem dX6_spans_219 : decode cX6_spans 219 = .ok (.aload_n 0, 1) := by decide +kernel
theorem dX6_spans_220 : decode cX6_spans 220 = .ok (.getfield 22, 3) := by decide +kernel
theorem dX6_spans_223 : decode cX6_spans 223 = .ok (.iconst 0, 1) := by decide +kernel
theorem dX6_spans_224 : decode cX6_spans 224 = .ok (.laload, 1) := by decide +kernel
theorem dX6_spans_225 : decode cX6_spans 225 = .ok (.lmul, 1) := by decide +kernel
theorem dX6_spans_226 : decode cX6_spans 226 = .ok (.aload_n 0, 1) := by decide +kernel
theorem dX6_spans_227 : decode cX6_spans 227 = .ok (.getfield 19, 3) := by decide +kernel
theorem dX6_spans_230 : decode cX6_spans 230 = .ok (.iconst 1, 1) := by decide +kernel
theorem dX6_spans_231 : decode cX6_spans 231 = .ok (.laload, 1) := by decide +kernel
theorem dX6_spans_232 : decode cX6_spans 232 = .ok (.aload_n 0, 1) := by decide +kernel
theorem dX6_spans_233 : decode cX6_spans 233 = .ok (.getfield 22, 3) := by decide +kernel
theorem dX6_spans_236 : decode cX6_spans 236 = .ok (.iconst 1, 1) := by decide +kernel
theorem dX6_spans_237 : decode cX6_spans 237 = .ok (.laload, 1) := by decide +kernel
theorem dX6_spans_238 : decode cX6_spans 238 = .ok (.lmul, 1) := by decide +kernel
theorem dX6_spans_239 : decode cX6_spans 239 = .ok (.ladd, 1) := by decide +kernel
theorem dX6_spans_240 : decode cX6_spans 240 = .ok (.aload_n 0, 1) := by decide +kernel
theorem dX6_spans_241 : decode cX6_spans 241 = .ok (.getfield 19, 3) := by decide +kernel
theorem dX6_spans_244 : decode cX6_spans 244 = .ok (.iconst 2, 1) := by decide +kernel
theorem dX6_spans_245 : decode cX6_spans 245 = .ok (.laload, 1) := by decide +kernel
theorem dX6_spans_246 : decode cX6_spans 246 = .ok (.aload_n 0, 1) := by decide +kernel
theorem dX6_spans_247 : decode cX6_spans 247 = .ok (.getfield 22, 3) := by decide +kernel
theorem dX6_spans_250 : decode cX6_spans 250 = .ok (.iconst 2, 1) := by decide +kernel
theorem dX6_spans_251 : decode cX6_spans 251 = .ok (.laload, 1) := by decide +kernel
theorem dX6_spans_252 : decode cX6_spans 252 = .ok (.lmul, 1) := by decide +kernel
theorem dX6_spans_253 : decode cX6_spans 253 = .ok (.ladd, 1) := by decide +kernel
theorem dX6_spans_254 : decode cX6_spans 254 = .ok (.putfield 114, 3) := by decide +kernel
theorem dX6_spans_257 : decode cX6_spans 257 = .ok (.return_, 1) := by decide +kernel
set_option maxRecDepth 20000 in
theorem ggX6_wishOf_X6_wheelAt : GoodIn wsX6_wishOf wsX6_wheelAt := goodIn_r _ [7] (by decide +kernel) (by decide +kernel)
set_option maxRecDepth 20000 in
theorem gX6_wishOf_X6_wheelAt : GoodIn wsX6_wishOf (va_wsS RX6 71 yX6_wheelAt wsX6_wheelAt) := goodIn_app (goodIn_of _ (by decide +kernel)) ggX6_wishOf_X6_wheelAt
set_option maxRecDepth 20000 in
theorem ggX6_wishOf_X6_nearest : GoodIn wsX6_wishOf wsX6_nearest := goodIn_r _ [10, 11, 12, 13, 6, 14] (by decide +kernel) (by decide +kernel)
set_option maxRecDepth 20000 in
theorem gX6_wishOf_X6_nearest : GoodIn wsX6_wishOf (va_wsS RX6 118 yX6_nearest wsX6_nearest) := goodIn_app (goodIn_of _ (by decide +kernel)) ggX6_wishOf_X6_nearest
theorem dX6_wishOf_0 : decode cX6_wishOf 0 = .ok (.lconst 0, 1) := by decide +kernel
theorem dX6_wishOf_1 : decode cX6_wishOf 1 = .ok (.lstore 8, 2) := by decide +kernel
theorem dX6_wishOf_3 : decode cX6_wishOf 3 = .ok (.iconst 0, 1) := by decide +kernel
theorem dX6_wishOf_4 : decode cX6_wishOf 4 = .ok (.istore 10, 2) := by decide +kernel
theorem dX6_wishOf_6 : decode cX6_wishOf 6 = .ok (.iload 10, 2) := by decide +kernel
theorem dX6_wishOf_8 : decode cX6_wishOf 8 = .ok (.iconst 3, 1) := by decide +kernel
theorem dX6_wishOf_9 : decode cX6_wishOf 9 = .ok (.if_icmp .ge 67, 3) := by decide +kernel
theorem dX6_wishOf_12 : decode cX6_wishOf 12 = .ok (.lload 8, 2) := by decide +kernel
theorem dX6_wishOf_14 : decode cX6_wishOf 14 = .ok (.aload_n 0, 1) := by decide +kernel
theorem dX6_wishOf_15 : decode cX6_wishOf 15 = .ok (.getfield 7, 3) := by decide +kernel
theorem dX6_wishOf_18 : decode cX6_wishOf 18 = .ok (.iload_n 1, 1) := by decide +kernel
theorem dX6_wishOf_19 : decode cX6_wishOf 19 = .ok (.iload 10, 2) := by decide +kernel
theorem dX6_wishOf_21 : decode cX6_wishOf 21 = .ok (.invokestatic 71, 3) := by decide +kernel
theorem dX6_wishOf_24 : decode cX6_wishOf 24 = .ok (.laload, 1) := by decide +kernel
theorem dX6_wishOf_25 : decode cX6_wishOf 25 = .ok (.aload_n 0, 1) := by decide +kernel
theorem dX6_wishOf_26 : decode cX6_wishOf 26 = .ok (.getfield 22, 3) := by decide +kernel
theorem dX6_wishOf_29 : decode cX6_wishOf 29 = .ok (.iconst 3, 1) := by decide +kernel
theorem dX6_wishOf_30 : decode cX6_wishOf 30 = .ok (.iload 10, 2) := by decide +kernel
theorem dX6_wishOf_32 : decode cX6_wishOf 32 = .ok (.imul, 1) := by decide +kernel
theorem dX6_wishOf_33 : decode cX6_wishOf 33 = .ok (.laload, 1) := by decide +kernel
theorem dX6_wishOf_34 : decode cX6_wishOf 34 = .ok (.lload_n 2, 1) := by decide +kernel
theorem dX6_wishOf_35 : decode cX6_wishOf 35 = .ok (.lmul, 1) := by decide +kernel
theorem dX6_wishOf_36 : decode cX6_wishOf 36 = .ok (.aload_n 0, 1) := by decide +kernel
theorem dX6_wishOf_37 : decode cX6_wishOf 37 = .ok (.getfield 22, 3) := by decide +kernel
theorem dX6_wishOf_40 : decode cX6_wishOf 40 = .ok (.iconst 3, 1) := by decide +kernel
theorem dX6_wishOf_41 : decode cX6_wishOf 41 = .ok (.iload 10, 2) := by decide +kernel
theorem dX6_wishOf_43 : decode cX6_wishOf 43 = .ok (.imul, 1) := by decide +kernel
theorem dX6_wishOf_44 : decode cX6_wishOf 44 = .ok (.iconst 1, 1) := by decide +kernel
theorem dX6_wishOf_45 : decode cX6_wishOf 45 = .ok (.iadd, 1) := by decide +kernel
theorem dX6_wishOf_46 : decode cX6_wishOf 46 = .ok (.laload, 1) := by decide +kernel
theorem dX6_wishOf_47 : decode cX6_wishOf 47 = .ok (.lload 4, 2) := by decide +kernel
theorem dX6_wishOf_49 : decode cX6_wishOf 49 = .ok (.lmul, 1) := by decide +kernel
theorem dX6_wishOf_50 : decode cX6_wishOf 50 = .ok (.ladd, 1) := by decide +kernel
theorem dX6_wishOf_51 : decode cX6_wishOf 51 = .ok (.aload_n 0, 1) := by decide +kernel
theorem dX6_wishOf_52 : decode cX6_wishOf 52 = .ok (.getfield 22, 3) := by decide +kernel
theorem dX6_wishOf_55 : decode cX6_wishOf 55 = .ok (.iconst 3, 1) := by decide +kernel
theorem dX6_wishOf_56 : decode cX6_wishOf 56 = .ok (.iload 10, 2) := by decide +kernel
theorem dX6_wishOf_58 : decode cX6_wishOf 58 = .ok (.imul, 1) := by decide +kernel
theorem dX6_wishOf_59 : decode cX6_wishOf 59 = .ok (.iconst 2, 1) := by decide +kernel
theorem dX6_wishOf_60 : decode cX6_wishOf 60 = .ok (.iadd, 1) := by decide +kernel
theorem dX6_wishOf_61 : decode cX6_wishOf 61 = .ok (.laload, 1) := by decide +kernel
theorem dX6_wishOf_62 : decode cX6_wishOf 62 = .ok (.lload 6, 2) := by decide +kernel
theorem dX6_wishOf_64 : decode cX6_wishOf 64 = .ok (.lmul, 1) := by decide +kernel
theorem dX6_wishOf_65 : decode cX6_wishOf 65 = .ok (.ladd, 1) := by decide +kernel
theorem dX6_wishOf_66 : decode cX6_wishOf 66 = .ok (.lmul, 1) := by decide +kernel
theorem dX6_wishOf_67 : decode cX6_wishOf 67 = .ok (.ladd, 1) := by decide +kernel
theorem dX6_wishOf_68 : decode cX6_wishOf 68 = .ok (.lstore 8, 2) := by decide +kernel
theorem dX6_wishOf_70 : decode cX6_wishOf 70 = .ok (.iinc 10 1, 3) := by decide +kernel
theorem dX6_wishOf_73 : decode cX6_wishOf 73 = .ok (.goto (-67), 3) := by decide +kernel
theorem dX6_wishOf_76 : decode cX6_wishOf 76 = .ok (.lload 8, 2) := by decide +kernel
theorem dX6_wishOf_78 : decode cX6_wishOf 78 = .ok (.lneg, 1) := by decide +kernel
theorem dX6_wishOf_79 : decode cX6_wishOf 79 = .ok (.aload_n 0, 1) := by decide +kernel
theorem dX6_wishOf_80 : decode cX6_wishOf 80 = .ok (.getfield 114, 3) := by decide +kernel
theorem dX6_wishOf_83 : decode cX6_wishOf 83 = .ok (.invokestatic 118, 3) := by decide +kernel
theorem dX6_wishOf_86 : decode cX6_wishOf 86 = .ok (.lreturn, 1) := by decide +kernel
set_option maxRecDepth 20000 in
theorem ggX6_room_X6_wheelAt : GoodIn wsX6_room wsX6_wheelAt := goodIn_r _ [5] (by decide +kernel) (by decide +kernel)
set_option maxRecDepth 20000 in
theorem gX6_room_X6_wheelAt : GoodIn wsX6_room (va_wsS RX6 71 yX6_wheelAt wsX6_wheelAt) := goodIn_app (goodIn_of _ (by decide +kernel)) ggX6_room_X6_wheelAt
theorem dX6_room_0 : decode cX6_room 0 = .ok (.aload_n 0, 1) := by decide +kernel
theorem dX6_room_1 : decode cX6_room 1 = .ok (.getfield 7, 3) := by decide +kernel
theorem dX6_room_4 : decode cX6_room 4 = .ok (.iload_n 1, 1) := by decide +kernel
theorem dX6_room_5 : decode cX6_room 5 = .ok (.iconst 4, 1) := by decide +kernel
theorem dX6_room_6 : decode cX6_room 6 = .ok (.invokestatic 71, 3) := by decide +kernel
theorem dX6_room_9 : decode cX6_room 9 = .ok (.laload, 1) := by decide +kernel
theorem dX6_room_10 : decode cX6_room 10 = .ok (.aload_n 0, 1) := by decide +kernel
theorem dX6_room_11 : decode cX6_room 11 = .ok (.getfield 7, 3) := by decide +kernel
theorem dX6_room_14 : decode cX6_room 14 = .ok (.iload_n 1, 1) := by decide +kernel
theorem dX6_room_15 : decode cX6_room 15 = .ok (.iconst 3, 1) := by decide +kernel
theorem dX6_room_16 : decode cX6_room 16 = .ok (.invokestatic 71, 3) := by decide +kernel
theorem dX6_room_19 : decode cX6_room 19 = .ok (.laload, 1) := by decide +kernel
theorem dX6_room_20 : decode cX6_room 20 = .ok (.lsub, 1) := by decide +kernel
theorem dX6_room_21 : decode cX6_room 21 = .ok (.lstore 4, 2) := by decide +kernel
theorem dX6_room_23 : decode cX6_room 23 = .ok (.aload_n 0, 1) := by decide +kernel
theorem dX6_room_24 : decode cX6_room 24 = .ok (.getfield 7, 3) := by decide +kernel
theorem dX6_room_27 : decode cX6_room 27 = .ok (.iload_n 1, 1) := by decide +kernel
theorem dX6_room_28 : decode cX6_room 28 = .ok (.iconst 4, 1) := by decide +kernel
theorem dX6_room_29 : decode cX6_room 29 = .ok (.invokestatic 71, 3) := by decide +kernel
theorem dX6_room_32 : decode cX6_room 32 = .ok (.laload, 1) := by decide +kernel
theorem dX6_room_33 : decode cX6_room 33 = .ok (.lneg, 1) := by decide +kernel
theorem dX6_room_34 : decode cX6_room 34 = .ok (.aload_n 0, 1) := by decide +kernel
theorem dX6_room_35 : decode cX6_room 35 = .ok (.getfield 7, 3) := by decide +kernel
theorem dX6_room_38 : decode cX6_room 38 = .ok (.iload_n 1, 1) := by decide +kernel
theorem dX6_room_39 : decode cX6_room 39 = .ok (.iconst 3, 1) := by decide +kernel
theorem dX6_room_40 : decode cX6_room 40 = .ok (.invokestatic 71, 3) := by decide +kernel
theorem dX6_room_43 : decode cX6_room 43 = .ok (.laload, 1) := by decide +kernel
theorem dX6_room_44 : decode cX6_room 44 = .ok (.lsub, 1) := by decide +kernel
theorem dX6_room_45 : decode cX6_room 45 = .ok (.lstore 6, 2) := by decide +kernel
theorem dX6_room_47 : decode cX6_room 47 = .ok (.lload_n 2, 1) := by decide +kernel
theorem dX6_room_48 : decode cX6_room 48 = .ok (.lconst 0, 1) := by decide +kernel
theorem dX6_room_49 : decode cX6_room 49 = .ok (.lcmp, 1) := by decide +kernel
theorem dX6_room_50 : decode cX6_room 50 = .ok (.ifCond .le 28, 3) := by decide +kernel
theorem dX6_room_53 : decode cX6_room 53 = .ok (.lload 4, 2) := by decide +kernel
theorem dX6_room_55 : decode cX6_room 55 = .ok (.lconst 0, 1) := by decide +kernel
theorem dX6_room_56 : decode cX6_room 56 = .ok (.lcmp, 1) := by decide +kernel
theorem dX6_room_57 : decode cX6_room 57 = .ok (.ifCond .ge 7, 3) := by decide +kernel
theorem dX6_room_60 : decode cX6_room 60 = .ok (.lconst 0, 1) := by decide +kernel
theorem dX6_room_61 : decode cX6_room 61 = .ok (.goto 16, 3) := by decide +kernel
theorem dX6_room_64 : decode cX6_room 64 = .ok (.lload_n 2, 1) := by decide +kernel
theorem dX6_room_65 : decode cX6_room 65 = .ok (.lload 4, 2) := by decide +kernel
theorem dX6_room_67 : decode cX6_room 67 = .ok (.lcmp, 1) := by decide +kernel
theorem dX6_room_68 : decode cX6_room 68 = .ok (.ifCond .ge 7, 3) := by decide +kernel
theorem dX6_room_71 : decode cX6_room 71 = .ok (.lload_n 2, 1) := by decide +kernel
theorem dX6_room_72 : decode cX6_room 72 = .ok (.goto 5, 3) := by decide +kernel
theorem dX6_room_75 : decode cX6_room 75 = .ok (.lload 4, 2) := by decide +kernel
theorem dX6_room_77 : decode cX6_room 77 = .ok (.lreturn, 1) := by decide +kernel
theorem dX6_room_78 : decode cX6_room 78 = .ok (.lload 6, 2) := by decide +kernel
theorem dX6_room_80 : decode cX6_room 80 = .ok (.lconst 0, 1) := by decide +kernel
theorem dX6_room_81 : decode cX6_room 81 = .ok (.lcmp, 1) := by decide +kernel
theorem dX6_room_82 : decode cX6_room 82 = .ok (.ifCond .le 7, 3) := by decide +kernel
theorem dX6_room_85 : decode cX6_room 85 = .ok (.lconst 0, 1) := by decide +kernel
theorem dX6_room_86 : decode cX6_room 86 = .ok (.goto 16, 3) := by decide +kernel
theorem dX6_room_89 : decode cX6_room 89 = .ok (.lload_n 2, 1) := by decide +kernel
theorem dX6_room_90 : decode cX6_room 90 = .ok (.lload 6, 2) := by decide +kernel
theorem dX6_room_92 : decode cX6_room 92 = .ok (.lcmp, 1) := by decide +kernel
theorem dX6_room_93 : decode cX6_room 93 = .ok (.ifCond .le 7, 3) := by decide +kernel
theorem dX6_room_96 : decode cX6_room 96 = .ok (.lload_n 2, 1) := by decide +kernel
theorem dX6_room_97 : decode cX6_room 97 = .ok (.goto 5, 3) := by decide +kernel
theorem dX6_room_100 : decode cX6_room 100 = .ok (.lload 6, 2) := by decide +kernel
theorem dX6_room_102 : decode cX6_room 102 = .ok (.lreturn, 1) := by decide +kernel
set_option maxRecDepth 20000 in
theorem ggX6_gives_X6_wheelAt : GoodIn wsX6_gives wsX6_wheelAt := goodIn_r _ [5] (by decide +kernel) (by decide +kernel)
set_option maxRecDepth 20000 in
theorem gX6_gives_X6_wheelAt : GoodIn wsX6_gives (va_wsS RX6 71 yX6_wheelAt wsX6_wheelAt) := goodIn_app (goodIn_of _ (by decide +kernel)) ggX6_gives_X6_wheelAt
set_option maxRecDepth 20000 in
theorem ggX6_gives_X6_axisAt : GoodIn wsX6_gives wsX6_axisAt := goodIn_r _ [8] (by decide +kernel) (by decide +kernel)
set_option maxRecDepth 20000 in
theorem gX6_gives_X6_axisAt : GoodIn wsX6_gives (va_wsS RX6 45 yX6_axisAt wsX6_axisAt) := goodIn_app (goodIn_of _ (by decide +kernel)) ggX6_gives_X6_axisAt
theorem dX6_gives_0 : decode cX6_gives 0 = .ok (.aload_n 0, 1) := by decide +kernel
theorem dX6_gives_1 : decode cX6_gives 1 = .ok (.getfield 7, 3) := by decide +kernel
theorem dX6_gives_4 : decode cX6_gives 4 = .ok (.iload_n 1, 1) := by decide +kernel
theorem dX6_gives_5 : decode cX6_gives 5 = .ok (.iconst 3, 1) := by decide +kernel
theorem dX6_gives_6 : decode cX6_gives 6 = .ok (.invokestatic 71, 3) := by decide +kernel
theorem dX6_gives_9 : decode cX6_gives 9 = .ok (.dup2, 1) := by decide +kernel
theorem dX6_gives_10 : decode cX6_gives 10 = .ok (.laload, 1) := by decide +kernel
theorem dX6_gives_11 : decode cX6_gives 11 = .ok (.lload_n 2, 1) := by decide +kernel
theorem dX6_gives_12 : decode cX6_gives 12 = .ok (.ladd, 1) := by decide +kernel
theorem dX6_gives_13 : decode cX6_gives 13 = .ok (.lastore, 1) := by decide +kernel
theorem dX6_gives_14 : decode cX6_gives 14 = .ok (.aload_n 0, 1) := by decide +kernel
theorem dX6_gives_15 : decode cX6_gives 15 = .ok (.getfield 7, 3) := by decide +kernel
theorem dX6_gives_18 : decode cX6_gives 18 = .ok (.iload_n 1, 1) := by decide +kernel
theorem dX6_gives_19 : decode cX6_gives 19 = .ok (.bipush 7, 2) := by decide +kernel
theorem dX6_gives_21 : decode cX6_gives 21 = .ok (.invokestatic 71, 3) := by decide +kernel
theorem dX6_gives_24 : decode cX6_gives 24 = .ok (.lload_n 2, 1) := by decide +kernel
theorem dX6_gives_25 : decode cX6_gives 25 = .ok (.lastore, 1) := by decide +kernel
theorem dX6_gives_26 : decode cX6_gives 26 = .ok (.iconst 0, 1) := by decide +kernel
theorem dX6_gives_27 : decode cX6_gives 27 = .ok (.istore 4, 2) := by decide +kernel
theorem dX6_gives_29 : decode cX6_gives 29 = .ok (.iload 4, 2) := by decide +kernel
theorem dX6_gives_31 : decode cX6_gives 31 = .ok (.iconst 3, 1) := by decide +kernel
theorem dX6_gives_32 : decode cX6_gives 32 = .ok (.if_icmp .ge 36, 3) := by decide +kernel
theorem dX6_gives_35 : decode cX6_gives 35 = .ok (.aload_n 0, 1) := by decide +kernel
theorem dX6_gives_36 : decode cX6_gives 36 = .ok (.getfield 7, 3) := by decide +kernel
theorem dX6_gives_39 : decode cX6_gives 39 = .ok (.iload 4, 2) := by decide +kernel
theorem dX6_gives_41 : decode cX6_gives 41 = .ok (.iconst 1, 1) := by decide +kernel
theorem dX6_gives_42 : decode cX6_gives 42 = .ok (.invokestatic 45, 3) := by decide +kernel
theorem dX6_gives_45 : decode cX6_gives 45 = .ok (.dup2, 1) := by decide +kernel
theorem dX6_gives_46 : decode cX6_gives 46 = .ok (.laload, 1) := by decide +kernel
theorem dX6_gives_47 : decode cX6_gives 47 = .ok (.aload_n 0, 1) := by decide +kernel
theorem dX6_gives_48 : decode cX6_gives 48 = .ok (.getfield 7, 3) := by decide +kernel
theorem dX6_gives_51 : decode cX6_gives 51 = .ok (.iload_n 1, 1) := by decide +kernel
theorem dX6_gives_52 : decode cX6_gives 52 = .ok (.iload 4, 2) := by decide +kernel
theorem dX6_gives_54 : decode cX6_gives 54 = .ok (.invokestatic 71, 3) := by decide +kernel
theorem dX6_gives_57 : decode cX6_gives 57 = .ok (.laload, 1) := by decide +kernel
theorem dX6_gives_58 : decode cX6_gives 58 = .ok (.lload_n 2, 1) := by decide +kernel
theorem dX6_gives_59 : decode cX6_gives 59 = .ok (.lmul, 1) := by decide +kernel
theorem dX6_gives_60 : decode cX6_gives 60 = .ok (.lsub, 1) := by decide +kernel
theorem dX6_gives_61 : decode cX6_gives 61 = .ok (.lastore, 1) := by decide +kernel
theorem dX6_gives_62 : decode cX6_gives 62 = .ok (.iinc 4 1, 3) := by decide +kernel
theorem dX6_gives_65 : decode cX6_gives 65 = .ok (.goto (-36), 3) := by decide +kernel
theorem dX6_gives_68 : decode cX6_gives 68 = .ok (.return_, 1) := by decide +kernel
set_option maxRecDepth 20000 in
theorem ggX6_shares_X6_spans : GoodIn wsX6_shares wsX6_spans := goodIn_r _ [15, 16, 2, 17, 3, 18, 19, 20, 14, 21, 22, 23, 24, 25, 26, 27, 56, 57, 58, 59, 60, 61, 62, 63, 64, 65, 66] (by decide +kernel) (by decide +kernel)
set_option maxRecDepth 20000 in
theorem gX6_shares_X6_spans : GoodIn wsX6_shares (wsV RX6 122 RX6 yX6_spans wsX6_spans) := goodIn_app (goodIn_of _ (by decide +kernel)) ggX6_shares_X6_spans
set_option maxRecDepth 20000 in
theorem ggX6_shares_X6_wheelAt : GoodIn wsX6_shares wsX6_wheelAt := goodIn_r _ [24] (by decide +kernel) (by decide +kernel)
set_option maxRecDepth 20000 in
theorem gX6_shares_X6_wheelAt : GoodIn wsX6_shares (va_wsS RX6 71 yX6_wheelAt wsX6_wheelAt) := goodIn_app (goodIn_of _ (by decide +kernel)) ggX6_shares_X6_wheelAt
set_option maxRecDepth 20000 in
theorem ggX6_shares_X6_reasons : GoodIn wsX6_shares wsX6_reasons := goodIn_r _ [31, 2, 56, 57, 58, 59, 60, 61, 62, 63, 64, 65, 66] (by decide +kernel) (by decide +kernel)
set_option maxRecDepth 20000 in
theorem gX6_shares_X6_reasons : GoodIn wsX6_shares (wsV RX6 53 RX6 yX6_reasons wsX6_reasons) := goodIn_app (goodIn_of _ (by decide +kernel)) ggX6_shares_X6_reasons
set_option maxRecDepth 20000 in
theorem ggX6_shares_X6_works : GoodIn wsX6_shares wsX6_works := goodIn_r _ [21, 2, 22, 23, 14, 24, 56, 57, 58, 59, 60, 61, 62, 63, 64, 65, 66] (by decide +kernel) (by decide +kernel)
set_option maxRecDepth 20000 in
theorem gX6_shares_X6_works : GoodIn wsX6_shares (wsV RX6 108 RX6 yX6_works wsX6_works) := goodIn_app (goodIn_of _ (by decide +kernel)) ggX6_shares_X6_works
set_option maxRecDepth 20000 in
theorem ggX6_shares_X6_wishOf : GoodIn wsX6_shares wsX6_wishOf := goodIn_r _ [35, 2, 17, 3, 22, 23, 14, 24, 36, 37, 38, 7, 39, 40, 41, 56, 57, 58, 59, 60, 61, 62, 63, 64, 65, 66] (by decide +kernel) (by decide +kernel)
set_option maxRecDepth 20000 in
theorem gX6_shares_X6_wishOf : GoodIn wsX6_shares (wsV RX6 126 RX6 yX6_wishOf wsX6_wishOf) := goodIn_app (goodIn_of _ (by decide +kernel)) ggX6_shares_X6_wishOf
set_option maxRecDepth 20000 in
theorem ggX6_shares_X6_held : GoodIn wsX6_shares wsX6_held := goodIn_r _ [44] (by decide +kernel) (by decide +kernel)
set_option maxRecDepth 20000 in
theorem gX6_shares_X6_held : GoodIn wsX6_shares (va_wsS RX6 130 yX6_held wsX6_held) := goodIn_app (goodIn_of _ (by decide +kernel)) ggX6_shares_X6_held
set_option maxRecDepth 20000 in
theorem ggX6_shares_X6_room : GoodIn wsX6_shares wsX6_room := goodIn_r _ [48, 2, 22, 23, 14, 24, 56, 57, 58, 59, 60, 61, 62, 63, 64, 65, 66] (by decide +kernel) (by decide +kernel)
set_option maxRecDepth 20000 in
theorem gX6_shares_X6_room : GoodIn wsX6_shares (wsV RX6 133 RX6 yX6_room wsX6_room) := goodIn_app (goodIn_of _ (by decide +kernel)) ggX6_shares_X6_room
set_option maxRecDepth 20000 in
theorem ggX6_shares_X6_gives : GoodIn wsX6_shares wsX6_gives := goodIn_r _ [52, 2, 22, 23, 14, 24, 53, 54, 55, 56, 57, 58, 59, 60, 61, 62, 63, 64, 65, 66] (by decide +kernel) (by decide +kernel)
set_option maxRecDepth 20000 in
theorem gX6_shares_X6_gives : GoodIn wsX6_shares (wsV RX6 143 RX6 yX6_gives wsX6_gives) := goodIn_app (goodIn_of _ (by decide +kernel)) ggX6_shares_X6_gives
theorem dX6_shares_0 : decode cX6_shares 0 = .ok (.aload_n 0, 1) := by decide +kernel
theorem dX6_shares_1 : decode cX6_shares 1 = .ok (.ldc 121, 2) := by decide +kernel
theorem dX6_shares_3 : decode cX6_shares 3 = .ok (.invokevirtual 122, 3) := by decide +kernel
theorem dX6_shares_6 : decode cX6_shares 6 = .ok (.iconst 0, 1) := by decide +kernel
theorem dX6_shares_7 : decode cX6_shares 7 = .ok (.istore_n 1, 1) := by decide +kernel
theorem dX6_shares_8 : decode cX6_shares 8 = .ok (.iload_n 1, 1) := by decide +kernel
theorem dX6_shares_9 : decode cX6_shares 9 = .ok (.i2l, 1) := by decide +kernel
theorem dX6_shares_10 : decode cX6_shares 10 = .ok (.aload_n 0, 1) := by decide +kernel
theorem dX6_shares_11 : decode cX6_shares 11 = .ok (.getfield 7, 3) := by decide +kernel
theorem dX6_shares_14 : decode cX6_shares 14 = .ok (.bipush 6, 2) := by decide +kernel
theorem dX6_shares_16 : decode cX6_shares 16 = .ok (.laload, 1) := by decide +kernel
theorem dX6_shares_17 : decode cX6_shares 17 = .ok (.lcmp, 1) := by decide +kernel
theorem dX6_shares_18 : decode cX6_shares 18 = .ok (.ifCond .ge 21, 3) := by decide +kernel
theorem dX6_shares_21 : decode cX6_shares 21 = .ok (.aload_n 0, 1) := by decide +kernel
theorem dX6_shares_22 : decode cX6_shares 22 = .ok (.getfield 7, 3) := by decide +kernel
theorem dX6_shares_25 : decode cX6_shares 25 = .ok (.iload_n 1, 1) := by decide +kernel
theorem dX6_shares_26 : decode cX6_shares 26 = .ok (.bipush 7, 2) := by decide +kernel
theorem dX6_shares_28 : decode cX6_shares 28 = .ok (.invokestatic 71, 3) := by decide +kernel
theorem dX6_shares_31 : decode cX6_shares 31 = .ok (.lconst 0, 1) := by decide +kernel
theorem dX6_shares_32 : decode cX6_shares 32 = .ok (.lastore, 1) := by decide +kernel
theorem dX6_shares_33 : decode cX6_shares 33 = .ok (.iinc 1 1, 3) := by decide +kernel
theorem dX6_shares_36 : decode cX6_shares 36 = .ok (.goto (-28), 3) := by decide +kernel
