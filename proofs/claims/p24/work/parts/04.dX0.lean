set_option maxRecDepth 20000 in
theorem ggX0_init_X4_init : GoodIn wsX0_init wsX4_init := goodIn_r _ [20, 21, 2, 3, 4, 22, 34, 35, 36, 37, 38, 39] (by decide +kernel) (by decide +kernel)
set_option maxRecDepth 20000 in
theorem gX0_init_X4_init_n42 : GoodIn wsX0_init (wsX4_init) := ggX0_init_X4_init
theorem dX0_init_0 : decode cX0_init 0 = .ok (.aload_n 0, 1) := by decide +kernel
theorem dX0_init_1 : decode cX0_init 1 = .ok (.invokespecial 3, 3) := by decide +kernel
theorem dX0_init_4 : decode cX0_init 4 = .ok (.aload_n 0, 1) := by decide +kernel
theorem dX0_init_5 : decode cX0_init 5 = .ok (.iconst 5, 1) := by decide +kernel
theorem dX0_init_6 : decode cX0_init 6 = .ok (.newarray .int, 2) := by decide +kernel
theorem dX0_init_8 : decode cX0_init 8 = .ok (.putfield 9, 3) := by decide +kernel
theorem dX0_init_11 : decode cX0_init 11 = .ok (.aload_n 0, 1) := by decide +kernel
theorem dX0_init_12 : decode cX0_init 12 = .ok (.iconst 4, 1) := by decide +kernel
theorem dX0_init_13 : decode cX0_init 13 = .ok (.iconst 3, 1) := by decide +kernel
theorem dX0_init_14 : decode cX0_init 14 = .ok (.multianewarray 15 2, 4) := by decide +kernel
theorem dX0_init_18 : decode cX0_init 18 = .ok (.putfield 17, 3) := by decide +kernel
theorem dX0_init_21 : decode cX0_init 21 = .ok (.aload_n 0, 1) := by decide +kernel
theorem dX0_init_22 : decode cX0_init 22 = .ok (.iconst 3, 1) := by decide +kernel
theorem dX0_init_23 : decode cX0_init 23 = .ok (.newarray .long, 2) := by decide +kernel
theorem dX0_init_25 : decode cX0_init 25 = .ok (.putfield 20, 3) := by decide +kernel
theorem dX0_init_28 : decode cX0_init 28 = .ok (.aload_n 0, 1) := by decide +kernel
theorem dX0_init_29 : decode cX0_init 29 = .ok (.iconst 3, 1) := by decide +kernel
theorem dX0_init_30 : decode cX0_init 30 = .ok (.newarray .long, 2) := by decide +kernel
theorem dX0_init_32 : decode cX0_init 32 = .ok (.putfield 24, 3) := by decide +kernel
theorem dX0_init_35 : decode cX0_init 35 = .ok (.aload_n 0, 1) := by decide +kernel
theorem dX0_init_36 : decode cX0_init 36 = .ok (.iconst 3, 1) := by decide +kernel
theorem dX0_init_37 : decode cX0_init 37 = .ok (.newarray .long, 2) := by decide +kernel
theorem dX0_init_39 : decode cX0_init 39 = .ok (.putfield 27, 3) := by decide +kernel
theorem dX0_init_42 : decode cX0_init 42 = .ok (.aload_n 0, 1) := by decide +kernel
theorem dX0_init_43 : decode cX0_init 43 = .ok (.iconst 3, 1) := by decide +kernel
theorem dX0_init_44 : decode cX0_init 44 = .ok (.newarray .long, 2) := by decide +kernel
theorem dX0_init_46 : decode cX0_init 46 = .ok (.putfield 30, 3) := by decide +kernel
theorem dX0_init_49 : decode cX0_init 49 = .ok (.aload_n 0, 1) := by decide +kernel
theorem dX0_init_50 : decode cX0_init 50 = .ok (.bipush 6, 2) := by decide +kernel
theorem dX0_init_52 : decode cX0_init 52 = .ok (.anewarray 33, 3) := by decide +kernel
theorem dX0_init_55 : decode cX0_init 55 = .ok (.putfield 35, 3) := by decide +kernel
theorem dX0_init_58 : decode cX0_init 58 = .ok (.aload_n 0, 1) := by decide +kernel
theorem dX0_init_59 : decode cX0_init 59 = .ok (.iconst 3, 1) := by decide +kernel
theorem dX0_init_60 : decode cX0_init 60 = .ok (.newarray .int, 2) := by decide +kernel
theorem dX0_init_62 : decode cX0_init 62 = .ok (.putfield 39, 3) := by decide +kernel
theorem dX0_init_65 : decode cX0_init 65 = .ok (.aload_n 0, 1) := by decide +kernel
theorem dX0_init_66 : decode cX0_init 66 = .ok (.getfield 9, 3) := by decide +kernel
theorem dX0_init_69 : decode cX0_init 69 = .ok (.iconst 0, 1) := by decide +kernel
theorem dX0_init_70 : decode cX0_init 70 = .ok (.bipush 10, 2) := by decide +kernel
theorem dX0_init_72 : decode cX0_init 72 = .ok (.iastore, 1) := by decide +kernel
theorem dX0_init_73 : decode cX0_init 73 = .ok (.aload_n 0, 1) := by decide +kernel
theorem dX0_init_74 : decode cX0_init 74 = .ok (.getfield 9, 3) := by decide +kernel
theorem dX0_init_77 : decode cX0_init 77 = .ok (.iconst 1, 1) := by decide +kernel
theorem dX0_init_78 : decode cX0_init 78 = .ok (.bipush 60, 2) := by decide +kernel
theorem dX0_init_80 : decode cX0_init 80 = .ok (.iastore, 1) := by decide +kernel
theorem dX0_init_81 : decode cX0_init 81 = .ok (.aload_n 0, 1) := by decide +kernel
theorem dX0_init_82 : decode cX0_init 82 = .ok (.getfield 9, 3) := by decide +kernel
theorem dX0_init_85 : decode cX0_init 85 = .ok (.iconst 2, 1) := by decide +kernel
theorem dX0_init_86 : decode cX0_init 86 = .ok (.sipush 500, 3) := by decide +kernel
theorem dX0_init_89 : decode cX0_init 89 = .ok (.iastore, 1) := by decide +kernel
theorem dX0_init_90 : decode cX0_init 90 = .ok (.aload_n 0, 1) := by decide +kernel
theorem dX0_init_91 : decode cX0_init 91 = .ok (.getfield 9, 3) := by decide +kernel
theorem dX0_init_94 : decode cX0_init 94 = .ok (.iconst 3, 1) := by decide +kernel
theorem dX0_init_95 : decode cX0_init 95 = .ok (.sipush 2000, 3) := by decide +kernel
theorem dX0_init_98 : decode cX0_init 98 = .ok (.iastore, 1) := by decide +kernel
theorem dX0_init_99 : decode cX0_init 99 = .ok (.iconst 0, 1) := by decide +kernel
theorem dX0_init_100 : decode cX0_init 100 = .ok (.istore_n 1, 1) := by decide +kernel
theorem dX0_init_101 : decode cX0_init 101 = .ok (.iload_n 1, 1) := by decide +kernel
theorem dX0_init_102 : decode cX0_init 102 = .ok (.iconst 3, 1) := by decide +kernel
theorem dX0_init_103 : decode cX0_init 103 = .ok (.if_icmp .ge 19, 3) := by decide +kernel
theorem dX0_init_106 : decode cX0_init 106 = .ok (.aload_n 0, 1) := by decide +kernel
theorem dX0_init_107 : decode cX0_init 107 = .ok (.getfield 17, 3) := by decide +kernel
theorem dX0_init_110 : decode cX0_init 110 = .ok (.iconst 0, 1) := by decide +kernel
theorem dX0_init_111 : decode cX0_init 111 = .ok (.aaload, 1) := by decide +kernel
theorem dX0_init_112 : decode cX0_init 112 = .ok (.iload_n 1, 1) := by decide +kernel
theorem dX0_init_113 : decode cX0_init 113 = .ok (.bipush 100, 2) := by decide +kernel
theorem dX0_init_115 : decode cX0_init 115 = .ok (.iastore, 1) := by decide +kernel
theorem dX0_init_116 : decode cX0_init 116 = .ok (.iinc 1 1, 3) := by decide +kernel
theorem dX0_init_119 : decode cX0_init 119 = .ok (.goto (-18), 3) := by decide +kernel
theorem dX0_init_122 : decode cX0_init 122 = .ok (.iconst 0, 1) := by decide +kernel
theorem dX0_init_123 : decode cX0_init 123 = .ok (.istore_n 1, 1) := by decide +kernel
theorem dX0_init_124 : decode cX0_init 124 = .ok (.iload_n 1, 1) := by decide +kernel
theorem dX0_init_125 : decode cX0_init 125 = .ok (.bipush 6, 2) := by decide +kernel
theorem dX0_init_127 : decode cX0_init 127 = .ok (.if_icmp .ge 22, 3) := by decide +kernel
theorem dX0_init_130 : decode cX0_init 130 = .ok (.aload_n 0, 1) := by decide +kernel
theorem dX0_init_131 : decode cX0_init 131 = .ok (.getfield 35, 3) := by decide +kernel
theorem dX0_init_134 : decode cX0_init 134 = .ok (.iload_n 1, 1) := by decide +kernel
theorem dX0_init_135 : decode cX0_init 135 = .ok (.new 33, 3) := by decide +kernel
theorem dX0_init_138 : decode cX0_init 138 = .ok (.dup, 1) := by decide +kernel
theorem dX0_init_139 : decode cX0_init 139 = .ok (.invokespecial 42, 3) := by decide +kernel
theorem dX0_init_142 : decode cX0_init 142 = .ok (.aastore, 1) := by decide +kernel
theorem dX0_init_143 : decode cX0_init 143 = .ok (.iinc 1 1, 3) := by decide +kernel
theorem dX0_init_146 : decode cX0_init 146 = .ok (.goto (-22), 3) := by decide +kernel
theorem dX0_init_149 : decode cX0_init 149 = .ok (.aload_n 0, 1) := by decide +kernel
theorem dX0_init_150 : decode cX0_init 150 = .ok (.getfield 39, 3) := by decide +kernel
theorem dX0_init_153 : decode cX0_init 153 = .ok (.iconst 0, 1) := by decide +kernel
theorem dX0_init_154 : decode cX0_init 154 = .ok (.iconst 0, 1) := by decide +kernel
theorem dX0_init_155 : decode cX0_init 155 = .ok (.iastore, 1) := by decide +kernel
theorem dX0_init_156 : decode cX0_init 156 = .ok (.aload_n 0, 1) := by decide +kernel
theorem dX0_init_157 : decode cX0_init 157 = .ok (.iconst 1, 1) := by decide +kernel
theorem dX0_init_158 : decode cX0_init 158 = .ok (.putfield 43, 3) := by decide +kernel
theorem dX0_init_161 : decode cX0_init 161 = .ok (.return_, 1) := by decide +kernel
set_option maxRecDepth 20000 in
theorem ggX0_become_X4_become : GoodIn wsX0_become wsX4_become := goodIn_r _ [20, 21, 22, 4, 5, 6, 23, 24, 25, 26, 27, 39, 40, 41, 42, 43, 44] (by decide +kernel) (by decide +kernel)
set_option maxRecDepth 20000 in
theorem gX0_become_X4_become : GoodIn wsX0_become (wsV RX0 59 RX4 yX4_become wsX4_become) := goodIn_app (goodIn_of _ (by decide +kernel)) ggX0_become_X4_become
theorem dX0_become_0 : decode cX0_become 0 = .ok (.aload_n 0, 1) := by decide +kernel
theorem dX0_become_1 : decode cX0_become 1 = .ok (.aload_n 1, 1) := by decide +kernel
theorem dX0_become_2 : decode cX0_become 2 = .ok (.getfield 47, 3) := by decide +kernel
theorem dX0_become_5 : decode cX0_become 5 = .ok (.putfield 47, 3) := by decide +kernel
theorem dX0_become_8 : decode cX0_become 8 = .ok (.aload_n 1, 1) := by decide +kernel
theorem dX0_become_9 : decode cX0_become 9 = .ok (.getfield 9, 3) := by decide +kernel
theorem dX0_become_12 : decode cX0_become 12 = .ok (.iconst 0, 1) := by decide +kernel
theorem dX0_become_13 : decode cX0_become 13 = .ok (.aload_n 0, 1) := by decide +kernel
theorem dX0_become_14 : decode cX0_become 14 = .ok (.getfield 9, 3) := by decide +kernel
theorem dX0_become_17 : decode cX0_become 17 = .ok (.iconst 0, 1) := by decide +kernel
theorem dX0_become_18 : decode cX0_become 18 = .ok (.iconst 5, 1) := by decide +kernel
theorem dX0_become_19 : decode cX0_become 19 = .ok (.invokestatic 50, 3) := by decide +kernel
theorem dX0_become_22 : decode cX0_become 22 = .ok (.iconst 0, 1) := by decide +kernel
theorem dX0_become_23 : decode cX0_become 23 = .ok (.istore_n 2, 1) := by decide +kernel
theorem dX0_become_24 : decode cX0_become 24 = .ok (.iload_n 2, 1) := by decide +kernel
theorem dX0_become_25 : decode cX0_become 25 = .ok (.iconst 4, 1) := by decide +kernel
theorem dX0_become_26 : decode cX0_become 26 = .ok (.if_icmp .ge 27, 3) := by decide +kernel
theorem dX0_become_29 : decode cX0_become 29 = .ok (.aload_n 1, 1) := by decide +kernel
theorem dX0_become_30 : decode cX0_become 30 = .ok (.getfield 17, 3) := by decide +kernel
theorem dX0_become_33 : decode cX0_become 33 = .ok (.iload_n 2, 1) := by decide +kernel
theorem dX0_become_34 : decode cX0_become 34 = .ok (.aaload, 1) := by decide +kernel
theorem dX0_become_35 : decode cX0_become 35 = .ok (.iconst 0, 1) := by decide +kernel
theorem dX0_become_36 : decode cX0_become 36 = .ok (.aload_n 0, 1) := by decide +kernel
theorem dX0_become_37 : decode cX0_become 37 = .ok (.getfield 17, 3) := by decide +kernel
theorem dX0_become_40 : decode cX0_become 40 = .ok (.iload_n 2, 1) := by decide +kernel
theorem dX0_become_41 : decode cX0_become 41 = .ok (.aaload, 1) := by decide +kernel
theorem dX0_become_42 : decode cX0_become 42 = .ok (.iconst 0, 1) := by decide +kernel
theorem dX0_become_43 : decode cX0_become 43 = .ok (.iconst 3, 1) := by decide +kernel
theorem dX0_become_44 : decode cX0_become 44 = .ok (.invokestatic 50, 3) := by decide +kernel
theorem dX0_become_47 : decode cX0_become 47 = .ok (.iinc 2 1, 3) := by decide +kernel
theorem dX0_become_50 : decode cX0_become 50 = .ok (.goto (-26), 3) := by decide +kernel
theorem dX0_become_53 : decode cX0_become 53 = .ok (.aload_n 1, 1) := by decide +kernel
theorem dX0_become_54 : decode cX0_become 54 = .ok (.getfield 20, 3) := by decide +kernel
theorem dX0_become_57 : decode cX0_become 57 = .ok (.iconst 0, 1) := by decide +kernel
theorem dX0_become_58 : decode cX0_become 58 = .ok (.aload_n 0, 1) := by decide +kernel
theorem dX0_become_59 : decode cX0_become 59 = .ok (.getfield 20, 3) := by decide +kernel
theorem dX0_become_62 : decode cX0_become 62 = .ok (.iconst 0, 1) := by decide +kernel
theorem dX0_become_63 : decode cX0_become 63 = .ok (.iconst 3, 1) := by decide +kernel
theorem dX0_become_64 : decode cX0_become 64 = .ok (.invokestatic 50, 3) := by decide +kernel
theorem dX0_become_67 : decode cX0_become 67 = .ok (.aload_n 1, 1) := by decide +kernel
theorem dX0_become_68 : decode cX0_become 68 = .ok (.getfield 24, 3) := by decide +kernel
theorem dX0_become_71 : decode cX0_become 71 = .ok (.iconst 0, 1) := by decide +kernel
theorem dX0_become_72 : decode cX0_become 72 = .ok (.aload_n 0, 1) := by decide +kernel
theorem dX0_become_73 : decode cX0_become 73 = .ok (.getfield 24, 3) := by decide +kernel
theorem dX0_become_76 : decode cX0_become 76 = .ok (.iconst 0, 1) := by decide +kernel
theorem dX0_become_77 : decode cX0_become 77 = .ok (.iconst 3, 1) := by decide +kernel
theorem dX0_become_78 : decode cX0_become 78 = .ok (.invokestatic 50, 3) := by decide +kernel
theorem dX0_become_81 : decode cX0_become 81 = .ok (.aload_n 1, 1) := by decide +kernel
theorem dX0_become_82 : decode cX0_become 82 = .ok (.getfield 27, 3) := by decide +kernel
theorem dX0_become_85 : decode cX0_become 85 = .ok (.iconst 0, 1) := by decide +kernel
theorem dX0_become_86 : decode cX0_become 86 = .ok (.aload_n 0, 1) := by decide +kernel
theorem dX0_become_87 : decode cX0_become 87 = .ok (.getfield 27, 3) := by decide +kernel
theorem dX0_become_90 : decode cX0_become 90 = .ok (.iconst 0, 1) := by decide +kernel
theorem dX0_become_91 : decode cX0_become 91 = .ok (.iconst 3, 1) := by decide +kernel
theorem dX0_become_92 : decode cX0_become 92 = .ok (.invokestatic 50, 3) := by decide +kernel
theorem dX0_become_95 : decode cX0_become 95 = .ok (.aload_n 1, 1) := by decide +kernel
theorem dX0_become_96 : decode cX0_become 96 = .ok (.getfield 30, 3) := by decide +kernel
theorem dX0_become_99 : decode cX0_become 99 = .ok (.iconst 0, 1) := by decide +kernel
theorem dX0_become_100 : decode cX0_become 100 = .ok (.aload_n 0, 1) := by decide +kernel
theorem dX0_become_101 : decode cX0_become 101 = .ok (.getfield 30, 3) := by decide +kernel
theorem dX0_become_104 : decode cX0_become 104 = .ok (.iconst 0, 1) := by decide +kernel
theorem dX0_become_105 : decode cX0_become 105 = .ok (.iconst 3, 1) := by decide +kernel
theorem dX0_become_106 : decode cX0_become 106 = .ok (.invokestatic 50, 3) := by decide +kernel
theorem dX0_become_109 : decode cX0_become 109 = .ok (.aload_n 0, 1) := by decide +kernel
theorem dX0_become_110 : decode cX0_become 110 = .ok (.aload_n 1, 1) := by decide +kernel
theorem dX0_become_111 : decode cX0_become 111 = .ok (.getfield 56, 3) := by decide +kernel
theorem dX0_become_114 : decode cX0_become 114 = .ok (.putfield 56, 3) := by decide +kernel
theorem dX0_become_117 : decode cX0_become 117 = .ok (.iconst 0, 1) := by decide +kernel
theorem dX0_become_118 : decode cX0_become 118 = .ok (.istore_n 2, 1) := by decide +kernel
theorem dX0_become_119 : decode cX0_become 119 = .ok (.iload_n 2, 1) := by decide +kernel
theorem dX0_become_120 : decode cX0_become 120 = .ok (.bipush 6, 2) := by decide +kernel
theorem dX0_become_122 : decode cX0_become 122 = .ok (.if_icmp .ge 24, 3) := by decide +kernel
theorem dX0_become_125 : decode cX0_become 125 = .ok (.aload_n 0, 1) := by decide +kernel
theorem dX0_become_126 : decode cX0_become 126 = .ok (.getfield 35, 3) := by decide +kernel
theorem dX0_become_129 : decode cX0_become 129 = .ok (.iload_n 2, 1) := by decide +kernel
theorem dX0_become_130 : decode cX0_become 130 = .ok (.aaload, 1) := by decide +kernel
theorem dX0_become_131 : decode cX0_become 131 = .ok (.aload_n 1, 1) := by decide +kernel
theorem dX0_become_132 : decode cX0_become 132 = .ok (.getfield 35, 3) := by decide +kernel
theorem dX0_become_135 : decode cX0_become 135 = .ok (.iload_n 2, 1) := by decide +kernel
theorem dX0_become_136 : decode cX0_become 136 = .ok (.aaload, 1) := by decide +kernel
theorem dX0_become_137 : decode cX0_become 137 = .ok (.invokevirtual 59, 3) := by decide +kernel
theorem dX0_become_140 : decode cX0_become 140 = .ok (.iinc 2 1, 3) := by decide +kernel
theorem dX0_become_143 : decode cX0_become 143 = .ok (.goto (-24), 3) := by decide +kernel
theorem dX0_become_146 : decode cX0_become 146 = .ok (.aload_n 1, 1) := by decide +kernel
theorem dX0_become_147 : decode cX0_become 147 = .ok (.getfield 39, 3) := by decide +kernel
theorem dX0_become_150 : decode cX0_become 150 = .ok (.iconst 0, 1) := by decide +kernel
theorem dX0_become_151 : decode cX0_become 151 = .ok (.aload_n 0, 1) := by decide +kernel
theorem dX0_become_152 : decode cX0_become 152 = .ok (.getfield 39, 3) := by decide +kernel
theorem dX0_become_155 : decode cX0_become 155 = .ok (.iconst 0, 1) := by decide +kernel
theorem dX0_become_156 : decode cX0_become 156 = .ok (.iconst 3, 1) := by decide +kernel
theorem dX0_become_157 : decode cX0_become 157 = .ok (.invokestatic 50, 3) := by decide +kernel
theorem dX0_become_160 : decode cX0_become 160 = .ok (.aload_n 0, 1) := by decide +kernel
theorem dX0_become_161 : decode cX0_become 161 = .ok (.aload_n 1, 1) := by decide +kernel
theorem dX0_become_162 : decode cX0_become 162 = .ok (.getfield 43, 3) := by decide +kernel
theorem dX0_become_165 : decode cX0_become 165 = .ok (.putfield 43, 3) := by decide +kernel
theorem dX0_become_168 : decode cX0_become 168 = .ok (.return_, 1) := by decide +kernel
set_option maxRecDepth 20000 in
theorem ggX0_number_X0_rate : GoodIn wsX0_number wsX0_rate := goodIn_r _ [11, 2, 5, 12, 13, 14, 15, 16, 17, 18, 27, 28, 29, 30, 31, 32, 33, 34, 35, 36, 37] (by decide +kernel) (by decide +kernel)
set_option maxRecDepth 20000 in
theorem gX0_number_X0_rate : GoodIn wsX0_number (wsV RX0 63 RX0 yX0_rate wsX0_rate) := goodIn_app (goodIn_of _ (by decide +kernel)) ggX0_number_X0_rate
set_option maxRecDepth 20000 in
theorem ggX0_number_X0_wheelMomentum : GoodIn wsX0_number wsX0_wheelMomentum := goodIn_r _ [22, 23, 24, 25, 26, 27, 28, 29, 30, 31, 32, 33, 34, 35, 36, 37, 38, 39, 40, 41, 42, 43] (by decide +kernel) (by decide +kernel)
set_option maxRecDepth 20000 in
theorem gX0_number_X0_wheelMomentum : GoodIn wsX0_number (wsV RX0 67 RX0 yX0_wheelMomentum wsX0_wheelMomentum) := goodIn_app (goodIn_of _ (by decide +kernel)) ggX0_number_X0_wheelMomentum
theorem dX0_number_0 : decode cX0_number 0 = .ok (.iload_n 2, 1) := by decide +kernel
theorem dX0_number_1 : decode cX0_number 1 = .ok (.tableswitch 102 0 9 #[55, 62, 69, 75, 88, 102, 102, 102, 102, 95], 55) := by decide +kernel
theorem dX0_number_56 : decode cX0_number 56 = .ok (.aload_n 0, 1) := by decide +kernel
theorem dX0_number_57 : decode cX0_number 57 = .ok (.getfield 20, 3) := by decide +kernel
theorem dX0_number_60 : decode cX0_number 60 = .ok (.iload_n 1, 1) := by decide +kernel
theorem dX0_number_61 : decode cX0_number 61 = .ok (.laload, 1) := by decide +kernel
theorem dX0_number_62 : decode cX0_number 62 = .ok (.lreturn, 1) := by decide +kernel
theorem dX0_number_63 : decode cX0_number 63 = .ok (.aload_n 0, 1) := by decide +kernel
theorem dX0_number_64 : decode cX0_number 64 = .ok (.getfield 24, 3) := by decide +kernel
theorem dX0_number_67 : decode cX0_number 67 = .ok (.iload_n 1, 1) := by decide +kernel
theorem dX0_number_68 : decode cX0_number 68 = .ok (.laload, 1) := by decide +kernel
theorem dX0_number_69 : decode cX0_number 69 = .ok (.lreturn, 1) := by decide +kernel
theorem dX0_number_70 : decode cX0_number 70 = .ok (.aload_n 0, 1) := by decide +kernel
theorem dX0_number_71 : decode cX0_number 71 = .ok (.iload_n 1, 1) := by decide +kernel
theorem dX0_number_72 : decode cX0_number 72 = .ok (.invokevirtual 63, 3) := by decide +kernel
theorem dX0_number_75 : decode cX0_number 75 = .ok (.lreturn, 1) := by decide +kernel
theorem dX0_number_76 : decode cX0_number 76 = .ok (.aload_n 0, 1) := by decide +kernel
theorem dX0_number_77 : decode cX0_number 77 = .ok (.getfield 24, 3) := by decide +kernel
theorem dX0_number_80 : decode cX0_number 80 = .ok (.iload_n 1, 1) := by decide +kernel
theorem dX0_number_81 : decode cX0_number 81 = .ok (.laload, 1) := by decide +kernel
theorem dX0_number_82 : decode cX0_number 82 = .ok (.aload_n 0, 1) := by decide +kernel
theorem dX0_number_83 : decode cX0_number 83 = .ok (.iload_n 1, 1) := by decide +kernel
theorem dX0_number_84 : decode cX0_number 84 = .ok (.invokevirtual 67, 3) := by decide +kernel
theorem dX0_number_87 : decode cX0_number 87 = .ok (.ladd, 1) := by decide +kernel
theorem dX0_number_88 : decode cX0_number 88 = .ok (.lreturn, 1) := by decide +kernel
theorem dX0_number_89 : decode cX0_number 89 = .ok (.aload_n 0, 1) := by decide +kernel
theorem dX0_number_90 : decode cX0_number 90 = .ok (.getfield 27, 3) := by decide +kernel
theorem dX0_number_93 : decode cX0_number 93 = .ok (.iload_n 1, 1) := by decide +kernel
theorem dX0_number_94 : decode cX0_number 94 = .ok (.laload, 1) := by decide +kernel
theorem dX0_number_95 : decode cX0_number 95 = .ok (.lreturn, 1) := by decide +kernel
theorem dX0_number_96 : decode cX0_number 96 = .ok (.aload_n 0, 1) := by decide +kernel
theorem dX0_number_97 : decode cX0_number 97 = .ok (.getfield 30, 3) := by decide +kernel
theorem dX0_number_100 : decode cX0_number 100 = .ok (.iload_n 1, 1) := by decide +kernel
theorem dX0_number_101 : decode cX0_number 101 = .ok (.laload, 1) := by decide +kernel
theorem dX0_number_102 : decode cX0_number 102 = .ok (.lreturn, 1) := by decide +kernel
theorem dX0_number_103 : decode cX0_number 103 = .ok (.iload_n 2, 1) := by decide +kernel
theorem dX0_number_104 : decode cX0_number 104 = .ok (.iconst 5, 1) := by decide +kernel
theorem dX0_number_105 : decode cX0_number 105 = .ok (.if_icmp .lt 23, 3) := by decide +kernel
theorem dX0_number_108 : decode cX0_number 108 = .ok (.iload_n 2, 1) := by decide +kernel
theorem dX0_number_109 : decode cX0_number 109 = .ok (.bipush 9, 2) := by decide +kernel
theorem dX0_number_111 : decode cX0_number 111 = .ok (.if_icmp .ge 17, 3) := by decide +kernel
theorem dX0_number_114 : decode cX0_number 114 = .ok (.aload_n 0, 1) := by decide +kernel
theorem dX0_number_115 : decode cX0_number 115 = .ok (.getfield 17, 3) := by decide +kernel
theorem dX0_number_118 : decode cX0_number 118 = .ok (.iload_n 2, 1) := by decide +kernel
theorem dX0_number_119 : decode cX0_number 119 = .ok (.iconst 5, 1) := by decide +kernel
theorem dX0_number_120 : decode cX0_number 120 = .ok (.isub, 1) := by decide +kernel
theorem dX0_number_121 : decode cX0_number 121 = .ok (.aaload, 1) := by decide +kernel
theorem dX0_number_122 : decode cX0_number 122 = .ok (.iload_n 1, 1) := by decide +kernel
theorem dX0_number_123 : decode cX0_number 123 = .ok (.iaload, 1) := by decide +kernel
theorem dX0_number_124 : decode cX0_number 124 = .ok (.i2l, 1) := by decide +kernel
theorem dX0_number_125 : decode cX0_number 125 = .ok (.goto 6, 3) := by decide +kernel
theorem dX0_number_128 : decode cX0_number 128 = .ok (.ldc2_w 70, 3) := by decide +kernel
theorem dX0_number_131 : decode cX0_number 131 = .ok (.lreturn, 1) := by decide +kernel
set_option maxRecDepth 20000 in
theorem ggX0_rate_X5_quotient : GoodIn wsX0_rate wsX5_quotient := goodIn_r _ [5, 6, 7, 8, 9] (by decide +kernel) (by decide +kernel)
set_option maxRecDepth 20000 in
theorem gX0_rate_X5_quotient_n72 : GoodIn wsX0_rate (wsX5_quotient) := ggX0_rate_X5_quotient
theorem dX0_rate_0 : decode cX0_rate 0 = .ok (.aload_n 0, 1) := by decide +kernel
theorem dX0_rate_1 : decode cX0_rate 1 = .ok (.getfield 24, 3) := by decide +kernel
theorem dX0_rate_4 : decode cX0_rate 4 = .ok (.iload_n 1, 1) := by decide +kernel
theorem dX0_rate_5 : decode cX0_rate 5 = .ok (.laload, 1) := by decide +kernel
theorem dX0_rate_6 : decode cX0_rate 6 = .ok (.aload_n 0, 1) := by decide +kernel
theorem dX0_rate_7 : decode cX0_rate 7 = .ok (.getfield 17, 3) := by decide +kernel
theorem dX0_rate_10 : decode cX0_rate 10 = .ok (.iconst 0, 1) := by decide +kernel
theorem dX0_rate_11 : decode cX0_rate 11 = .ok (.aaload, 1) := by decide +kernel
theorem dX0_rate_12 : decode cX0_rate 12 = .ok (.iload_n 1, 1) := by decide +kernel
theorem dX0_rate_13 : decode cX0_rate 13 = .ok (.iaload, 1) := by decide +kernel
theorem dX0_rate_14 : decode cX0_rate 14 = .ok (.i2l, 1) := by decide +kernel
theorem dX0_rate_15 : decode cX0_rate 15 = .ok (.invokestatic 72, 3) := by decide +kernel
theorem dX0_rate_18 : decode cX0_rate 18 = .ok (.lreturn, 1) := by decide +kernel
theorem dX0_wheelMomentum_0 : decode cX0_wheelMomentum 0 = .ok (.lconst 0, 1) := by decide +kernel
theorem dX0_wheelMomentum_1 : decode cX0_wheelMomentum 1 = .ok (.lstore_n 2, 1) := by decide +kernel
theorem dX0_wheelMomentum_2 : decode cX0_wheelMomentum 2 = .ok (.iconst 0, 1) := by decide +kernel
theorem dX0_wheelMomentum_3 : decode cX0_wheelMomentum 3 = .ok (.istore 4, 2) := by decide +kernel
theorem dX0_wheelMomentum_5 : decode cX0_wheelMomentum 5 = .ok (.iload 4, 2) := by decide +kernel
theorem dX0_wheelMomentum_7 : decode cX0_wheelMomentum 7 = .ok (.aload_n 0, 1) := by decide +kernel
theorem dX0_wheelMomentum_8 : decode cX0_wheelMomentum 8 = .ok (.getfield 56, 3) := by decide +kernel
theorem dX0_wheelMomentum_11 : decode cX0_wheelMomentum 11 = .ok (.if_icmp .ge 37, 3) := by decide +kernel
theorem dX0_wheelMomentum_14 : decode cX0_wheelMomentum 14 = .ok (.lload_n 2, 1) := by decide +kernel
theorem dX0_wheelMomentum_15 : decode cX0_wheelMomentum 15 = .ok (.aload_n 0, 1) := by decide +kernel
theorem dX0_wheelMomentum_16 : decode cX0_wheelMomentum 16 = .ok (.getfield 35, 3) := by decide +kernel
theorem dX0_wheelMomentum_19 : decode cX0_wheelMomentum 19 = .ok (.iload 4, 2) := by decide +kernel
theorem dX0_wheelMomentum_21 : decode cX0_wheelMomentum 21 = .ok (.aaload, 1) := by decide +kernel
theorem dX0_wheelMomentum_22 : decode cX0_wheelMomentum 22 = .ok (.getfield 76, 3) := by decide +kernel
theorem dX0_wheelMomentum_25 : decode cX0_wheelMomentum 25 = .ok (.iload_n 1, 1) := by decide +kernel
theorem dX0_wheelMomentum_26 : decode cX0_wheelMomentum 26 = .ok (.iaload, 1) := by decide +kernel
theorem dX0_wheelMomentum_27 : decode cX0_wheelMomentum 27 = .ok (.i2l, 1) := by decide +kernel
theorem dX0_wheelMomentum_28 : decode cX0_wheelMomentum 28 = .ok (.aload_n 0, 1) := by decide +kernel
theorem dX0_wheelMomentum_29 : decode cX0_wheelMomentum 29 = .ok (.getfield 35, 3) := by decide +kernel
theorem dX0_wheelMomentum_32 : decode cX0_wheelMomentum 32 = .ok (.iload 4, 2) := by decide +kernel
theorem dX0_wheelMomentum_34 : decode cX0_wheelMomentum 34 = .ok (.aaload, 1) := by decide +kernel
theorem dX0_wheelMomentum_35 : decode cX0_wheelMomentum 35 = .ok (.getfield 79, 3) := by decide +kernel
theorem dX0_wheelMomentum_38 : decode cX0_wheelMomentum 38 = .ok (.i2l, 1) := by decide +kernel
theorem dX0_wheelMomentum_39 : decode cX0_wheelMomentum 39 = .ok (.lmul, 1) := by decide +kernel
theorem dX0_wheelMomentum_40 : decode cX0_wheelMomentum 40 = .ok (.ladd, 1) := by decide +kernel
theorem dX0_wheelMomentum_41 : decode cX0_wheelMomentum 41 = .ok (.lstore_n 2, 1) := by decide +kernel
theorem dX0_wheelMomentum_42 : decode cX0_wheelMomentum 42 = .ok (.iinc 4 1, 3) := by decide +kernel
theorem dX0_wheelMomentum_45 : decode cX0_wheelMomentum 45 = .ok (.goto (-40), 3) := by decide +kernel
theorem dX0_wheelMomentum_48 : decode cX0_wheelMomentum 48 = .ok (.lload_n 2, 1) := by decide +kernel
theorem dX0_wheelMomentum_49 : decode cX0_wheelMomentum 49 = .ok (.lreturn, 1) := by decide +kernel
theorem dX0_aside_0 : decode cX0_aside 0 = .ok (.aload_n 0, 1) := by decide +kernel
theorem dX0_aside_1 : decode cX0_aside 1 = .ok (.getfield 17, 3) := by decide +kernel
theorem dX0_aside_4 : decode cX0_aside 4 = .ok (.iconst 1, 1) := by decide +kernel
theorem dX0_aside_5 : decode cX0_aside 5 = .ok (.aaload, 1) := by decide +kernel
theorem dX0_aside_6 : decode cX0_aside 6 = .ok (.iload_n 1, 1) := by decide +kernel
theorem dX0_aside_7 : decode cX0_aside 7 = .ok (.iaload, 1) := by decide +kernel
theorem dX0_aside_8 : decode cX0_aside 8 = .ok (.i2l, 1) := by decide +kernel
theorem dX0_aside_9 : decode cX0_aside 9 = .ok (.aload_n 0, 1) := by decide +kernel
theorem dX0_aside_10 : decode cX0_aside 10 = .ok (.getfield 20, 3) := by decide +kernel
theorem dX0_aside_13 : decode cX0_aside 13 = .ok (.iload_n 1, 1) := by decide +kernel
theorem dX0_aside_14 : decode cX0_aside 14 = .ok (.laload, 1) := by decide +kernel
theorem dX0_aside_15 : decode cX0_aside 15 = .ok (.lsub, 1) := by decide +kernel
theorem dX0_aside_16 : decode cX0_aside 16 = .ok (.invokestatic 81, 3) := by decide +kernel
theorem dX0_aside_19 : decode cX0_aside 19 = .ok (.lreturn, 1) := by decide +kernel
set_option maxRecDepth 20000 in
theorem ggX0_offTarget_X0_aside : GoodIn wsX0_offTarget wsX0_aside := goodIn_r _ [5, 6, 7, 8, 9, 10, 11, 12, 13, 14, 15, 16, 17, 18, 19, 20, 21, 22] (by decide +kernel) (by decide +kernel)
set_option maxRecDepth 20000 in
theorem gX0_offTarget_X0_aside : GoodIn wsX0_offTarget (wsV RX0 87 RX0 yX0_aside wsX0_aside) := goodIn_app (goodIn_of _ (by decide +kernel)) ggX0_offTarget_X0_aside
theorem dX0_offTarget_0 : decode cX0_offTarget 0 = .ok (.lconst 0, 1) := by decide +kernel
theorem dX0_offTarget_1 : decode cX0_offTarget 1 = .ok (.lstore_n 1, 1) := by decide +kernel
theorem dX0_offTarget_2 : decode cX0_offTarget 2 = .ok (.iconst 0, 1) := by decide +kernel
theorem dX0_offTarget_3 : decode cX0_offTarget 3 = .ok (.istore_n 3, 1) := by decide +kernel
theorem dX0_offTarget_4 : decode cX0_offTarget 4 = .ok (.iload_n 3, 1) := by decide +kernel
theorem dX0_offTarget_5 : decode cX0_offTarget 5 = .ok (.iconst 3, 1) := by decide +kernel
theorem dX0_offTarget_6 : decode cX0_offTarget 6 = .ok (.if_icmp .ge 17, 3) := by decide +kernel
theorem dX0_offTarget_9 : decode cX0_offTarget 9 = .ok (.lload_n 1, 1) := by decide +kernel
theorem dX0_offTarget_10 : decode cX0_offTarget 10 = .ok (.aload_n 0, 1) := by decide +kernel
theorem dX0_offTarget_11 : decode cX0_offTarget 11 = .ok (.iload_n 3, 1) := by decide +kernel
theorem dX0_offTarget_12 : decode cX0_offTarget 12 = .ok (.invokevirtual 87, 3) := by decide +kernel
theorem dX0_offTarget_15 : decode cX0_offTarget 15 = .ok (.ladd, 1) := by decide +kernel
theorem dX0_offTarget_16 : decode cX0_offTarget 16 = .ok (.lstore_n 1, 1) := by decide +kernel
theorem dX0_offTarget_17 : decode cX0_offTarget 17 = .ok (.iinc 3 1, 3) := by decide +kernel
theorem dX0_offTarget_20 : decode cX0_offTarget 20 = .ok (.goto (-16), 3) := by decide +kernel
theorem dX0_offTarget_23 : decode cX0_offTarget 23 = .ok (.lload_n 1, 1) := by decide +kernel
theorem dX0_offTarget_24 : decode cX0_offTarget 24 = .ok (.lreturn, 1) := by decide +kernel
set_option maxRecDepth 20000 in
theorem ggX0_isOnTarget_X0_aside : GoodIn wsX0_isOnTarget wsX0_aside := goodIn_r _ [9, 10, 11, 1, 2, 3, 4, 24, 25, 26, 27, 28, 29, 30, 31, 32, 33, 34] (by decide +kernel) (by decide +kernel)
set_option maxRecDepth 20000 in
theorem gX0_isOnTarget_X0_aside : GoodIn wsX0_isOnTarget (wsV RX0 87 RX0 yX0_aside wsX0_aside) := goodIn_app (goodIn_of _ (by decide +kernel)) ggX0_isOnTarget_X0_aside
set_option maxRecDepth 20000 in
theorem ggX0_isOnTarget_X0_rate : GoodIn wsX0_isOnTarget wsX0_rate := goodIn_r _ [15, 16, 10, 17, 18, 19, 20, 21, 22, 23, 24, 25, 26, 27, 28, 29, 30, 31, 32, 33, 34] (by decide +kernel) (by decide +kernel)
set_option maxRecDepth 20000 in
theorem gX0_isOnTarget_X0_rate : GoodIn wsX0_isOnTarget (wsV RX0 63 RX0 yX0_rate wsX0_rate) := goodIn_app (goodIn_of _ (by decide +kernel)) ggX0_isOnTarget_X0_rate
theorem dX0_isOnTarget_0 : decode cX0_isOnTarget 0 = .ok (.iconst 0, 1) := by decide +kernel
theorem dX0_isOnTarget_1 : decode cX0_isOnTarget 1 = .ok (.istore_n 2, 1) := by decide +kernel
theorem dX0_isOnTarget_2 : decode cX0_isOnTarget 2 = .ok (.iload_n 2, 1) := by decide +kernel
theorem dX0_isOnTarget_3 : decode cX0_isOnTarget 3 = .ok (.iconst 3, 1) := by decide +kernel
theorem dX0_isOnTarget_4 : decode cX0_isOnTarget 4 = .ok (.if_icmp .ge 35, 3) := by decide +kernel
theorem dX0_isOnTarget_7 : decode cX0_isOnTarget 7 = .ok (.aload_n 0, 1) := by decide +kernel
theorem dX0_isOnTarget_8 : decode cX0_isOnTarget 8 = .ok (.iload_n 2, 1) := by decide +kernel
theorem dX0_isOnTarget_9 : decode cX0_isOnTarget 9 = .ok (.invokevirtual 87, 3) := by decide +kernel
theorem dX0_isOnTarget_12 : decode cX0_isOnTarget 12 = .ok (.iload_n 1, 1) := by decide +kernel
theorem dX0_isOnTarget_13 : decode cX0_isOnTarget 13 = .ok (.i2l, 1) := by decide +kernel
theorem dX0_isOnTarget_14 : decode cX0_isOnTarget 14 = .ok (.lcmp, 1) := by decide +kernel
theorem dX0_isOnTarget_15 : decode cX0_isOnTarget 15 = .ok (.ifCond .gt 16, 3) := by decide +kernel
theorem dX0_isOnTarget_18 : decode cX0_isOnTarget 18 = .ok (.aload_n 0, 1) := by decide +kernel
theorem dX0_isOnTarget_19 : decode cX0_isOnTarget 19 = .ok (.iload_n 2, 1) := by decide +kernel
theorem dX0_isOnTarget_20 : decode cX0_isOnTarget 20 = .ok (.invokevirtual 63, 3) := by decide +kernel
theorem dX0_isOnTarget_23 : decode cX0_isOnTarget 23 = .ok (.invokestatic 81, 3) := by decide +kernel
theorem dX0_isOnTarget_26 : decode cX0_isOnTarget 26 = .ok (.lconst 1, 1) := by decide +kernel
theorem dX0_isOnTarget_27 : decode cX0_isOnTarget 27 = .ok (.lcmp, 1) := by decide +kernel
theorem dX0_isOnTarget_28 : decode cX0_isOnTarget 28 = .ok (.ifCond .le 5, 3) := by decide +kernel
theorem dX0_isOnTarget_31 : decode cX0_isOnTarget 31 = .ok (.iconst 0, 1) := by decide +kernel
theorem dX0_isOnTarget_32 : decode cX0_isOnTarget 32 = .ok (.ireturn, 1) := by decide +kernel
theorem dX0_isOnTarget_33 : decode cX0_isOnTarget 33 = .ok (.iinc 2 1, 3) := by decide +kernel
theorem dX0_isOnTarget_36 : decode cX0_isOnTarget 36 = .ok (.goto (-34), 3) := by decide +kernel
theorem dX0_isOnTarget_39 : decode cX0_isOnTarget 39 = .ok (.iconst 1, 1) := by decide +kernel
theorem dX0_isOnTarget_40 : decode cX0_isOnTarget 40 = .ok (.ireturn, 1) := by decide +kernel
theorem dX0_isMet_0 : decode cX0_isMet 0 = .ok (.aload_n 0, 1) := by decide +kernel
theorem dX0_isMet_1 : decode cX0_isMet 1 = .ok (.getfield 39, 3) := by decide +kernel
theorem dX0_isMet_4 : decode cX0_isMet 4 = .ok (.iconst 0, 1) := by decide +kernel
theorem dX0_isMet_5 : decode cX0_isMet 5 = .ok (.iaload, 1) := by decide +kernel
theorem dX0_isMet_6 : decode cX0_isMet 6 = .ok (.ifCond .ne 7, 3) := by decide +kernel
theorem dX0_isMet_9 : decode cX0_isMet 9 = .ok (.iconst 1, 1) := by decide +kernel
theorem dX0_isMet_10 : decode cX0_isMet 10 = .ok (.goto 4, 3) := by decide +kernel
theorem dX0_isMet_13 : decode cX0_isMet 13 = .ok (.iconst 0, 1) := by decide +kernel
theorem dX0_isMet_14 : decode cX0_isMet 14 = .ok (.ireturn, 1) := by decide +kernel
set_option maxRecDepth 20000 in
theorem ggX0_findWish_X5_quotient : GoodIn wsX0_findWish wsX5_quotient := goodIn_r _ [8, 9, 10, 11, 12] (by decide +kernel) (by decide +kernel)
set_option maxRecDepth 20000 in
theorem gX0_findWish_X5_quotient_n72 : GoodIn wsX0_findWish (wsX5_quotient) := ggX0_findWish_X5_quotient
set_option maxRecDepth 20000 in
theorem ggX0_findWish_X5_limited : GoodIn wsX0_findWish wsX5_limited := goodIn_r _ [14] (by decide +kernel) (by decide +kernel)
set_option maxRecDepth 20000 in
theorem gX0_findWish_X5_limited_n92 : GoodIn wsX0_findWish (wsX5_limited) := ggX0_findWish_X5_limited
set_option maxRecDepth 20000 in
theorem ggX0_findWish_X0_rate : GoodIn wsX0_findWish wsX0_rate := goodIn_r _ [19, 20, 2, 6, 7, 8, 9, 10, 11, 12, 21, 22, 23, 24, 25, 26, 27, 28, 29, 30, 31] (by decide +kernel) (by decide +kernel)
set_option maxRecDepth 20000 in
theorem gX0_findWish_X0_rate : GoodIn wsX0_findWish (wsV RX0 63 RX0 yX0_rate wsX0_rate) := goodIn_app (goodIn_of _ (by decide +kernel)) ggX0_findWish_X0_rate
theorem dX0_findWish_0 : decode cX0_findWish 0 = .ok (.aload_n 0, 1) := by decide +kernel
theorem dX0_findWish_1 : decode cX0_findWish 1 = .ok (.getfield 9, 3) := by decide +kernel
theorem dX0_findWish_4 : decode cX0_findWish 4 = .ok (.iconst 2, 1) := by decide +kernel
theorem dX0_findWish_5 : decode cX0_findWish 5 = .ok (.iaload, 1) := by decide +kernel
theorem dX0_findWish_6 : decode cX0_findWish 6 = .ok (.i2l, 1) := by decide +kernel
theorem dX0_findWish_7 : decode cX0_findWish 7 = .ok (.lstore_n 1, 1) := by decide +kernel
theorem dX0_findWish_8 : decode cX0_findWish 8 = .ok (.aload_n 0, 1) := by decide +kernel
theorem dX0_findWish_9 : decode cX0_findWish 9 = .ok (.getfield 9, 3) := by decide +kernel
theorem dX0_findWish_12 : decode cX0_findWish 12 = .ok (.iconst 3, 1) := by decide +kernel
theorem dX0_findWish_13 : decode cX0_findWish 13 = .ok (.iaload, 1) := by decide +kernel
theorem dX0_findWish_14 : decode cX0_findWish 14 = .ok (.i2l, 1) := by decide +kernel
theorem dX0_findWish_15 : decode cX0_findWish 15 = .ok (.lstore_n 3, 1) := by decide +kernel
theorem dX0_findWish_16 : decode cX0_findWish 16 = .ok (.iconst 0, 1) := by decide +kernel
theorem dX0_findWish_17 : decode cX0_findWish 17 = .ok (.istore 5, 2) := by decide +kernel
theorem dX0_findWish_19 : decode cX0_findWish 19 = .ok (.iload 5, 2) := by decide +kernel
theorem dX0_findWish_21 : decode cX0_findWish 21 = .ok (.iconst 3, 1) := by decide +kernel
theorem dX0_findWish_22 : decode cX0_findWish 22 = .ok (.if_icmp .ge 87, 3) := by decide +kernel
theorem dX0_findWish_25 : decode cX0_findWish 25 = .ok (.aload_n 0, 1) := by decide +kernel
theorem dX0_findWish_26 : decode cX0_findWish 26 = .ok (.getfield 9, 3) := by decide +kernel
theorem dX0_findWish_29 : decode cX0_findWish 29 = .ok (.iconst 0, 1) := by decide +kernel
theorem dX0_findWish_30 : decode cX0_findWish 30 = .ok (.iaload, 1) := by decide +kernel
theorem dX0_findWish_31 : decode cX0_findWish 31 = .ok (.i2l, 1) := by decide +kernel
theorem dX0_findWish_32 : decode cX0_findWish 32 = .ok (.aload_n 0, 1) := by decide +kernel
theorem dX0_findWish_33 : decode cX0_findWish 33 = .ok (.getfield 17, 3) := by decide +kernel
theorem dX0_findWish_36 : decode cX0_findWish 36 = .ok (.iconst 1, 1) := by decide +kernel
theorem dX0_findWish_37 : decode cX0_findWish 37 = .ok (.aaload, 1) := by decide +kernel
theorem dX0_findWish_38 : decode cX0_findWish 38 = .ok (.iload 5, 2) := by decide +kernel
theorem dX0_findWish_40 : decode cX0_findWish 40 = .ok (.iaload, 1) := by decide +kernel
theorem dX0_findWish_41 : decode cX0_findWish 41 = .ok (.i2l, 1) := by decide +kernel
theorem dX0_findWish_42 : decode cX0_findWish 42 = .ok (.aload_n 0, 1) := by decide +kernel
theorem dX0_findWish_43 : decode cX0_findWish 43 = .ok (.getfield 20, 3) := by decide +kernel
theorem dX0_findWish_46 : decode cX0_findWish 46 = .ok (.iload 5, 2) := by decide +kernel
theorem dX0_findWish_48 : decode cX0_findWish 48 = .ok (.laload, 1) := by decide +kernel
theorem dX0_findWish_49 : decode cX0_findWish 49 = .ok (.lsub, 1) := by decide +kernel
theorem dX0_findWish_50 : decode cX0_findWish 50 = .ok (.lmul, 1) := by decide +kernel
theorem dX0_findWish_51 : decode cX0_findWish 51 = .ok (.lstore 6, 2) := by decide +kernel
theorem dX0_findWish_53 : decode cX0_findWish 53 = .ok (.lload 6, 2) := by decide +kernel
theorem dX0_findWish_55 : decode cX0_findWish 55 = .ok (.ldc2_w 90, 3) := by decide +kernel
theorem dX0_findWish_58 : decode cX0_findWish 58 = .ok (.invokestatic 72, 3) := by decide +kernel
theorem dX0_findWish_61 : decode cX0_findWish 61 = .ok (.lload_n 1, 1) := by decide +kernel
theorem dX0_findWish_62 : decode cX0_findWish 62 = .ok (.lneg, 1) := by decide +kernel
theorem dX0_findWish_63 : decode cX0_findWish 63 = .ok (.lload_n 1, 1) := by decide +kernel
theorem dX0_findWish_64 : decode cX0_findWish 64 = .ok (.invokestatic 92, 3) := by decide +kernel
theorem dX0_findWish_67 : decode cX0_findWish 67 = .ok (.lstore 8, 2) := by decide +kernel
theorem dX0_findWish_69 : decode cX0_findWish 69 = .ok (.aload_n 0, 1) := by decide +kernel
theorem dX0_findWish_70 : decode cX0_findWish 70 = .ok (.getfield 9, 3) := by decide +kernel
theorem dX0_findWish_73 : decode cX0_findWish 73 = .ok (.iconst 1, 1) := by decide +kernel
theorem dX0_findWish_74 : decode cX0_findWish 74 = .ok (.iaload, 1) := by decide +kernel
theorem dX0_findWish_75 : decode cX0_findWish 75 = .ok (.i2l, 1) := by decide +kernel
theorem dX0_findWish_76 : decode cX0_findWish 76 = .ok (.lload 8, 2) := by decide +kernel
theorem dX0_findWish_78 : decode cX0_findWish 78 = .ok (.aload_n 0, 1) := by decide +kernel
theorem dX0_findWish_79 : decode cX0_findWish 79 = .ok (.iload 5, 2) := by decide +kernel
theorem dX0_findWish_81 : decode cX0_findWish 81 = .ok (.invokevirtual 63, 3) := by decide +kernel
theorem dX0_findWish_84 : decode cX0_findWish 84 = .ok (.lsub, 1) := by decide +kernel
theorem dX0_findWish_85 : decode cX0_findWish 85 = .ok (.lmul, 1) := by decide +kernel
theorem dX0_findWish_86 : decode cX0_findWish 86 = .ok (.lstore 10, 2) := by decide +kernel
theorem dX0_findWish_88 : decode cX0_findWish 88 = .ok (.aload_n 0, 1) := by decide +kernel
theorem dX0_findWish_89 : decode cX0_findWish 89 = .ok (.getfield 30, 3) := by decide +kernel
theorem dX0_findWish_92 : decode cX0_findWish 92 = .ok (.iload 5, 2) := by decide +kernel
theorem dX0_findWish_94 : decode cX0_findWish 94 = .ok (.lload 10, 2) := by decide +kernel
theorem dX0_findWish_96 : decode cX0_findWish 96 = .ok (.lload_n 3, 1) := by decide +kernel
theorem dX0_findWish_97 : decode cX0_findWish 97 = .ok (.lneg, 1) := by decide +kernel
theorem dX0_findWish_98 : decode cX0_findWish 98 = .ok (.lload_n 3, 1) := by decide +kernel
theorem dX0_findWish_99 : decode cX0_findWish 99 = .ok (.invokestatic 92, 3) := by decide +kernel
theorem dX0_findWish_102 : decode cX0_findWish 102 = .ok (.lastore, 1) := by decide +kernel
theorem dX0_findWish_103 : decode cX0_findWish 103 = .ok (.iinc 5 1, 3) := by decide +kernel
theorem dX0_findWish_106 : decode cX0_findWish 106 = .ok (.goto (-87), 3) := by decide +kernel
theorem dX0_findWish_109 : decode cX0_findWish 109 = .ok (.return_, 1) := by decide +kernel
theorem dX0_pushFromOutside_0 : decode cX0_pushFromOutside 0 = .ok (.aload_n 0, 1) := by decide +kernel
theorem dX0_pushFromOutside_1 : decode cX0_pushFromOutside 1 = .ok (.getfield 24, 3) := by decide +kernel
theorem dX0_pushFromOutside_4 : decode cX0_pushFromOutside 4 = .ok (.iload_n 1, 1) := by decide +kernel
theorem dX0_pushFromOutside_5 : decode cX0_pushFromOutside 5 = .ok (.dup2, 1) := by decide +kernel
theorem dX0_pushFromOutside_6 : decode cX0_pushFromOutside 6 = .ok (.laload, 1) := by decide +kernel
theorem dX0_pushFromOutside_7 : decode cX0_pushFromOutside 7 = .ok (.lload_n 2, 1) := by decide +kernel
theorem dX0_pushFromOutside_8 : decode cX0_pushFromOutside 8 = .ok (.ladd, 1) := by decide +kernel
theorem dX0_pushFromOutside_9 : decode cX0_pushFromOutside 9 = .ok (.lastore, 1) := by decide +kernel
theorem dX0_pushFromOutside_10 : decode cX0_pushFromOutside 10 = .ok (.aload_n 0, 1) := by decide +kernel
theorem dX0_pushFromOutside_11 : decode cX0_pushFromOutside 11 = .ok (.getfield 27, 3) := by decide +kernel
theorem dX0_pushFromOutside_14 : decode cX0_pushFromOutside 14 = .ok (.iload_n 1, 1) := by decide +kernel
theorem dX0_pushFromOutside_15 : decode cX0_pushFromOutside 15 = .ok (.dup2, 1) := by decide +kernel
theorem dX0_pushFromOutside_16 : decode cX0_pushFromOutside 16 = .ok (.laload, 1) := by decide +kernel
theorem dX0_pushFromOutside_17 : decode cX0_pushFromOutside 17 = .ok (.lload_n 2, 1) := by decide +kernel
theorem dX0_pushFromOutside_18 : decode cX0_pushFromOutside 18 = .ok (.ladd, 1) := by decide +kernel
theorem dX0_pushFromOutside_19 : decode cX0_pushFromOutside 19 = .ok (.lastore, 1) := by decide +kernel
theorem dX0_pushFromOutside_20 : decode cX0_pushFromOutside 20 = .ok (.return_, 1) := by decide +kernel
set_option maxRecDepth 20000 in
theorem ggX0_disturb_X0_pushFromOutside : GoodIn wsX0_disturb wsX0_pushFromOutside := goodIn_r _ [6, 7, 8, 9, 10, 11, 12, 13, 14, 15, 16, 17, 18, 19] (by decide +kernel) (by decide +kernel)
set_option maxRecDepth 20000 in
theorem gX0_disturb_X0_pushFromOutside : GoodIn wsX0_disturb (wsV RX0 96 RX0 yX0_pushFromOutside wsX0_pushFromOutside) := goodIn_app (goodIn_of _ (by decide +kernel)) ggX0_disturb_X0_pushFromOutside
theorem dX0_disturb_0 : decode cX0_disturb 0 = .ok (.iconst 0, 1) := by decide +kernel
theorem dX0_disturb_1 : decode cX0_disturb 1 = .ok (.istore_n 1, 1) := by decide +kernel
theorem dX0_disturb_2 : decode cX0_disturb 2 = .ok (.iload_n 1, 1) := by decide +kernel
theorem dX0_disturb_3 : decode cX0_disturb 3 = .ok (.iconst 3, 1) := by decide +kernel
theorem dX0_disturb_4 : decode cX0_disturb 4 = .ok (.if_icmp .ge 23, 3) := by decide +kernel
theorem dX0_disturb_7 : decode cX0_disturb 7 = .ok (.aload_n 0, 1) := by decide +kernel
theorem dX0_disturb_8 : decode cX0_disturb 8 = .ok (.iload_n 1, 1) := by decide +kernel
theorem dX0_disturb_9 : decode cX0_disturb 9 = .ok (.aload_n 0, 1) := by decide +kernel
theorem dX0_disturb_10 : decode cX0_disturb 10 = .ok (.getfield 17, 3) := by decide +kernel
theorem dX0_disturb_13 : decode cX0_disturb 13 = .ok (.iconst 3, 1) := by decide +kernel
theorem dX0_disturb_14 : decode cX0_disturb 14 = .ok (.aaload, 1) := by decide +kernel
theorem dX0_disturb_15 : decode cX0_disturb 15 = .ok (.iload_n 1, 1) := by decide +kernel
theorem dX0_disturb_16 : decode cX0_disturb 16 = .ok (.iaload, 1) := by decide +kernel
theorem dX0_disturb_17 : decode cX0_disturb 17 = .ok (.i2l, 1) := by decide +kernel
theorem dX0_disturb_18 : decode cX0_disturb 18 = .ok (.invokevirtual 96, 3) := by decide +kernel
theorem dX0_disturb_21 : decode cX0_disturb 21 = .ok (.iinc 1 1, 3) := by decide +kernel
theorem dX0_disturb_24 : decode cX0_disturb 24 = .ok (.goto (-22), 3) := by decide +kernel
theorem dX0_disturb_27 : decode cX0_disturb 27 = .ok (.return_, 1) := by decide +kernel
set_option maxRecDepth 20000 in
theorem ggX0_turn_X0_rate : GoodIn wsX0_turn wsX0_rate := goodIn_r _ [6, 7, 8, 9, 10, 11, 12, 13, 14, 15, 16, 17, 18, 19, 20, 21, 22, 23, 24, 25, 26] (by decide +kernel) (by decide +kernel)
set_option maxRecDepth 20000 in
theorem gX0_turn_X0_rate : GoodIn wsX0_turn (wsV RX0 63 RX0 yX0_rate wsX0_rate) := goodIn_app (goodIn_of _ (by decide +kernel)) ggX0_turn_X0_rate
theorem dX0_turn_0 : decode cX0_turn 0 = .ok (.iconst 0, 1) := by decide +kernel
theorem dX0_turn_1 : decode cX0_turn 1 = .ok (.istore_n 1, 1) := by decide +kernel
theorem dX0_turn_2 : decode cX0_turn 2 = .ok (.iload_n 1, 1) := by decide +kernel
theorem dX0_turn_3 : decode cX0_turn 3 = .ok (.iconst 3, 1) := by decide +kernel
theorem dX0_turn_4 : decode cX0_turn 4 = .ok (.if_icmp .ge 23, 3) := by decide +kernel
theorem dX0_turn_7 : decode cX0_turn 7 = .ok (.aload_n 0, 1) := by decide +kernel
theorem dX0_turn_8 : decode cX0_turn 8 = .ok (.getfield 20, 3) := by decide +kernel
theorem dX0_turn_11 : decode cX0_turn 11 = .ok (.iload_n 1, 1) := by decide +kernel
theorem dX0_turn_12 : decode cX0_turn 12 = .ok (.dup2, 1) := by decide +kernel
theorem dX0_turn_13 : decode cX0_turn 13 = .ok (.laload, 1) := by decide +kernel
theorem dX0_turn_14 : decode cX0_turn 14 = .ok (.aload_n 0, 1) := by decide +kernel
theorem dX0_turn_15 : decode cX0_turn 15 = .ok (.iload_n 1, 1) := by decide +kernel
theorem dX0_turn_16 : decode cX0_turn 16 = .ok (.invokevirtual 63, 3) := by decide +kernel
theorem dX0_turn_19 : decode cX0_turn 19 = .ok (.ladd, 1) := by decide +kernel
theorem dX0_turn_20 : decode cX0_turn 20 = .ok (.lastore, 1) := by decide +kernel
theorem dX0_turn_21 : decode cX0_turn 21 = .ok (.iinc 1 1, 3) := by decide +kernel
theorem dX0_turn_24 : decode cX0_turn 24 = .ok (.goto (-22), 3) := by decide +kernel
theorem dX0_turn_27 : decode cX0_turn 27 = .ok (.return_, 1) := by decide +kernel
theorem dX0_tellMet_0 : decode cX0_tellMet 0 = .ok (.aload_n 0, 1) := by decide +kernel
theorem dX0_tellMet_1 : decode cX0_tellMet 1 = .ok (.getfield 39, 3) := by decide +kernel
theorem dX0_tellMet_4 : decode cX0_tellMet 4 = .ok (.iconst 0, 1) := by decide +kernel
theorem dX0_tellMet_5 : decode cX0_tellMet 5 = .ok (.iconst 0, 1) := by decide +kernel
theorem dX0_tellMet_6 : decode cX0_tellMet 6 = .ok (.iastore, 1) := by decide +kernel
theorem dX0_tellMet_7 : decode cX0_tellMet 7 = .ok (.aload_n 0, 1) := by decide +kernel
theorem dX0_tellMet_8 : decode cX0_tellMet 8 = .ok (.iconst 1, 1) := by decide +kernel
theorem dX0_tellMet_9 : decode cX0_tellMet 9 = .ok (.putfield 43, 3) := by decide +kernel
theorem dX0_tellMet_12 : decode cX0_tellMet 12 = .ok (.return_, 1) := by decide +kernel
theorem dX0_tellNoSpan_0 : decode cX0_tellNoSpan 0 = .ok (.aload_n 0, 1) := by decide +kernel
theorem dX0_tellNoSpan_1 : decode cX0_tellNoSpan 1 = .ok (.getfield 39, 3) := by decide +kernel
theorem dX0_tellNoSpan_4 : decode cX0_tellNoSpan 4 = .ok (.iconst 0, 1) := by decide +kernel
theorem dX0_tellNoSpan_5 : decode cX0_tellNoSpan 5 = .ok (.iconst 1, 1) := by decide +kernel
theorem dX0_tellNoSpan_6 : decode cX0_tellNoSpan 6 = .ok (.iastore, 1) := by decide +kernel
theorem dX0_tellNoSpan_7 : decode cX0_tellNoSpan 7 = .ok (.aload_n 0, 1) := by decide +kernel
theorem dX0_tellNoSpan_8 : decode cX0_tellNoSpan 8 = .ok (.iconst 1, 1) := by decide +kernel
theorem dX0_tellNoSpan_9 : decode cX0_tellNoSpan 9 = .ok (.putfield 43, 3) := by decide +kernel
theorem dX0_tellNoSpan_12 : decode cX0_tellNoSpan 12 = .ok (.iconst 0, 1) := by decide +kernel
theorem dX0_tellNoSpan_13 : decode cX0_tellNoSpan 13 = .ok (.istore_n 1, 1) := by decide +kernel
theorem dX0_tellNoSpan_14 : decode cX0_tellNoSpan 14 = .ok (.iload_n 1, 1) := by decide +kernel
theorem dX0_tellNoSpan_15 : decode cX0_tellNoSpan 15 = .ok (.aload_n 0, 1) := by decide +kernel
theorem dX0_tellNoSpan_16 : decode cX0_tellNoSpan 16 = .ok (.getfield 56, 3) := by decide +kernel
theorem dX0_tellNoSpan_19 : decode cX0_tellNoSpan 19 = .ok (.if_icmp .ge 44, 3) := by decide +kernel
theorem dX0_tellNoSpan_22 : decode cX0_tellNoSpan 22 = .ok (.aload_n 0, 1) := by decide +kernel
theorem dX0_tellNoSpan_23 : decode cX0_tellNoSpan 23 = .ok (.getfield 43, 3) := by decide +kernel
theorem dX0_tellNoSpan_26 : decode cX0_tellNoSpan 26 = .ok (.iconst 1, 1) := by decide +kernel
theorem dX0_tellNoSpan_27 : decode cX0_tellNoSpan 27 = .ok (.if_icmp .ne 36, 3) := by decide +kernel
theorem dX0_tellNoSpan_30 : decode cX0_tellNoSpan 30 = .ok (.aload_n 0, 1) := by decide +kernel
theorem dX0_tellNoSpan_31 : decode cX0_tellNoSpan 31 = .ok (.getfield 35, 3) := by decide +kernel
theorem dX0_tellNoSpan_34 : decode cX0_tellNoSpan 34 = .ok (.iload_n 1, 1) := by decide +kernel
theorem dX0_tellNoSpan_35 : decode cX0_tellNoSpan 35 = .ok (.aaload, 1) := by decide +kernel
theorem dX0_tellNoSpan_36 : decode cX0_tellNoSpan 36 = .ok (.getfield 100, 3) := by decide +kernel
theorem dX0_tellNoSpan_39 : decode cX0_tellNoSpan 39 = .ok (.ifCond .eq 18, 3) := by decide +kernel
theorem dX0_tellNoSpan_42 : decode cX0_tellNoSpan 42 = .ok (.aload_n 0, 1) := by decide +kernel
theorem dX0_tellNoSpan_43 : decode cX0_tellNoSpan 43 = .ok (.getfield 39, 3) := by decide +kernel
theorem dX0_tellNoSpan_46 : decode cX0_tellNoSpan 46 = .ok (.iconst 1, 1) := by decide +kernel
theorem dX0_tellNoSpan_47 : decode cX0_tellNoSpan 47 = .ok (.bipush 10, 2) := by decide +kernel
theorem dX0_tellNoSpan_49 : decode cX0_tellNoSpan 49 = .ok (.iload_n 1, 1) := by decide +kernel
theorem dX0_tellNoSpan_50 : decode cX0_tellNoSpan 50 = .ok (.iadd, 1) := by decide +kernel
theorem dX0_tellNoSpan_51 : decode cX0_tellNoSpan 51 = .ok (.iastore, 1) := by decide +kernel
theorem dX0_tellNoSpan_52 : decode cX0_tellNoSpan 52 = .ok (.aload_n 0, 1) := by decide +kernel
theorem dX0_tellNoSpan_53 : decode cX0_tellNoSpan 53 = .ok (.iconst 2, 1) := by decide +kernel
theorem dX0_tellNoSpan_54 : decode cX0_tellNoSpan 54 = .ok (.putfield 43, 3) := by decide +kernel
theorem dX0_tellNoSpan_57 : decode cX0_tellNoSpan 57 = .ok (.iinc 1 1, 3) := by decide +kernel
theorem dX0_tellNoSpan_60 : decode cX0_tellNoSpan 60 = .ok (.goto (-46), 3) := by decide +kernel
theorem dX0_tellNoSpan_63 : decode cX0_tellNoSpan 63 = .ok (.return_, 1) := by decide +kernel
theorem dX0_tellLimited_0 : decode cX0_tellLimited 0 = .ok (.aload_n 0, 1) := by decide +kernel
theorem dX0_tellLimited_1 : decode cX0_tellLimited 1 = .ok (.getfield 39, 3) := by decide +kernel
theorem dX0_tellLimited_4 : decode cX0_tellLimited 4 = .ok (.iconst 0, 1) := by decide +kernel
theorem dX0_tellLimited_5 : decode cX0_tellLimited 5 = .ok (.iconst 2, 1) := by decide +kernel
theorem dX0_tellLimited_6 : decode cX0_tellLimited 6 = .ok (.iastore, 1) := by decide +kernel
theorem dX0_tellLimited_7 : decode cX0_tellLimited 7 = .ok (.aload_n 0, 1) := by decide +kernel
theorem dX0_tellLimited_8 : decode cX0_tellLimited 8 = .ok (.getfield 39, 3) := by decide +kernel
theorem dX0_tellLimited_11 : decode cX0_tellLimited 11 = .ok (.iconst 1, 1) := by decide +kernel
theorem dX0_tellLimited_12 : decode cX0_tellLimited 12 = .ok (.bipush 20, 2) := by decide +kernel
theorem dX0_tellLimited_14 : decode cX0_tellLimited 14 = .ok (.iload_n 1, 1) := by decide +kernel
theorem dX0_tellLimited_15 : decode cX0_tellLimited 15 = .ok (.iadd, 1) := by decide +kernel
theorem dX0_tellLimited_16 : decode cX0_tellLimited 16 = .ok (.iastore, 1) := by decide +kernel
theorem dX0_tellLimited_17 : decode cX0_tellLimited 17 = .ok (.aload_n 0, 1) := by decide +kernel
theorem dX0_tellLimited_18 : decode cX0_tellLimited 18 = .ok (.getfield 39, 3) := by decide +kernel
theorem dX0_tellLimited_21 : decode cX0_tellLimited 21 = .ok (.iconst 2, 1) := by decide +kernel
theorem dX0_tellLimited_22 : decode cX0_tellLimited 22 = .ok (.iload_n 2, 1) := by decide +kernel
theorem dX0_tellLimited_23 : decode cX0_tellLimited 23 = .ok (.ifCond .eq 7, 3) := by decide +kernel
theorem dX0_tellLimited_26 : decode cX0_tellLimited 26 = .ok (.iconst 4, 1) := by decide +kernel
theorem dX0_tellLimited_27 : decode cX0_tellLimited 27 = .ok (.goto 4, 3) := by decide +kernel
theorem dX0_tellLimited_30 : decode cX0_tellLimited 30 = .ok (.iconst 3, 1) := by decide +kernel
theorem dX0_tellLimited_31 : decode cX0_tellLimited 31 = .ok (.iastore, 1) := by decide +kernel
theorem dX0_tellLimited_32 : decode cX0_tellLimited 32 = .ok (.aload_n 0, 1) := by decide +kernel
theorem dX0_tellLimited_33 : decode cX0_tellLimited 33 = .ok (.iconst 3, 1) := by decide +kernel
theorem dX0_tellLimited_34 : decode cX0_tellLimited 34 = .ok (.putfield 43, 3) := by decide +kernel
theorem dX0_tellLimited_37 : decode cX0_tellLimited 37 = .ok (.return_, 1) := by decide +kernel
