theorem dX6_shares_39 : decode cX6_shares 39 = .ok (.aload_n 0, 1) := by decide +kernel
theorem dX6_shares_40 : decode cX6_shares 40 = .ok (.getfield 114, 3) := by decide +kernel
theorem dX6_shares_43 : decode cX6_shares 43 = .ok (.lconst 0, 1) := by decide +kernel
theorem dX6_shares_44 : decode cX6_shares 44 = .ok (.lcmp, 1) := by decide +kernel
theorem dX6_shares_45 : decode cX6_shares 45 = .ok (.ifCond .ne 68, 3) := by decide +kernel
theorem dX6_shares_48 : decode cX6_shares 48 = .ok (.aload_n 0, 1) := by decide +kernel
theorem dX6_shares_49 : decode cX6_shares 49 = .ok (.lconst 1, 1) := by decide +kernel
theorem dX6_shares_50 : decode cX6_shares 50 = .ok (.ldc2_w 51, 3) := by decide +kernel
theorem dX6_shares_53 : decode cX6_shares 53 = .ok (.ldc2_w 51, 3) := by decide +kernel
theorem dX6_shares_56 : decode cX6_shares 56 = .ok (.invokevirtual 53, 3) := by decide +kernel
theorem dX6_shares_59 : decode cX6_shares 59 = .ok (.aload_n 0, 1) := by decide +kernel
theorem dX6_shares_60 : decode cX6_shares 60 = .ok (.getfield 7, 3) := by decide +kernel
theorem dX6_shares_63 : decode cX6_shares 63 = .ok (.bipush 6, 2) := by decide +kernel
theorem dX6_shares_65 : decode cX6_shares 65 = .ok (.laload, 1) := by decide +kernel
theorem dX6_shares_66 : decode cX6_shares 66 = .ok (.l2i, 1) := by decide +kernel
theorem dX6_shares_67 : decode cX6_shares 67 = .ok (.iconst 1, 1) := by decide +kernel
theorem dX6_shares_68 : decode cX6_shares 68 = .ok (.isub, 1) := by decide +kernel
theorem dX6_shares_69 : decode cX6_shares 69 = .ok (.istore_n 1, 1) := by decide +kernel
theorem dX6_shares_70 : decode cX6_shares 70 = .ok (.iload_n 1, 1) := by decide +kernel
theorem dX6_shares_71 : decode cX6_shares 71 = .ok (.ifCond .lt 40, 3) := by decide +kernel
theorem dX6_shares_74 : decode cX6_shares 74 = .ok (.aload_n 0, 1) := by decide +kernel
theorem dX6_shares_75 : decode cX6_shares 75 = .ok (.getfield 7, 3) := by decide +kernel
theorem dX6_shares_78 : decode cX6_shares 78 = .ok (.bipush 9, 2) := by decide +kernel
theorem dX6_shares_80 : decode cX6_shares 80 = .ok (.aload_n 0, 1) := by decide +kernel
theorem dX6_shares_81 : decode cX6_shares 81 = .ok (.iload_n 1, 1) := by decide +kernel
theorem dX6_shares_82 : decode cX6_shares 82 = .ok (.invokevirtual 108, 3) := by decide +kernel
theorem dX6_shares_85 : decode cX6_shares 85 = .ok (.ifCond .eq 13, 3) := by decide +kernel
theorem dX6_shares_88 : decode cX6_shares 88 = .ok (.aload_n 0, 1) := by decide +kernel
theorem dX6_shares_89 : decode cX6_shares 89 = .ok (.getfield 7, 3) := by decide +kernel
theorem dX6_shares_92 : decode cX6_shares 92 = .ok (.bipush 9, 2) := by decide +kernel
theorem dX6_shares_94 : decode cX6_shares 94 = .ok (.laload, 1) := by decide +kernel
theorem dX6_shares_95 : decode cX6_shares 95 = .ok (.goto 9, 3) := by decide +kernel
theorem dX6_shares_98 : decode cX6_shares 98 = .ok (.ldc2_w 37, 3) := by decide +kernel
theorem dX6_shares_101 : decode cX6_shares 101 = .ok (.iload_n 1, 1) := by decide +kernel
theorem dX6_shares_102 : decode cX6_shares 102 = .ok (.i2l, 1) := by decide +kernel
theorem dX6_shares_103 : decode cX6_shares 103 = .ok (.ladd, 1) := by decide +kernel
theorem dX6_shares_104 : decode cX6_shares 104 = .ok (.lastore, 1) := by decide +kernel
theorem dX6_shares_105 : decode cX6_shares 105 = .ok (.iinc 1 (-1), 3) := by decide +kernel
theorem dX6_shares_108 : decode cX6_shares 108 = .ok (.goto (-38), 3) := by decide +kernel
theorem dX6_shares_111 : decode cX6_shares 111 = .ok (.iconst 0, 1) := by decide +kernel
theorem dX6_shares_112 : decode cX6_shares 112 = .ok (.ireturn, 1) := by decide +kernel
theorem dX6_shares_113 : decode cX6_shares 113 = .ok (.aload_n 0, 1) := by decide +kernel
theorem dX6_shares_114 : decode cX6_shares 114 = .ok (.lconst 0, 1) := by decide +kernel
theorem dX6_shares_115 : decode cX6_shares 115 = .ok (.ldc2_w 51, 3) := by decide +kernel
theorem dX6_shares_118 : decode cX6_shares 118 = .ok (.ldc2_w 51, 3) := by decide +kernel
theorem dX6_shares_121 : decode cX6_shares 121 = .ok (.invokevirtual 53, 3) := by decide +kernel
theorem dX6_shares_124 : decode cX6_shares 124 = .ok (.iconst 0, 1) := by decide +kernel
theorem dX6_shares_125 : decode cX6_shares 125 = .ok (.istore_n 1, 1) := by decide +kernel
theorem dX6_shares_126 : decode cX6_shares 126 = .ok (.iload_n 1, 1) := by decide +kernel
theorem dX6_shares_127 : decode cX6_shares 127 = .ok (.i2l, 1) := by decide +kernel
theorem dX6_shares_128 : decode cX6_shares 128 = .ok (.aload_n 0, 1) := by decide +kernel
theorem dX6_shares_129 : decode cX6_shares 129 = .ok (.getfield 7, 3) := by decide +kernel
theorem dX6_shares_132 : decode cX6_shares 132 = .ok (.bipush 6, 2) := by decide +kernel
theorem dX6_shares_134 : decode cX6_shares 134 = .ok (.laload, 1) := by decide +kernel
theorem dX6_shares_135 : decode cX6_shares 135 = .ok (.lcmp, 1) := by decide +kernel
theorem dX6_shares_136 : decode cX6_shares 136 = .ok (.ifCond .ge 122, 3) := by decide +kernel
theorem dX6_shares_139 : decode cX6_shares 139 = .ok (.aload_n 0, 1) := by decide +kernel
theorem dX6_shares_140 : decode cX6_shares 140 = .ok (.iload_n 1, 1) := by decide +kernel
theorem dX6_shares_141 : decode cX6_shares 141 = .ok (.invokevirtual 108, 3) := by decide +kernel
theorem dX6_shares_144 : decode cX6_shares 144 = .ok (.ifCond .eq 108, 3) := by decide +kernel
theorem dX6_shares_147 : decode cX6_shares 147 = .ok (.aload_n 0, 1) := by decide +kernel
theorem dX6_shares_148 : decode cX6_shares 148 = .ok (.iload_n 1, 1) := by decide +kernel
theorem dX6_shares_149 : decode cX6_shares 149 = .ok (.aload_n 0, 1) := by decide +kernel
theorem dX6_shares_150 : decode cX6_shares 150 = .ok (.getfield 25, 3) := by decide +kernel
theorem dX6_shares_153 : decode cX6_shares 153 = .ok (.iconst 0, 1) := by decide +kernel
theorem dX6_shares_154 : decode cX6_shares 154 = .ok (.laload, 1) := by decide +kernel
theorem dX6_shares_155 : decode cX6_shares 155 = .ok (.aload_n 0, 1) := by decide +kernel
theorem dX6_shares_156 : decode cX6_shares 156 = .ok (.getfield 25, 3) := by decide +kernel
theorem dX6_shares_159 : decode cX6_shares 159 = .ok (.iconst 1, 1) := by decide +kernel
theorem dX6_shares_160 : decode cX6_shares 160 = .ok (.laload, 1) := by decide +kernel
theorem dX6_shares_161 : decode cX6_shares 161 = .ok (.aload_n 0, 1) := by decide +kernel
theorem dX6_shares_162 : decode cX6_shares 162 = .ok (.getfield 25, 3) := by decide +kernel
theorem dX6_shares_165 : decode cX6_shares 165 = .ok (.iconst 2, 1) := by decide +kernel
theorem dX6_shares_166 : decode cX6_shares 166 = .ok (.laload, 1) := by decide +kernel
theorem dX6_shares_167 : decode cX6_shares 167 = .ok (.invokevirtual 126, 3) := by decide +kernel
theorem dX6_shares_170 : decode cX6_shares 170 = .ok (.lstore_n 2, 1) := by decide +kernel
theorem dX6_shares_171 : decode cX6_shares 171 = .ok (.lload_n 2, 1) := by decide +kernel
theorem dX6_shares_172 : decode cX6_shares 172 = .ok (.aload_n 0, 1) := by decide +kernel
theorem dX6_shares_173 : decode cX6_shares 173 = .ok (.getfield 7, 3) := by decide +kernel
theorem dX6_shares_176 : decode cX6_shares 176 = .ok (.iload_n 1, 1) := by decide +kernel
theorem dX6_shares_177 : decode cX6_shares 177 = .ok (.iconst 5, 1) := by decide +kernel
theorem dX6_shares_178 : decode cX6_shares 178 = .ok (.invokestatic 71, 3) := by decide +kernel
theorem dX6_shares_181 : decode cX6_shares 181 = .ok (.laload, 1) := by decide +kernel
theorem dX6_shares_182 : decode cX6_shares 182 = .ok (.invokestatic 130, 3) := by decide +kernel
theorem dX6_shares_185 : decode cX6_shares 185 = .ok (.lstore 4, 2) := by decide +kernel
theorem dX6_shares_187 : decode cX6_shares 187 = .ok (.aload_n 0, 1) := by decide +kernel
theorem dX6_shares_188 : decode cX6_shares 188 = .ok (.iload_n 1, 1) := by decide +kernel
theorem dX6_shares_189 : decode cX6_shares 189 = .ok (.lload 4, 2) := by decide +kernel
theorem dX6_shares_191 : decode cX6_shares 191 = .ok (.invokevirtual 133, 3) := by decide +kernel
theorem dX6_shares_194 : decode cX6_shares 194 = .ok (.lstore 6, 2) := by decide +kernel
theorem dX6_shares_196 : decode cX6_shares 196 = .ok (.lload 6, 2) := by decide +kernel
theorem dX6_shares_198 : decode cX6_shares 198 = .ok (.lload_n 2, 1) := by decide +kernel
theorem dX6_shares_199 : decode cX6_shares 199 = .ok (.lcmp, 1) := by decide +kernel
theorem dX6_shares_200 : decode cX6_shares 200 = .ok (.ifCond .eq 45, 3) := by decide +kernel
theorem dX6_shares_203 : decode cX6_shares 203 = .ok (.aload_n 0, 1) := by decide +kernel
theorem dX6_shares_204 : decode cX6_shares 204 = .ok (.getfield 7, 3) := by decide +kernel
theorem dX6_shares_207 : decode cX6_shares 207 = .ok (.bipush 8, 2) := by decide +kernel
theorem dX6_shares_209 : decode cX6_shares 209 = .ok (.laload, 1) := by decide +kernel
theorem dX6_shares_210 : decode cX6_shares 210 = .ok (.lconst 0, 1) := by decide +kernel
theorem dX6_shares_211 : decode cX6_shares 211 = .ok (.lcmp, 1) := by decide +kernel
theorem dX6_shares_212 : decode cX6_shares 212 = .ok (.ifCond .ne 33, 3) := by decide +kernel
theorem dX6_shares_215 : decode cX6_shares 215 = .ok (.aload_n 0, 1) := by decide +kernel
theorem dX6_shares_216 : decode cX6_shares 216 = .ok (.ldc2_w 61, 3) := by decide +kernel
theorem dX6_shares_219 : decode cX6_shares 219 = .ok (.ldc2_w 137, 3) := by decide +kernel
theorem dX6_shares_222 : decode cX6_shares 222 = .ok (.iload_n 1, 1) := by decide +kernel
theorem dX6_shares_223 : decode cX6_shares 223 = .ok (.i2l, 1) := by decide +kernel
theorem dX6_shares_224 : decode cX6_shares 224 = .ok (.ladd, 1) := by decide +kernel
theorem dX6_shares_225 : decode cX6_shares 225 = .ok (.lload 6, 2) := by decide +kernel
theorem dX6_shares_227 : decode cX6_shares 227 = .ok (.lload 4, 2) := by decide +kernel
theorem dX6_shares_229 : decode cX6_shares 229 = .ok (.lcmp, 1) := by decide +kernel
theorem dX6_shares_230 : decode cX6_shares 230 = .ok (.ifCond .ne 9, 3) := by decide +kernel
theorem dX6_shares_233 : decode cX6_shares 233 = .ok (.ldc2_w 139, 3) := by decide +kernel
theorem dX6_shares_236 : decode cX6_shares 236 = .ok (.goto 6, 3) := by decide +kernel
theorem dX6_shares_239 : decode cX6_shares 239 = .ok (.ldc2_w 141, 3) := by decide +kernel
theorem dX6_shares_242 : decode cX6_shares 242 = .ok (.invokevirtual 53, 3) := by decide +kernel
theorem dX6_shares_245 : decode cX6_shares 245 = .ok (.aload_n 0, 1) := by decide +kernel
theorem dX6_shares_246 : decode cX6_shares 246 = .ok (.iload_n 1, 1) := by decide +kernel
theorem dX6_shares_247 : decode cX6_shares 247 = .ok (.lload 6, 2) := by decide +kernel
theorem dX6_shares_249 : decode cX6_shares 249 = .ok (.invokevirtual 143, 3) := by decide +kernel
theorem dX6_shares_252 : decode cX6_shares 252 = .ok (.iinc 1 1, 3) := by decide +kernel
theorem dX6_shares_255 : decode cX6_shares 255 = .ok (.goto (-129), 3) := by decide +kernel
theorem dX6_shares_258 : decode cX6_shares 258 = .ok (.aload_n 0, 1) := by decide +kernel
theorem dX6_shares_259 : decode cX6_shares 259 = .ok (.getfield 7, 3) := by decide +kernel
theorem dX6_shares_262 : decode cX6_shares 262 = .ok (.bipush 8, 2) := by decide +kernel
theorem dX6_shares_264 : decode cX6_shares 264 = .ok (.laload, 1) := by decide +kernel
theorem dX6_shares_265 : decode cX6_shares 265 = .ok (.lconst 0, 1) := by decide +kernel
theorem dX6_shares_266 : decode cX6_shares 266 = .ok (.lcmp, 1) := by decide +kernel
theorem dX6_shares_267 : decode cX6_shares 267 = .ok (.ifCond .ne 7, 3) := by decide +kernel
theorem dX6_shares_270 : decode cX6_shares 270 = .ok (.iconst 1, 1) := by decide +kernel
theorem dX6_shares_271 : decode cX6_shares 271 = .ok (.goto 4, 3) := by decide +kernel
theorem dX6_shares_274 : decode cX6_shares 274 = .ok (.iconst 0, 1) := by decide +kernel
theorem dX6_shares_275 : decode cX6_shares 275 = .ok (.ireturn, 1) := by decide +kernel
set_option maxRecDepth 20000 in
theorem ggX6_product_X6_other : GoodIn wsX6_product wsX6_other := goodIn_r _ [4] (by decide +kernel) (by decide +kernel)
set_option maxRecDepth 20000 in
theorem gX6_product_X6_other : GoodIn wsX6_product (va_wsS RX6 111 yX6_other wsX6_other) := goodIn_app (goodIn_of _ (by decide +kernel)) ggX6_product_X6_other
theorem dX6_product_0 : decode cX6_product 0 = .ok (.aload_n 0, 1) := by decide +kernel
theorem dX6_product_1 : decode cX6_product 1 = .ok (.iload_n 2, 1) := by decide +kernel
theorem dX6_product_2 : decode cX6_product 2 = .ok (.iconst 1, 1) := by decide +kernel
theorem dX6_product_3 : decode cX6_product 3 = .ok (.invokestatic 111, 3) := by decide +kernel
theorem dX6_product_6 : decode cX6_product 6 = .ok (.laload, 1) := by decide +kernel
theorem dX6_product_7 : decode cX6_product 7 = .ok (.aload_n 1, 1) := by decide +kernel
theorem dX6_product_8 : decode cX6_product 8 = .ok (.iload_n 2, 1) := by decide +kernel
theorem dX6_product_9 : decode cX6_product 9 = .ok (.iconst 2, 1) := by decide +kernel
theorem dX6_product_10 : decode cX6_product 10 = .ok (.invokestatic 111, 3) := by decide +kernel
theorem dX6_product_13 : decode cX6_product 13 = .ok (.laload, 1) := by decide +kernel
theorem dX6_product_14 : decode cX6_product 14 = .ok (.lmul, 1) := by decide +kernel
theorem dX6_product_15 : decode cX6_product 15 = .ok (.aload_n 0, 1) := by decide +kernel
theorem dX6_product_16 : decode cX6_product 16 = .ok (.iload_n 2, 1) := by decide +kernel
theorem dX6_product_17 : decode cX6_product 17 = .ok (.iconst 2, 1) := by decide +kernel
theorem dX6_product_18 : decode cX6_product 18 = .ok (.invokestatic 111, 3) := by decide +kernel
theorem dX6_product_21 : decode cX6_product 21 = .ok (.laload, 1) := by decide +kernel
theorem dX6_product_22 : decode cX6_product 22 = .ok (.aload_n 1, 1) := by decide +kernel
theorem dX6_product_23 : decode cX6_product 23 = .ok (.iload_n 2, 1) := by decide +kernel
theorem dX6_product_24 : decode cX6_product 24 = .ok (.iconst 1, 1) := by decide +kernel
theorem dX6_product_25 : decode cX6_product 25 = .ok (.invokestatic 111, 3) := by decide +kernel
theorem dX6_product_28 : decode cX6_product 28 = .ok (.laload, 1) := by decide +kernel
theorem dX6_product_29 : decode cX6_product 29 = .ok (.lmul, 1) := by decide +kernel
theorem dX6_product_30 : decode cX6_product 30 = .ok (.lsub, 1) := by decide +kernel
theorem dX6_product_31 : decode cX6_product 31 = .ok (.lreturn, 1) := by decide +kernel
set_option maxRecDepth 20000 in
theorem ggX6_drops_X6_axisAt : GoodIn wsX6_drops wsX6_axisAt := goodIn_r _ [10] (by decide +kernel) (by decide +kernel)
set_option maxRecDepth 20000 in
theorem gX6_drops_X6_axisAt : GoodIn wsX6_drops (va_wsS RX6 45 yX6_axisAt wsX6_axisAt) := goodIn_app (goodIn_of _ (by decide +kernel)) ggX6_drops_X6_axisAt
set_option maxRecDepth 20000 in
theorem ggX6_drops_X6_wheelAt : GoodIn wsX6_drops wsX6_wheelAt := goodIn_r _ [13] (by decide +kernel) (by decide +kernel)
set_option maxRecDepth 20000 in
theorem gX6_drops_X6_wheelAt : GoodIn wsX6_drops (va_wsS RX6 71 yX6_wheelAt wsX6_wheelAt) := goodIn_app (goodIn_of _ (by decide +kernel)) ggX6_drops_X6_wheelAt
set_option maxRecDepth 20000 in
theorem ggX6_drops_X6_product : GoodIn wsX6_drops wsX6_product := goodIn_r _ [16, 17, 18, 9, 19] (by decide +kernel) (by decide +kernel)
set_option maxRecDepth 20000 in
theorem gX6_drops_X6_product : GoodIn wsX6_drops (va_wsS RX6 146 yX6_product wsX6_product) := goodIn_app (goodIn_of _ (by decide +kernel)) ggX6_drops_X6_product
set_option maxRecDepth 20000 in
theorem ggX6_drops_X6_div : GoodIn wsX6_drops wsX6_div := goodIn_r _ [22] (by decide +kernel) (by decide +kernel)
set_option maxRecDepth 20000 in
theorem gX6_drops_X6_div : GoodIn wsX6_drops (va_wsS RX6 63 yX6_div wsX6_div) := goodIn_app (goodIn_of _ (by decide +kernel)) ggX6_drops_X6_div
set_option maxRecDepth 20000 in
theorem ggX6_drops_X6_held : GoodIn wsX6_drops wsX6_held := goodIn_r _ [25] (by decide +kernel) (by decide +kernel)
set_option maxRecDepth 20000 in
theorem gX6_drops_X6_held : GoodIn wsX6_drops (va_wsS RX6 130 yX6_held wsX6_held) := goodIn_app (goodIn_of _ (by decide +kernel)) ggX6_drops_X6_held
set_option maxRecDepth 20000 in
theorem ggX6_drops_X6_pushes : GoodIn wsX6_drops wsX6_pushes := goodIn_r _ [29, 2, 7, 8, 9, 10, 30, 31, 32, 33, 34, 35, 36, 37, 38, 39, 40] (by decide +kernel) (by decide +kernel)
set_option maxRecDepth 20000 in
theorem gX6_drops_X6_pushes : GoodIn wsX6_drops (wsV RX6 100 RX6 yX6_pushes wsX6_pushes) := goodIn_app (goodIn_of _ (by decide +kernel)) ggX6_drops_X6_pushes
theorem dX6_drops_0 : decode cX6_drops 0 = .ok (.iconst 0, 1) := by decide +kernel
theorem dX6_drops_1 : decode cX6_drops 1 = .ok (.istore_n 1, 1) := by decide +kernel
theorem dX6_drops_2 : decode cX6_drops 2 = .ok (.iload_n 1, 1) := by decide +kernel
theorem dX6_drops_3 : decode cX6_drops 3 = .ok (.iconst 3, 1) := by decide +kernel
theorem dX6_drops_4 : decode cX6_drops 4 = .ok (.if_icmp .ge 83, 3) := by decide +kernel
theorem dX6_drops_7 : decode cX6_drops 7 = .ok (.aload_n 0, 1) := by decide +kernel
theorem dX6_drops_8 : decode cX6_drops 8 = .ok (.getfield 31, 3) := by decide +kernel
theorem dX6_drops_11 : decode cX6_drops 11 = .ok (.iload_n 1, 1) := by decide +kernel
theorem dX6_drops_12 : decode cX6_drops 12 = .ok (.aload_n 0, 1) := by decide +kernel
theorem dX6_drops_13 : decode cX6_drops 13 = .ok (.getfield 7, 3) := by decide +kernel
theorem dX6_drops_16 : decode cX6_drops 16 = .ok (.iload_n 1, 1) := by decide +kernel
theorem dX6_drops_17 : decode cX6_drops 17 = .ok (.iconst 4, 1) := by decide +kernel
theorem dX6_drops_18 : decode cX6_drops 18 = .ok (.invokestatic 45, 3) := by decide +kernel
theorem dX6_drops_21 : decode cX6_drops 21 = .ok (.laload, 1) := by decide +kernel
theorem dX6_drops_22 : decode cX6_drops 22 = .ok (.lastore, 1) := by decide +kernel
theorem dX6_drops_23 : decode cX6_drops 23 = .ok (.aload_n 0, 1) := by decide +kernel
theorem dX6_drops_24 : decode cX6_drops 24 = .ok (.getfield 28, 3) := by decide +kernel
theorem dX6_drops_27 : decode cX6_drops 27 = .ok (.iload_n 1, 1) := by decide +kernel
theorem dX6_drops_28 : decode cX6_drops 28 = .ok (.lconst 0, 1) := by decide +kernel
theorem dX6_drops_29 : decode cX6_drops 29 = .ok (.lastore, 1) := by decide +kernel
theorem dX6_drops_30 : decode cX6_drops 30 = .ok (.iconst 0, 1) := by decide +kernel
theorem dX6_drops_31 : decode cX6_drops 31 = .ok (.istore_n 2, 1) := by decide +kernel
theorem dX6_drops_32 : decode cX6_drops 32 = .ok (.iload_n 2, 1) := by decide +kernel
theorem dX6_drops_33 : decode cX6_drops 33 = .ok (.i2l, 1) := by decide +kernel
theorem dX6_drops_34 : decode cX6_drops 34 = .ok (.aload_n 0, 1) := by decide +kernel
theorem dX6_drops_35 : decode cX6_drops 35 = .ok (.getfield 7, 3) := by decide +kernel
theorem dX6_drops_38 : decode cX6_drops 38 = .ok (.bipush 6, 2) := by decide +kernel
theorem dX6_drops_40 : decode cX6_drops 40 = .ok (.laload, 1) := by decide +kernel
theorem dX6_drops_41 : decode cX6_drops 41 = .ok (.lcmp, 1) := by decide +kernel
theorem dX6_drops_42 : decode cX6_drops 42 = .ok (.ifCond .ge 39, 3) := by decide +kernel
theorem dX6_drops_45 : decode cX6_drops 45 = .ok (.aload_n 0, 1) := by decide +kernel
theorem dX6_drops_46 : decode cX6_drops 46 = .ok (.getfield 28, 3) := by decide +kernel
theorem dX6_drops_49 : decode cX6_drops 49 = .ok (.iload_n 1, 1) := by decide +kernel
theorem dX6_drops_50 : decode cX6_drops 50 = .ok (.dup2, 1) := by decide +kernel
theorem dX6_drops_51 : decode cX6_drops 51 = .ok (.laload, 1) := by decide +kernel
theorem dX6_drops_52 : decode cX6_drops 52 = .ok (.aload_n 0, 1) := by decide +kernel
theorem dX6_drops_53 : decode cX6_drops 53 = .ok (.getfield 7, 3) := by decide +kernel
theorem dX6_drops_56 : decode cX6_drops 56 = .ok (.iload_n 2, 1) := by decide +kernel
theorem dX6_drops_57 : decode cX6_drops 57 = .ok (.iload_n 1, 1) := by decide +kernel
theorem dX6_drops_58 : decode cX6_drops 58 = .ok (.invokestatic 71, 3) := by decide +kernel
theorem dX6_drops_61 : decode cX6_drops 61 = .ok (.laload, 1) := by decide +kernel
theorem dX6_drops_62 : decode cX6_drops 62 = .ok (.aload_n 0, 1) := by decide +kernel
theorem dX6_drops_63 : decode cX6_drops 63 = .ok (.getfield 7, 3) := by decide +kernel
theorem dX6_drops_66 : decode cX6_drops 66 = .ok (.iload_n 2, 1) := by decide +kernel
theorem dX6_drops_67 : decode cX6_drops 67 = .ok (.iconst 3, 1) := by decide +kernel
theorem dX6_drops_68 : decode cX6_drops 68 = .ok (.invokestatic 71, 3) := by decide +kernel
theorem dX6_drops_71 : decode cX6_drops 71 = .ok (.laload, 1) := by decide +kernel
theorem dX6_drops_72 : decode cX6_drops 72 = .ok (.lmul, 1) := by decide +kernel
theorem dX6_drops_73 : decode cX6_drops 73 = .ok (.ladd, 1) := by decide +kernel
theorem dX6_drops_74 : decode cX6_drops 74 = .ok (.lastore, 1) := by decide +kernel
theorem dX6_drops_75 : decode cX6_drops 75 = .ok (.iinc 2 1, 3) := by decide +kernel
theorem dX6_drops_78 : decode cX6_drops 78 = .ok (.goto (-46), 3) := by decide +kernel
theorem dX6_drops_81 : decode cX6_drops 81 = .ok (.iinc 1 1, 3) := by decide +kernel
theorem dX6_drops_84 : decode cX6_drops 84 = .ok (.goto (-82), 3) := by decide +kernel
theorem dX6_drops_87 : decode cX6_drops 87 = .ok (.iconst 0, 1) := by decide +kernel
theorem dX6_drops_88 : decode cX6_drops 88 = .ok (.istore_n 1, 1) := by decide +kernel
theorem dX6_drops_89 : decode cX6_drops 89 = .ok (.iload_n 1, 1) := by decide +kernel
theorem dX6_drops_90 : decode cX6_drops 90 = .ok (.iconst 3, 1) := by decide +kernel
theorem dX6_drops_91 : decode cX6_drops 91 = .ok (.if_icmp .ge 42, 3) := by decide +kernel
theorem dX6_drops_94 : decode cX6_drops 94 = .ok (.aload_n 0, 1) := by decide +kernel
theorem dX6_drops_95 : decode cX6_drops 95 = .ok (.getfield 34, 3) := by decide +kernel
theorem dX6_drops_98 : decode cX6_drops 98 = .ok (.iload_n 1, 1) := by decide +kernel
theorem dX6_drops_99 : decode cX6_drops 99 = .ok (.aload_n 0, 1) := by decide +kernel
theorem dX6_drops_100 : decode cX6_drops 100 = .ok (.getfield 28, 3) := by decide +kernel
theorem dX6_drops_103 : decode cX6_drops 103 = .ok (.aload_n 0, 1) := by decide +kernel
theorem dX6_drops_104 : decode cX6_drops 104 = .ok (.getfield 31, 3) := by decide +kernel
theorem dX6_drops_107 : decode cX6_drops 107 = .ok (.iload_n 1, 1) := by decide +kernel
theorem dX6_drops_108 : decode cX6_drops 108 = .ok (.invokestatic 146, 3) := by decide +kernel
theorem dX6_drops_111 : decode cX6_drops 111 = .ok (.ldc2_w 150, 3) := by decide +kernel
theorem dX6_drops_114 : decode cX6_drops 114 = .ok (.invokestatic 63, 3) := by decide +kernel
theorem dX6_drops_117 : decode cX6_drops 117 = .ok (.aload_n 0, 1) := by decide +kernel
theorem dX6_drops_118 : decode cX6_drops 118 = .ok (.getfield 7, 3) := by decide +kernel
theorem dX6_drops_121 : decode cX6_drops 121 = .ok (.iconst 4, 1) := by decide +kernel
theorem dX6_drops_122 : decode cX6_drops 122 = .ok (.laload, 1) := by decide +kernel
theorem dX6_drops_123 : decode cX6_drops 123 = .ok (.invokestatic 130, 3) := by decide +kernel
theorem dX6_drops_126 : decode cX6_drops 126 = .ok (.lastore, 1) := by decide +kernel
theorem dX6_drops_127 : decode cX6_drops 127 = .ok (.iinc 1 1, 3) := by decide +kernel
theorem dX6_drops_130 : decode cX6_drops 130 = .ok (.goto (-41), 3) := by decide +kernel
theorem dX6_drops_133 : decode cX6_drops 133 = .ok (.iconst 0, 1) := by decide +kernel
theorem dX6_drops_134 : decode cX6_drops 134 = .ok (.istore_n 1, 1) := by decide +kernel
theorem dX6_drops_135 : decode cX6_drops 135 = .ok (.iload_n 1, 1) := by decide +kernel
theorem dX6_drops_136 : decode cX6_drops 136 = .ok (.iconst 3, 1) := by decide +kernel
theorem dX6_drops_137 : decode cX6_drops 137 = .ok (.if_icmp .ge 43, 3) := by decide +kernel
theorem dX6_drops_140 : decode cX6_drops 140 = .ok (.aload_n 0, 1) := by decide +kernel
theorem dX6_drops_141 : decode cX6_drops 141 = .ok (.iload_n 1, 1) := by decide +kernel
theorem dX6_drops_142 : decode cX6_drops 142 = .ok (.aload_n 0, 1) := by decide +kernel
theorem dX6_drops_143 : decode cX6_drops 143 = .ok (.getfield 34, 3) := by decide +kernel
theorem dX6_drops_146 : decode cX6_drops 146 = .ok (.aload_n 0, 1) := by decide +kernel
theorem dX6_drops_147 : decode cX6_drops 147 = .ok (.getfield 31, 3) := by decide +kernel
theorem dX6_drops_150 : decode cX6_drops 150 = .ok (.iload_n 1, 1) := by decide +kernel
theorem dX6_drops_151 : decode cX6_drops 151 = .ok (.invokestatic 146, 3) := by decide +kernel
theorem dX6_drops_154 : decode cX6_drops 154 = .ok (.ldc2_w 49, 3) := by decide +kernel
theorem dX6_drops_157 : decode cX6_drops 157 = .ok (.invokestatic 63, 3) := by decide +kernel
theorem dX6_drops_160 : decode cX6_drops 160 = .ok (.aload_n 0, 1) := by decide +kernel
theorem dX6_drops_161 : decode cX6_drops 161 = .ok (.getfield 7, 3) := by decide +kernel
theorem dX6_drops_164 : decode cX6_drops 164 = .ok (.iload_n 1, 1) := by decide +kernel
theorem dX6_drops_165 : decode cX6_drops 165 = .ok (.iconst 5, 1) := by decide +kernel
theorem dX6_drops_166 : decode cX6_drops 166 = .ok (.invokestatic 45, 3) := by decide +kernel
theorem dX6_drops_169 : decode cX6_drops 169 = .ok (.laload, 1) := by decide +kernel
theorem dX6_drops_170 : decode cX6_drops 170 = .ok (.ladd, 1) := by decide +kernel
theorem dX6_drops_171 : decode cX6_drops 171 = .ok (.invokevirtual 100, 3) := by decide +kernel
theorem dX6_drops_174 : decode cX6_drops 174 = .ok (.iinc 1 1, 3) := by decide +kernel
theorem dX6_drops_177 : decode cX6_drops 177 = .ok (.goto (-42), 3) := by decide +kernel
theorem dX6_drops_180 : decode cX6_drops 180 = .ok (.return_, 1) := by decide +kernel
set_option maxRecDepth 20000 in
theorem ggX6_passes_X6_axisAt : GoodIn wsX6_passes wsX6_axisAt := goodIn_r _ [7] (by decide +kernel) (by decide +kernel)
set_option maxRecDepth 20000 in
theorem gX6_passes_X6_axisAt : GoodIn wsX6_passes (va_wsS RX6 45 yX6_axisAt wsX6_axisAt) := goodIn_app (goodIn_of _ (by decide +kernel)) ggX6_passes_X6_axisAt
set_option maxRecDepth 20000 in
theorem ggX6_passes_X6_div : GoodIn wsX6_passes wsX6_div := goodIn_r _ [10] (by decide +kernel) (by decide +kernel)
set_option maxRecDepth 20000 in
theorem gX6_passes_X6_div : GoodIn wsX6_passes (va_wsS RX6 63 yX6_div wsX6_div) := goodIn_app (goodIn_of _ (by decide +kernel)) ggX6_passes_X6_div
set_option maxRecDepth 20000 in
theorem ggX6_passes_X6_held : GoodIn wsX6_passes wsX6_held := goodIn_r _ [13] (by decide +kernel) (by decide +kernel)
set_option maxRecDepth 20000 in
theorem gX6_passes_X6_held : GoodIn wsX6_passes (va_wsS RX6 130 yX6_held wsX6_held) := goodIn_app (goodIn_of _ (by decide +kernel)) ggX6_passes_X6_held
set_option maxRecDepth 20000 in
theorem ggX6_passes_X6_rate : GoodIn wsX6_passes wsX6_rate := goodIn_r _ [17, 1, 4, 5, 6, 7, 8, 9, 10, 80, 81, 82, 83, 84, 85, 86, 87, 88, 89, 90] (by decide +kernel) (by decide +kernel)
set_option maxRecDepth 20000 in
theorem gX6_passes_X6_rate : GoodIn wsX6_passes (wsV RX6 104 RX6 yX6_rate wsX6_rate) := goodIn_app (goodIn_of _ (by decide +kernel)) ggX6_passes_X6_rate
set_option maxRecDepth 20000 in
theorem ggX6_passes_X6_shares : GoodIn wsX6_passes wsX6_shares := goodIn_r _ [21, 22, 1, 23, 24, 25, 3, 26, 27, 28, 29, 30, 31, 32, 6, 33, 34, 35, 36, 37, 38, 39, 40, 41, 42, 43, 44, 45, 46, 47, 48, 49, 50, 51, 52, 53, 54, 55, 56, 8, 9, 10, 11, 12, 13, 57, 58, 59, 60, 61, 62, 63, 64, 4, 5, 7, 80, 81, 82, 83, 84, 85, 86, 87, 88, 89, 90] (by decide +kernel) (by decide +kernel)
set_option maxRecDepth 20000 in
theorem gX6_passes_X6_shares : GoodIn wsX6_passes (wsV RX6 152 RX6 yX6_shares wsX6_shares) := goodIn_app (goodIn_of _ (by decide +kernel)) ggX6_passes_X6_shares
set_option maxRecDepth 20000 in
theorem ggX6_passes_X6_drops : GoodIn wsX6_passes wsX6_drops := goodIn_r _ [68, 69, 1, 70, 71, 72, 2, 4, 5, 6, 7, 40, 41, 42, 73, 74, 75, 43, 44, 45, 8, 9, 10, 11, 12, 13, 76, 77, 78, 79, 80, 81, 82, 83, 84, 85, 86, 87, 88, 89, 90] (by decide +kernel) (by decide +kernel)
set_option maxRecDepth 20000 in
theorem gX6_passes_X6_drops : GoodIn wsX6_passes (wsV RX6 156 RX6 yX6_drops wsX6_drops) := goodIn_app (goodIn_of _ (by decide +kernel)) ggX6_passes_X6_drops
theorem dX6_passes_0 : decode cX6_passes 0 = .ok (.aload_n 0, 1) := by decide +kernel
theorem dX6_passes_1 : decode cX6_passes 1 = .ok (.getfield 7, 3) := by decide +kernel
theorem dX6_passes_4 : decode cX6_passes 4 = .ok (.iconst 5, 1) := by decide +kernel
theorem dX6_passes_5 : decode cX6_passes 5 = .ok (.dup2, 1) := by decide +kernel
theorem dX6_passes_6 : decode cX6_passes 6 = .ok (.laload, 1) := by decide +kernel
theorem dX6_passes_7 : decode cX6_passes 7 = .ok (.lconst 1, 1) := by decide +kernel
theorem dX6_passes_8 : decode cX6_passes 8 = .ok (.ladd, 1) := by decide +kernel
theorem dX6_passes_9 : decode cX6_passes 9 = .ok (.lastore, 1) := by decide +kernel
theorem dX6_passes_10 : decode cX6_passes 10 = .ok (.iconst 0, 1) := by decide +kernel
theorem dX6_passes_11 : decode cX6_passes 11 = .ok (.istore_n 1, 1) := by decide +kernel
theorem dX6_passes_12 : decode cX6_passes 12 = .ok (.iload_n 1, 1) := by decide +kernel
theorem dX6_passes_13 : decode cX6_passes 13 = .ok (.iconst 3, 1) := by decide +kernel
theorem dX6_passes_14 : decode cX6_passes 14 = .ok (.if_icmp .ge 99, 3) := by decide +kernel
theorem dX6_passes_17 : decode cX6_passes 17 = .ok (.aload_n 0, 1) := by decide +kernel
theorem dX6_passes_18 : decode cX6_passes 18 = .ok (.getfield 7, 3) := by decide +kernel
theorem dX6_passes_21 : decode cX6_passes 21 = .ok (.iconst 0, 1) := by decide +kernel
theorem dX6_passes_22 : decode cX6_passes 22 = .ok (.laload, 1) := by decide +kernel
theorem dX6_passes_23 : decode cX6_passes 23 = .ok (.aload_n 0, 1) := by decide +kernel
theorem dX6_passes_24 : decode cX6_passes 24 = .ok (.getfield 7, 3) := by decide +kernel
theorem dX6_passes_27 : decode cX6_passes 27 = .ok (.iload_n 1, 1) := by decide +kernel
theorem dX6_passes_28 : decode cX6_passes 28 = .ok (.iconst 3, 1) := by decide +kernel
theorem dX6_passes_29 : decode cX6_passes 29 = .ok (.invokestatic 45, 3) := by decide +kernel
theorem dX6_passes_32 : decode cX6_passes 32 = .ok (.laload, 1) := by decide +kernel
theorem dX6_passes_33 : decode cX6_passes 33 = .ok (.aload_n 0, 1) := by decide +kernel
theorem dX6_passes_34 : decode cX6_passes 34 = .ok (.getfield 7, 3) := by decide +kernel
theorem dX6_passes_37 : decode cX6_passes 37 = .ok (.iload_n 1, 1) := by decide +kernel
theorem dX6_passes_38 : decode cX6_passes 38 = .ok (.iconst 0, 1) := by decide +kernel
theorem dX6_passes_39 : decode cX6_passes 39 = .ok (.invokestatic 45, 3) := by decide +kernel
theorem dX6_passes_42 : decode cX6_passes 42 = .ok (.laload, 1) := by decide +kernel
theorem dX6_passes_43 : decode cX6_passes 43 = .ok (.lsub, 1) := by decide +kernel
theorem dX6_passes_44 : decode cX6_passes 44 = .ok (.lmul, 1) := by decide +kernel
theorem dX6_passes_45 : decode cX6_passes 45 = .ok (.ldc2_w 49, 3) := by decide +kernel
theorem dX6_passes_48 : decode cX6_passes 48 = .ok (.invokestatic 63, 3) := by decide +kernel
theorem dX6_passes_51 : decode cX6_passes 51 = .ok (.aload_n 0, 1) := by decide +kernel
theorem dX6_passes_52 : decode cX6_passes 52 = .ok (.getfield 7, 3) := by decide +kernel
theorem dX6_passes_55 : decode cX6_passes 55 = .ok (.iconst 2, 1) := by decide +kernel
theorem dX6_passes_56 : decode cX6_passes 56 = .ok (.laload, 1) := by decide +kernel
theorem dX6_passes_57 : decode cX6_passes 57 = .ok (.invokestatic 130, 3) := by decide +kernel
theorem dX6_passes_60 : decode cX6_passes 60 = .ok (.lstore_n 2, 1) := by decide +kernel
theorem dX6_passes_61 : decode cX6_passes 61 = .ok (.aload_n 0, 1) := by decide +kernel
theorem dX6_passes_62 : decode cX6_passes 62 = .ok (.getfield 25, 3) := by decide +kernel
theorem dX6_passes_65 : decode cX6_passes 65 = .ok (.iload_n 1, 1) := by decide +kernel
theorem dX6_passes_66 : decode cX6_passes 66 = .ok (.aload_n 0, 1) := by decide +kernel
theorem dX6_passes_67 : decode cX6_passes 67 = .ok (.getfield 7, 3) := by decide +kernel
theorem dX6_passes_70 : decode cX6_passes 70 = .ok (.iconst 1, 1) := by decide +kernel
theorem dX6_passes_71 : decode cX6_passes 71 = .ok (.laload, 1) := by decide +kernel
theorem dX6_passes_72 : decode cX6_passes 72 = .ok (.lload_n 2, 1) := by decide +kernel
theorem dX6_passes_73 : decode cX6_passes 73 = .ok (.aload_n 0, 1) := by decide +kernel
theorem dX6_passes_74 : decode cX6_passes 74 = .ok (.iload_n 1, 1) := by decide +kernel
theorem dX6_passes_75 : decode cX6_passes 75 = .ok (.invokevirtual 104, 3) := by decide +kernel
theorem dX6_passes_78 : decode cX6_passes 78 = .ok (.lsub, 1) := by decide +kernel
theorem dX6_passes_79 : decode cX6_passes 79 = .ok (.lmul, 1) := by decide +kernel
theorem dX6_passes_80 : decode cX6_passes 80 = .ok (.aload_n 0, 1) := by decide +kernel
theorem dX6_passes_81 : decode cX6_passes 81 = .ok (.getfield 7, 3) := by decide +kernel
theorem dX6_passes_84 : decode cX6_passes 84 = .ok (.iconst 3, 1) := by decide +kernel
theorem dX6_passes_85 : decode cX6_passes 85 = .ok (.laload, 1) := by decide +kernel
theorem dX6_passes_86 : decode cX6_passes 86 = .ok (.invokestatic 130, 3) := by decide +kernel
theorem dX6_passes_89 : decode cX6_passes 89 = .ok (.lastore, 1) := by decide +kernel
theorem dX6_passes_90 : decode cX6_passes 90 = .ok (.aload_n 0, 1) := by decide +kernel
theorem dX6_passes_91 : decode cX6_passes 91 = .ok (.getfield 7, 3) := by decide +kernel
theorem dX6_passes_94 : decode cX6_passes 94 = .ok (.iload_n 1, 1) := by decide +kernel
theorem dX6_passes_95 : decode cX6_passes 95 = .ok (.bipush 7, 2) := by decide +kernel
theorem dX6_passes_97 : decode cX6_passes 97 = .ok (.invokestatic 45, 3) := by decide +kernel
theorem dX6_passes_100 : decode cX6_passes 100 = .ok (.aload_n 0, 1) := by decide +kernel
theorem dX6_passes_101 : decode cX6_passes 101 = .ok (.getfield 25, 3) := by decide +kernel
theorem dX6_passes_104 : decode cX6_passes 104 = .ok (.iload_n 1, 1) := by decide +kernel
theorem dX6_passes_105 : decode cX6_passes 105 = .ok (.laload, 1) := by decide +kernel
theorem dX6_passes_106 : decode cX6_passes 106 = .ok (.lastore, 1) := by decide +kernel
theorem dX6_passes_107 : decode cX6_passes 107 = .ok (.iinc 1 1, 3) := by decide +kernel
theorem dX6_passes_110 : decode cX6_passes 110 = .ok (.goto (-98), 3) := by decide +kernel
theorem dX6_passes_113 : decode cX6_passes 113 = .ok (.aload_n 0, 1) := by decide +kernel
theorem dX6_passes_114 : decode cX6_passes 114 = .ok (.invokevirtual 152, 3) := by decide +kernel
theorem dX6_passes_117 : decode cX6_passes 117 = .ok (.istore_n 1, 1) := by decide +kernel
theorem dX6_passes_118 : decode cX6_passes 118 = .ok (.aload_n 0, 1) := by decide +kernel
theorem dX6_passes_119 : decode cX6_passes 119 = .ok (.invokevirtual 156, 3) := by decide +kernel
theorem dX6_passes_122 : decode cX6_passes 122 = .ok (.iconst 0, 1) := by decide +kernel
theorem dX6_passes_123 : decode cX6_passes 123 = .ok (.istore_n 2, 1) := by decide +kernel
theorem dX6_passes_124 : decode cX6_passes 124 = .ok (.iload_n 2, 1) := by decide +kernel
theorem dX6_passes_125 : decode cX6_passes 125 = .ok (.iconst 3, 1) := by decide +kernel
theorem dX6_passes_126 : decode cX6_passes 126 = .ok (.if_icmp .ge 27, 3) := by decide +kernel
theorem dX6_passes_129 : decode cX6_passes 129 = .ok (.aload_n 0, 1) := by decide +kernel
theorem dX6_passes_130 : decode cX6_passes 130 = .ok (.getfield 7, 3) := by decide +kernel
theorem dX6_passes_133 : decode cX6_passes 133 = .ok (.iload_n 2, 1) := by decide +kernel
theorem dX6_passes_134 : decode cX6_passes 134 = .ok (.iconst 0, 1) := by decide +kernel
theorem dX6_passes_135 : decode cX6_passes 135 = .ok (.invokestatic 45, 3) := by decide +kernel
theorem dX6_passes_138 : decode cX6_passes 138 = .ok (.dup2, 1) := by decide +kernel
theorem dX6_passes_139 : decode cX6_passes 139 = .ok (.laload, 1) := by decide +kernel
theorem dX6_passes_140 : decode cX6_passes 140 = .ok (.aload_n 0, 1) := by decide +kernel
theorem dX6_passes_141 : decode cX6_passes 141 = .ok (.iload_n 2, 1) := by decide +kernel
theorem dX6_passes_142 : decode cX6_passes 142 = .ok (.invokevirtual 104, 3) := by decide +kernel
theorem dX6_passes_145 : decode cX6_passes 145 = .ok (.ladd, 1) := by decide +kernel
theorem dX6_passes_146 : decode cX6_passes 146 = .ok (.lastore, 1) := by decide +kernel
theorem dX6_passes_147 : decode cX6_passes 147 = .ok (.iinc 2 1, 3) := by decide +kernel
theorem dX6_passes_150 : decode cX6_passes 150 = .ok (.goto (-26), 3) := by decide +kernel
theorem dX6_passes_153 : decode cX6_passes 153 = .ok (.iload_n 1, 1) := by decide +kernel
theorem dX6_passes_154 : decode cX6_passes 154 = .ok (.ireturn, 1) := by decide +kernel
set_option maxRecDepth 20000 in
theorem ggX6_tick_X6_in : GoodIn wsX6_tick wsX6_in := goodIn_r _ [8] (by decide +kernel) (by decide +kernel)
set_option maxRecDepth 20000 in
theorem gX6_tick_X6_in : GoodIn wsX6_tick (va_wsS RX6 67 yX6_in wsX6_in) := goodIn_app (goodIn_of _ (by decide +kernel)) ggX6_tick_X6_in
set_option maxRecDepth 20000 in
theorem ggX6_tick_X6_act : GoodIn wsX6_tick wsX6_act := goodIn_r _ [12, 13, 14, 2, 96, 97, 98, 99, 100, 101, 102, 103, 104, 105, 106] (by decide +kernel) (by decide +kernel)
set_option maxRecDepth 20000 in
theorem gX6_tick_X6_act : GoodIn wsX6_tick (wsV RX6 84 RX6 yX6_act wsX6_act) := goodIn_app (goodIn_of _ (by decide +kernel)) ggX6_tick_X6_act
set_option maxRecDepth 20000 in
theorem ggX6_tick_X6_passes : GoodIn wsX6_tick wsX6_passes := goodIn_r _ [18, 2, 19, 20, 21, 22, 7, 23, 24, 25, 26, 27, 28, 29, 30, 31, 32, 33, 34, 35, 36, 37, 38, 39, 40, 41, 42, 43, 44, 45, 46, 47, 48, 49, 50, 51, 52, 53, 54, 55, 56, 57, 58, 59, 60, 61, 62, 63, 64, 65, 66, 67, 68, 69, 70, 71, 72, 73, 74, 75, 76, 77, 78, 79, 80, 81, 82, 83, 84, 85, 86, 87, 88, 89, 90, 91, 92, 93, 94, 95, 96, 97, 98, 99, 100, 101, 102, 103, 104, 105, 106] (by decide +kernel) (by decide +kernel)
set_option maxRecDepth 20000 in
theorem gX6_tick_X6_passes : GoodIn wsX6_tick (wsV RX6 162 RX6 yX6_passes wsX6_passes) := goodIn_app (goodIn_of _ (by decide +kernel)) ggX6_tick_X6_passes
theorem dX6_tick_0 : decode cX6_tick 0 = .ok (.iload_n 1, 1) := by decide +kernel
theorem dX6_tick_1 : decode cX6_tick 1 = .ok (.iconst 1, 1) := by decide +kernel
theorem dX6_tick_2 : decode cX6_tick 2 = .ok (.sipush 200, 3) := by decide +kernel
theorem dX6_tick_5 : decode cX6_tick 5 = .ok (.invokestatic 67, 3) := by decide +kernel
theorem dX6_tick_8 : decode cX6_tick 8 = .ok (.ifCond .ne 6, 3) := by decide +kernel
theorem dX6_tick_11 : decode cX6_tick 11 = .ok (.ldc 80, 2) := by decide +kernel
theorem dX6_tick_13 : decode cX6_tick 13 = .ok (.ireturn, 1) := by decide +kernel
theorem dX6_tick_14 : decode cX6_tick 14 = .ok (.aload_n 0, 1) := by decide +kernel
theorem dX6_tick_15 : decode cX6_tick 15 = .ok (.getfield 7, 3) := by decide +kernel
theorem dX6_tick_18 : decode cX6_tick 18 = .ok (.iconst 5, 1) := by decide +kernel
theorem dX6_tick_19 : decode cX6_tick 19 = .ok (.laload, 1) := by decide +kernel
theorem dX6_tick_20 : decode cX6_tick 20 = .ok (.iload_n 1, 1) := by decide +kernel
theorem dX6_tick_21 : decode cX6_tick 21 = .ok (.i2l, 1) := by decide +kernel
theorem dX6_tick_22 : decode cX6_tick 22 = .ok (.ladd, 1) := by decide +kernel
theorem dX6_tick_23 : decode cX6_tick 23 = .ok (.ldc2_w 159, 3) := by decide +kernel
theorem dX6_tick_26 : decode cX6_tick 26 = .ok (.lcmp, 1) := by decide +kernel
theorem dX6_tick_27 : decode cX6_tick 27 = .ok (.ifCond .le 6, 3) := by decide +kernel
theorem dX6_tick_30 : decode cX6_tick 30 = .ok (.ldc 161, 2) := by decide +kernel
theorem dX6_tick_32 : decode cX6_tick 32 = .ok (.ireturn, 1) := by decide +kernel
theorem dX6_tick_33 : decode cX6_tick 33 = .ok (.aload_n 0, 1) := by decide +kernel
theorem dX6_tick_34 : decode cX6_tick 34 = .ok (.invokevirtual 84, 3) := by decide +kernel
theorem dX6_tick_37 : decode cX6_tick 37 = .ok (.iconst 0, 1) := by decide +kernel
theorem dX6_tick_38 : decode cX6_tick 38 = .ok (.istore_n 2, 1) := by decide +kernel
theorem dX6_tick_39 : decode cX6_tick 39 = .ok (.iconst 0, 1) := by decide +kernel
theorem dX6_tick_40 : decode cX6_tick 40 = .ok (.istore_n 3, 1) := by decide +kernel
theorem dX6_tick_41 : decode cX6_tick 41 = .ok (.iload_n 3, 1) := by decide +kernel
theorem dX6_tick_42 : decode cX6_tick 42 = .ok (.iload_n 1, 1) := by decide +kernel
theorem dX6_tick_43 : decode cX6_tick 43 = .ok (.if_icmp .ge 24, 3) := by decide +kernel
theorem dX6_tick_46 : decode cX6_tick 46 = .ok (.iload_n 2, 1) := by decide +kernel
theorem dX6_tick_47 : decode cX6_tick 47 = .ok (.aload_n 0, 1) := by decide +kernel
theorem dX6_tick_48 : decode cX6_tick 48 = .ok (.invokevirtual 162, 3) := by decide +kernel
theorem dX6_tick_51 : decode cX6_tick 51 = .ok (.ifCond .eq 7, 3) := by decide +kernel
theorem dX6_tick_54 : decode cX6_tick 54 = .ok (.iconst 1, 1) := by decide +kernel
theorem dX6_tick_55 : decode cX6_tick 55 = .ok (.goto 4, 3) := by decide +kernel
theorem dX6_tick_58 : decode cX6_tick 58 = .ok (.iconst 0, 1) := by decide +kernel
theorem dX6_tick_59 : decode cX6_tick 59 = .ok (.iadd, 1) := by decide +kernel
theorem dX6_tick_60 : decode cX6_tick 60 = .ok (.istore_n 2, 1) := by decide +kernel
theorem dX6_tick_61 : decode cX6_tick 61 = .ok (.iinc 3 1, 3) := by decide +kernel
theorem dX6_tick_64 : decode cX6_tick 64 = .ok (.goto (-23), 3) := by decide +kernel
theorem dX6_tick_67 : decode cX6_tick 67 = .ok (.iload_n 2, 1) := by decide +kernel
theorem dX6_tick_68 : decode cX6_tick 68 = .ok (.ireturn, 1) := by decide +kernel
theorem dX6_time_0 : decode cX6_time 0 = .ok (.aload_n 0, 1) := by decide +kernel
theorem dX6_time_1 : decode cX6_time 1 = .ok (.getfield 7, 3) := by decide +kernel
theorem dX6_time_4 : decode cX6_time 4 = .ok (.iconst 5, 1) := by decide +kernel
theorem dX6_time_5 : decode cX6_time 5 = .ok (.laload, 1) := by decide +kernel
theorem dX6_time_6 : decode cX6_time 6 = .ok (.l2i, 1) := by decide +kernel
theorem dX6_time_7 : decode cX6_time 7 = .ok (.ireturn, 1) := by decide +kernel
set_option maxRecDepth 20000 in
theorem ggX6_whole_X6_axisAt : GoodIn wsX6_whole wsX6_axisAt := goodIn_r _ [5] (by decide +kernel) (by decide +kernel)
set_option maxRecDepth 20000 in
theorem gX6_whole_X6_axisAt : GoodIn wsX6_whole (va_wsS RX6 45 yX6_axisAt wsX6_axisAt) := goodIn_app (goodIn_of _ (by decide +kernel)) ggX6_whole_X6_axisAt
set_option maxRecDepth 20000 in
theorem ggX6_whole_X6_wheelAt : GoodIn wsX6_whole wsX6_wheelAt := goodIn_r _ [8] (by decide +kernel) (by decide +kernel)
set_option maxRecDepth 20000 in
theorem gX6_whole_X6_wheelAt : GoodIn wsX6_whole (va_wsS RX6 71 yX6_wheelAt wsX6_wheelAt) := goodIn_app (goodIn_of _ (by decide +kernel)) ggX6_whole_X6_wheelAt
theorem dX6_whole_0 : decode cX6_whole 0 = .ok (.aload_n 0, 1) := by decide +kernel
theorem dX6_whole_1 : decode cX6_whole 1 = .ok (.getfield 7, 3) := by decide +kernel
theorem dX6_whole_4 : decode cX6_whole 4 = .ok (.iload_n 1, 1) := by decide +kernel
theorem dX6_whole_5 : decode cX6_whole 5 = .ok (.iconst 1, 1) := by decide +kernel
theorem dX6_whole_6 : decode cX6_whole 6 = .ok (.invokestatic 45, 3) := by decide +kernel
theorem dX6_whole_9 : decode cX6_whole 9 = .ok (.laload, 1) := by decide +kernel
theorem dX6_whole_10 : decode cX6_whole 10 = .ok (.lstore_n 2, 1) := by decide +kernel
theorem dX6_whole_11 : decode cX6_whole 11 = .ok (.iconst 0, 1) := by decide +kernel
theorem dX6_whole_12 : decode cX6_whole 12 = .ok (.istore 4, 2) := by decide +kernel
theorem dX6_whole_14 : decode cX6_whole 14 = .ok (.iload 4, 2) := by decide +kernel
theorem dX6_whole_16 : decode cX6_whole 16 = .ok (.i2l, 1) := by decide +kernel
theorem dX6_whole_17 : decode cX6_whole 17 = .ok (.aload_n 0, 1) := by decide +kernel
theorem dX6_whole_18 : decode cX6_whole 18 = .ok (.getfield 7, 3) := by decide +kernel
theorem dX6_whole_21 : decode cX6_whole 21 = .ok (.bipush 6, 2) := by decide +kernel
theorem dX6_whole_23 : decode cX6_whole 23 = .ok (.laload, 1) := by decide +kernel
theorem dX6_whole_24 : decode cX6_whole 24 = .ok (.lcmp, 1) := by decide +kernel
theorem dX6_whole_25 : decode cX6_whole 25 = .ok (.ifCond .ge 35, 3) := by decide +kernel
theorem dX6_whole_28 : decode cX6_whole 28 = .ok (.lload_n 2, 1) := by decide +kernel
theorem dX6_whole_29 : decode cX6_whole 29 = .ok (.aload_n 0, 1) := by decide +kernel
theorem dX6_whole_30 : decode cX6_whole 30 = .ok (.getfield 7, 3) := by decide +kernel
theorem dX6_whole_33 : decode cX6_whole 33 = .ok (.iload 4, 2) := by decide +kernel
theorem dX6_whole_35 : decode cX6_whole 35 = .ok (.iload_n 1, 1) := by decide +kernel
theorem dX6_whole_36 : decode cX6_whole 36 = .ok (.invokestatic 71, 3) := by decide +kernel
theorem dX6_whole_39 : decode cX6_whole 39 = .ok (.laload, 1) := by decide +kernel
theorem dX6_whole_40 : decode cX6_whole 40 = .ok (.aload_n 0, 1) := by decide +kernel
theorem dX6_whole_41 : decode cX6_whole 41 = .ok (.getfield 7, 3) := by decide +kernel
theorem dX6_whole_44 : decode cX6_whole 44 = .ok (.iload 4, 2) := by decide +kernel
theorem dX6_whole_46 : decode cX6_whole 46 = .ok (.iconst 3, 1) := by decide +kernel
theorem dX6_whole_47 : decode cX6_whole 47 = .ok (.invokestatic 71, 3) := by decide +kernel
theorem dX6_whole_50 : decode cX6_whole 50 = .ok (.laload, 1) := by decide +kernel
theorem dX6_whole_51 : decode cX6_whole 51 = .ok (.lmul, 1) := by decide +kernel
theorem dX6_whole_52 : decode cX6_whole 52 = .ok (.ladd, 1) := by decide +kernel
theorem dX6_whole_53 : decode cX6_whole 53 = .ok (.lstore_n 2, 1) := by decide +kernel
theorem dX6_whole_54 : decode cX6_whole 54 = .ok (.iinc 4 1, 3) := by decide +kernel
theorem dX6_whole_57 : decode cX6_whole 57 = .ok (.goto (-43), 3) := by decide +kernel
theorem dX6_whole_60 : decode cX6_whole 60 = .ok (.lload_n 2, 1) := by decide +kernel
theorem dX6_whole_61 : decode cX6_whole 61 = .ok (.lreturn, 1) := by decide +kernel
set_option maxRecDepth 20000 in
theorem ggX6_told_X6_axisAt : GoodIn wsX6_told wsX6_axisAt := goodIn_r _ [5] (by decide +kernel) (by decide +kernel)
set_option maxRecDepth 20000 in
theorem gX6_told_X6_axisAt : GoodIn wsX6_told (va_wsS RX6 45 yX6_axisAt wsX6_axisAt) := goodIn_app (goodIn_of _ (by decide +kernel)) ggX6_told_X6_axisAt
set_option maxRecDepth 20000 in
theorem ggX6_told_X6_rate : GoodIn wsX6_told wsX6_rate := goodIn_r _ [9, 1, 2, 3, 4, 5, 10, 11, 12, 20, 21, 22, 23, 24, 25, 26, 27, 28, 29, 30] (by decide +kernel) (by decide +kernel)
set_option maxRecDepth 20000 in
theorem gX6_told_X6_rate : GoodIn wsX6_told (wsV RX6 104 RX6 yX6_rate wsX6_rate) := goodIn_app (goodIn_of _ (by decide +kernel)) ggX6_told_X6_rate
set_option maxRecDepth 20000 in
theorem ggX6_told_X6_whole : GoodIn wsX6_told wsX6_whole := goodIn_r _ [16, 1, 2, 3, 4, 5, 17, 18, 19, 20, 21, 22, 23, 24, 25, 26, 27, 28, 29, 30] (by decide +kernel) (by decide +kernel)
set_option maxRecDepth 20000 in
theorem gX6_told_X6_whole : GoodIn wsX6_told (wsV RX6 165 RX6 yX6_whole wsX6_whole) := goodIn_app (goodIn_of _ (by decide +kernel)) ggX6_told_X6_whole
theorem dX6_told_0 : decode cX6_told 0 = .ok (.iload_n 2, 1) := by decide +kernel
theorem dX6_told_1 : decode cX6_told 1 = .ok (.tableswitch 113 0 9 #[55, 66, 77, 83, 89, 113, 113, 113, 113, 101], 55) := by decide +kernel
theorem dX6_told_56 : decode cX6_told 56 = .ok (.aload_n 0, 1) := by decide +kernel
theorem dX6_told_57 : decode cX6_told 57 = .ok (.getfield 7, 3) := by decide +kernel
theorem dX6_told_60 : decode cX6_told 60 = .ok (.iload_n 1, 1) := by decide +kernel
theorem dX6_told_61 : decode cX6_told 61 = .ok (.iconst 0, 1) := by decide +kernel
theorem dX6_told_62 : decode cX6_told 62 = .ok (.invokestatic 45, 3) := by decide +kernel
theorem dX6_told_65 : decode cX6_told 65 = .ok (.laload, 1) := by decide +kernel
theorem dX6_told_66 : decode cX6_told 66 = .ok (.lreturn, 1) := by decide +kernel
theorem dX6_told_67 : decode cX6_told 67 = .ok (.aload_n 0, 1) := by decide +kernel
theorem dX6_told_68 : decode cX6_told 68 = .ok (.getfield 7, 3) := by decide +kernel
theorem dX6_told_71 : decode cX6_told 71 = .ok (.iload_n 1, 1) := by decide +kernel
theorem dX6_told_72 : decode cX6_told 72 = .ok (.iconst 1, 1) := by decide +kernel
theorem dX6_told_73 : decode cX6_told 73 = .ok (.invokestatic 45, 3) := by decide +kernel
theorem dX6_told_76 : decode cX6_told 76 = .ok (.laload, 1) := by decide +kernel
theorem dX6_told_77 : decode cX6_told 77 = .ok (.lreturn, 1) := by decide +kernel
theorem dX6_told_78 : decode cX6_told 78 = .ok (.aload_n 0, 1) := by decide +kernel
theorem dX6_told_79 : decode cX6_told 79 = .ok (.iload_n 1, 1) := by decide +kernel
theorem dX6_told_80 : decode cX6_told 80 = .ok (.invokevirtual 104, 3) := by decide +kernel
theorem dX6_told_83 : decode cX6_told 83 = .ok (.lreturn, 1) := by decide +kernel
theorem dX6_told_84 : decode cX6_told 84 = .ok (.aload_n 0, 1) := by decide +kernel
theorem dX6_told_85 : decode cX6_told 85 = .ok (.iload_n 1, 1) := by decide +kernel
theorem dX6_told_86 : decode cX6_told 86 = .ok (.invokevirtual 165, 3) := by decide +kernel
theorem dX6_told_89 : decode cX6_told 89 = .ok (.lreturn, 1) := by decide +kernel
theorem dX6_told_90 : decode cX6_told 90 = .ok (.aload_n 0, 1) := by decide +kernel
theorem dX6_told_91 : decode cX6_told 91 = .ok (.getfield 7, 3) := by decide +kernel
theorem dX6_told_94 : decode cX6_told 94 = .ok (.iload_n 1, 1) := by decide +kernel
theorem dX6_told_95 : decode cX6_told 95 = .ok (.bipush 6, 2) := by decide +kernel
theorem dX6_told_97 : decode cX6_told 97 = .ok (.invokestatic 45, 3) := by decide +kernel
theorem dX6_told_100 : decode cX6_told 100 = .ok (.laload, 1) := by decide +kernel
theorem dX6_told_101 : decode cX6_told 101 = .ok (.lreturn, 1) := by decide +kernel
theorem dX6_told_102 : decode cX6_told 102 = .ok (.aload_n 0, 1) := by decide +kernel
theorem dX6_told_103 : decode cX6_told 103 = .ok (.getfield 7, 3) := by decide +kernel
theorem dX6_told_106 : decode cX6_told 106 = .ok (.iload_n 1, 1) := by decide +kernel
theorem dX6_told_107 : decode cX6_told 107 = .ok (.bipush 7, 2) := by decide +kernel
theorem dX6_told_109 : decode cX6_told 109 = .ok (.invokestatic 45, 3) := by decide +kernel
theorem dX6_told_112 : decode cX6_told 112 = .ok (.laload, 1) := by decide +kernel
theorem dX6_told_113 : decode cX6_told 113 = .ok (.lreturn, 1) := by decide +kernel
theorem dX6_told_114 : decode cX6_told 114 = .ok (.aload_n 0, 1) := by decide +kernel
theorem dX6_told_115 : decode cX6_told 115 = .ok (.getfield 7, 3) := by decide +kernel
theorem dX6_told_118 : decode cX6_told 118 = .ok (.iload_n 1, 1) := by decide +kernel
theorem dX6_told_119 : decode cX6_told 119 = .ok (.iconst 2, 1) := by decide +kernel
theorem dX6_told_120 : decode cX6_told 120 = .ok (.iload_n 2, 1) := by decide +kernel
theorem dX6_told_121 : decode cX6_told 121 = .ok (.iadd, 1) := by decide +kernel
theorem dX6_told_122 : decode cX6_told 122 = .ok (.iconst 5, 1) := by decide +kernel
theorem dX6_told_123 : decode cX6_told 123 = .ok (.isub, 1) := by decide +kernel
theorem dX6_told_124 : decode cX6_told 124 = .ok (.invokestatic 45, 3) := by decide +kernel
theorem dX6_told_127 : decode cX6_told 127 = .ok (.laload, 1) := by decide +kernel
theorem dX6_told_128 : decode cX6_told 128 = .ok (.lreturn, 1) := by decide +kernel
set_option maxRecDepth 20000 in
theorem ggX6_axis_X6_isAxis : GoodIn wsX6_axis wsX6_isAxis := goodIn_r _ [5, 6, 7, 4, 8] (by decide +kernel) (by decide +kernel)
set_option maxRecDepth 20000 in
theorem gX6_axis_X6_isAxis : GoodIn wsX6_axis (va_wsS RX6 94 yX6_isAxis wsX6_isAxis) := goodIn_app (goodIn_of _ (by decide +kernel)) ggX6_axis_X6_isAxis
set_option maxRecDepth 20000 in
theorem ggX6_axis_X6_in : GoodIn wsX6_axis wsX6_in := goodIn_r _ [8] (by decide +kernel) (by decide +kernel)
set_option maxRecDepth 20000 in
theorem gX6_axis_X6_in : GoodIn wsX6_axis (va_wsS RX6 67 yX6_in wsX6_in) := goodIn_app (goodIn_of _ (by decide +kernel)) ggX6_axis_X6_in
set_option maxRecDepth 20000 in
theorem ggX6_axis_X6_told : GoodIn wsX6_axis wsX6_told := goodIn_r _ [12, 13, 14, 15, 4, 16, 17, 18, 19, 20, 21, 22, 23, 24, 25, 26, 27, 28, 29, 30, 31, 32, 33, 34, 35, 36, 37, 38, 39, 40, 41] (by decide +kernel) (by decide +kernel)
set_option maxRecDepth 20000 in
theorem gX6_axis_X6_told : GoodIn wsX6_axis (wsV RX6 168 RX6 yX6_told wsX6_told) := goodIn_app (goodIn_of _ (by decide +kernel)) ggX6_axis_X6_told
theorem dX6_axis_0 : decode cX6_axis 0 = .ok (.iload_n 1, 1) := by decide +kernel
theorem dX6_axis_1 : decode cX6_axis 1 = .ok (.invokestatic 94, 3) := by decide +kernel
theorem dX6_axis_4 : decode cX6_axis 4 = .ok (.ifCond .eq 22, 3) := by decide +kernel
theorem dX6_axis_7 : decode cX6_axis 7 = .ok (.iload_n 2, 1) := by decide +kernel
theorem dX6_axis_8 : decode cX6_axis 8 = .ok (.iconst 0, 1) := by decide +kernel
theorem dX6_axis_9 : decode cX6_axis 9 = .ok (.bipush 9, 2) := by decide +kernel
theorem dX6_axis_11 : decode cX6_axis 11 = .ok (.invokestatic 67, 3) := by decide +kernel
theorem dX6_axis_14 : decode cX6_axis 14 = .ok (.ifCond .eq 12, 3) := by decide +kernel
theorem dX6_axis_17 : decode cX6_axis 17 = .ok (.aload_n 0, 1) := by decide +kernel
theorem dX6_axis_18 : decode cX6_axis 18 = .ok (.iload_n 1, 1) := by decide +kernel
theorem dX6_axis_19 : decode cX6_axis 19 = .ok (.iload_n 2, 1) := by decide +kernel
theorem dX6_axis_20 : decode cX6_axis 20 = .ok (.invokevirtual 168, 3) := by decide +kernel
theorem dX6_axis_23 : decode cX6_axis 23 = .ok (.goto 6, 3) := by decide +kernel
theorem dX6_axis_26 : decode cX6_axis 26 = .ok (.ldc2_w 98, 3) := by decide +kernel
theorem dX6_axis_29 : decode cX6_axis 29 = .ok (.lreturn, 1) := by decide +kernel
set_option maxRecDepth 20000 in
theorem ggX6_span_X6_spans : GoodIn wsX6_span wsX6_spans := goodIn_r _ [7, 8, 9, 10, 2, 11, 12, 13, 6, 14, 15, 16, 17, 18, 19, 20, 21, 22, 23, 24, 25, 26, 27, 28, 29, 30, 31] (by decide +kernel) (by decide +kernel)
set_option maxRecDepth 20000 in
theorem gX6_span_X6_spans : GoodIn wsX6_span (wsV RX6 122 RX6 yX6_spans wsX6_spans) := goodIn_app (goodIn_of _ (by decide +kernel)) ggX6_span_X6_spans
theorem dX6_span_0 : decode cX6_span 0 = .ok (.aload_n 0, 1) := by decide +kernel
theorem dX6_span_1 : decode cX6_span 1 = .ok (.ldc 121, 2) := by decide +kernel
theorem dX6_span_3 : decode cX6_span 3 = .ok (.invokevirtual 122, 3) := by decide +kernel
theorem dX6_span_6 : decode cX6_span 6 = .ok (.aload_n 0, 1) := by decide +kernel
theorem dX6_span_7 : decode cX6_span 7 = .ok (.getfield 114, 3) := by decide +kernel
theorem dX6_span_10 : decode cX6_span 10 = .ok (.lreturn, 1) := by decide +kernel
set_option maxRecDepth 20000 in
theorem ggX6_isTorque_X6_in : GoodIn wsX6_isTorque wsX6_in := goodIn_r _ [6] (by decide +kernel) (by decide +kernel)
set_option maxRecDepth 20000 in
theorem gX6_isTorque_X6_in : GoodIn wsX6_isTorque (va_wsS RX6 67 yX6_in wsX6_in) := goodIn_app (goodIn_of _ (by decide +kernel)) ggX6_isTorque_X6_in
theorem dX6_isTorque_0 : decode cX6_isTorque 0 = .ok (.iload_n 0, 1) := by decide +kernel
theorem dX6_isTorque_1 : decode cX6_isTorque 1 = .ok (.ldc 97, 2) := by decide +kernel
theorem dX6_isTorque_3 : decode cX6_isTorque 3 = .ok (.ldc 79, 2) := by decide +kernel
theorem dX6_isTorque_5 : decode cX6_isTorque 5 = .ok (.invokestatic 67, 3) := by decide +kernel
theorem dX6_isTorque_8 : decode cX6_isTorque 8 = .ok (.ireturn, 1) := by decide +kernel
set_option maxRecDepth 20000 in
theorem ggX6_wish_X6_isWheel : GoodIn wsX6_wish wsX6_isWheel := goodIn_r _ [8, 9, 10, 11, 7, 12, 45, 46, 47, 48, 49, 50, 51, 52, 53, 54, 55] (by decide +kernel) (by decide +kernel)
set_option maxRecDepth 20000 in
theorem gX6_wish_X6_isWheel : GoodIn wsX6_wish (wsV RX6 87 RX6 yX6_isWheel wsX6_isWheel) := goodIn_app (goodIn_of _ (by decide +kernel)) ggX6_wish_X6_isWheel
set_option maxRecDepth 20000 in
theorem ggX6_wish_X6_works : GoodIn wsX6_wish wsX6_works := goodIn_r _ [16, 9, 17, 18, 7, 19, 45, 46, 47, 48, 49, 50, 51, 52, 53, 54, 55] (by decide +kernel) (by decide +kernel)
set_option maxRecDepth 20000 in
theorem gX6_wish_X6_works : GoodIn wsX6_wish (wsV RX6 108 RX6 yX6_works wsX6_works) := goodIn_app (goodIn_of _ (by decide +kernel)) ggX6_wish_X6_works
set_option maxRecDepth 20000 in
theorem ggX6_wish_X6_isTorque : GoodIn wsX6_wish wsX6_isTorque := goodIn_r _ [22, 23, 24, 10, 11, 7, 12] (by decide +kernel) (by decide +kernel)
set_option maxRecDepth 20000 in
theorem gX6_wish_X6_isTorque : GoodIn wsX6_wish (va_wsS RX6 172 yX6_isTorque wsX6_isTorque) := goodIn_app (goodIn_of _ (by decide +kernel)) ggX6_wish_X6_isTorque
set_option maxRecDepth 20000 in
theorem ggX6_wish_X6_spans : GoodIn wsX6_wish wsX6_spans := goodIn_r _ [28, 29, 9, 30, 3, 13, 14, 15, 7, 16, 17, 18, 19, 31, 32, 33, 45, 46, 47, 48, 49, 50, 51, 52, 53, 54, 55] (by decide +kernel) (by decide +kernel)
set_option maxRecDepth 20000 in
theorem gX6_wish_X6_spans : GoodIn wsX6_wish (wsV RX6 122 RX6 yX6_spans wsX6_spans) := goodIn_app (goodIn_of _ (by decide +kernel)) ggX6_wish_X6_spans
set_option maxRecDepth 20000 in
theorem ggX6_wish_X6_wishOf : GoodIn wsX6_wish wsX6_wishOf := goodIn_r _ [37, 9, 30, 3, 17, 18, 7, 19, 38, 39, 40, 41, 42, 43, 44, 45, 46, 47, 48, 49, 50, 51, 52, 53, 54, 55] (by decide +kernel) (by decide +kernel)
set_option maxRecDepth 20000 in
theorem gX6_wish_X6_wishOf : GoodIn wsX6_wish (wsV RX6 126 RX6 yX6_wishOf wsX6_wishOf) := goodIn_app (goodIn_of _ (by decide +kernel)) ggX6_wish_X6_wishOf
theorem dX6_wish_0 : decode cX6_wish 0 = .ok (.aload_n 0, 1) := by decide +kernel
theorem dX6_wish_1 : decode cX6_wish 1 = .ok (.iload_n 1, 1) := by decide +kernel
theorem dX6_wish_2 : decode cX6_wish 2 = .ok (.invokevirtual 87, 3) := by decide +kernel
theorem dX6_wish_5 : decode cX6_wish 5 = .ok (.ifCond .eq 33, 3) := by decide +kernel
theorem dX6_wish_8 : decode cX6_wish 8 = .ok (.aload_n 0, 1) := by decide +kernel
theorem dX6_wish_9 : decode cX6_wish 9 = .ok (.iload_n 1, 1) := by decide +kernel
theorem dX6_wish_10 : decode cX6_wish 10 = .ok (.invokevirtual 108, 3) := by decide +kernel
theorem dX6_wish_13 : decode cX6_wish 13 = .ok (.ifCond .eq 25, 3) := by decide +kernel
theorem dX6_wish_16 : decode cX6_wish 16 = .ok (.iload_n 2, 1) := by decide +kernel
theorem dX6_wish_17 : decode cX6_wish 17 = .ok (.invokestatic 172, 3) := by decide +kernel
theorem dX6_wish_20 : decode cX6_wish 20 = .ok (.ifCond .eq 18, 3) := by decide +kernel
theorem dX6_wish_23 : decode cX6_wish 23 = .ok (.iload_n 3, 1) := by decide +kernel
theorem dX6_wish_24 : decode cX6_wish 24 = .ok (.invokestatic 172, 3) := by decide +kernel
theorem dX6_wish_27 : decode cX6_wish 27 = .ok (.ifCond .eq 11, 3) := by decide +kernel
theorem dX6_wish_30 : decode cX6_wish 30 = .ok (.iload 4, 2) := by decide +kernel
theorem dX6_wish_32 : decode cX6_wish 32 = .ok (.invokestatic 172, 3) := by decide +kernel
theorem dX6_wish_35 : decode cX6_wish 35 = .ok (.ifCond .ne 7, 3) := by decide +kernel
theorem dX6_wish_38 : decode cX6_wish 38 = .ok (.ldc2_w 98, 3) := by decide +kernel
theorem dX6_wish_41 : decode cX6_wish 41 = .ok (.lreturn, 1) := by decide +kernel
theorem dX6_wish_42 : decode cX6_wish 42 = .ok (.aload_n 0, 1) := by decide +kernel
theorem dX6_wish_43 : decode cX6_wish 43 = .ok (.ldc 121, 2) := by decide +kernel
theorem dX6_wish_45 : decode cX6_wish 45 = .ok (.invokevirtual 122, 3) := by decide +kernel
theorem dX6_wish_48 : decode cX6_wish 48 = .ok (.aload_n 0, 1) := by decide +kernel
theorem dX6_wish_49 : decode cX6_wish 49 = .ok (.getfield 114, 3) := by decide +kernel
theorem dX6_wish_52 : decode cX6_wish 52 = .ok (.lconst 0, 1) := by decide +kernel
theorem dX6_wish_53 : decode cX6_wish 53 = .ok (.lcmp, 1) := by decide +kernel
theorem dX6_wish_54 : decode cX6_wish 54 = .ok (.ifCond .ne 9, 3) := by decide +kernel
theorem dX6_wish_57 : decode cX6_wish 57 = .ok (.ldc2_w 98, 3) := by decide +kernel
theorem dX6_wish_60 : decode cX6_wish 60 = .ok (.goto 15, 3) := by decide +kernel
theorem dX6_wish_63 : decode cX6_wish 63 = .ok (.aload_n 0, 1) := by decide +kernel
theorem dX6_wish_64 : decode cX6_wish 64 = .ok (.iload_n 1, 1) := by decide +kernel
theorem dX6_wish_65 : decode cX6_wish 65 = .ok (.iload_n 2, 1) := by decide +kernel
theorem dX6_wish_66 : decode cX6_wish 66 = .ok (.i2l, 1) := by decide +kernel
theorem dX6_wish_67 : decode cX6_wish 67 = .ok (.iload_n 3, 1) := by decide +kernel
theorem dX6_wish_68 : decode cX6_wish 68 = .ok (.i2l, 1) := by decide +kernel
theorem dX6_wish_69 : decode cX6_wish 69 = .ok (.iload 4, 2) := by decide +kernel
theorem dX6_wish_71 : decode cX6_wish 71 = .ok (.i2l, 1) := by decide +kernel
theorem dX6_wish_72 : decode cX6_wish 72 = .ok (.invokevirtual 126, 3) := by decide +kernel
theorem dX6_wish_75 : decode cX6_wish 75 = .ok (.lreturn, 1) := by decide +kernel
theorem dX6_why_0 : decode cX6_why 0 = .ok (.iload_n 1, 1) := by decide +kernel
theorem dX6_why_1 : decode cX6_why 1 = .ok (.ifCond .ge 8, 3) := by decide +kernel
theorem dX6_why_4 : decode cX6_why 4 = .ok (.ldc 80, 2) := by decide +kernel
theorem dX6_why_6 : decode cX6_why 6 = .ok (.goto 23, 3) := by decide +kernel
theorem dX6_why_9 : decode cX6_why 9 = .ok (.iload_n 1, 1) := by decide +kernel
theorem dX6_why_10 : decode cX6_why 10 = .ok (.iconst 2, 1) := by decide +kernel
theorem dX6_why_11 : decode cX6_why 11 = .ok (.if_icmp .le 8, 3) := by decide +kernel
theorem dX6_why_14 : decode cX6_why 14 = .ok (.ldc 121, 2) := by decide +kernel
theorem dX6_why_16 : decode cX6_why 16 = .ok (.goto 13, 3) := by decide +kernel
theorem dX6_why_19 : decode cX6_why 19 = .ok (.aload_n 0, 1) := by decide +kernel
theorem dX6_why_20 : decode cX6_why 20 = .ok (.getfield 7, 3) := by decide +kernel
theorem dX6_why_23 : decode cX6_why 23 = .ok (.bipush 8, 2) := by decide +kernel
theorem dX6_why_25 : decode cX6_why 25 = .ok (.iload_n 1, 1) := by decide +kernel
theorem dX6_why_26 : decode cX6_why 26 = .ok (.iadd, 1) := by decide +kernel
theorem dX6_why_27 : decode cX6_why 27 = .ok (.laload, 1) := by decide +kernel
theorem dX6_why_28 : decode cX6_why 28 = .ok (.l2i, 1) := by decide +kernel
theorem dX6_why_29 : decode cX6_why 29 = .ok (.ireturn, 1) := by decide +kernel
set_option maxRecDepth 20000 in
theorem ggX6_fullness_X6_wheelAt : GoodIn wsX6_fullness wsX6_wheelAt := goodIn_r _ [5] (by decide +kernel) (by decide +kernel)
set_option maxRecDepth 20000 in
theorem gX6_fullness_X6_wheelAt : GoodIn wsX6_fullness (va_wsS RX6 71 yX6_wheelAt wsX6_wheelAt) := goodIn_app (goodIn_of _ (by decide +kernel)) ggX6_fullness_X6_wheelAt
set_option maxRecDepth 20000 in
theorem ggX6_fullness_X6_size : GoodIn wsX6_fullness wsX6_size := goodIn_r _ [8] (by decide +kernel) (by decide +kernel)
set_option maxRecDepth 20000 in
theorem gX6_fullness_X6_size : GoodIn wsX6_fullness (va_wsS RX6 175 yX6_size wsX6_size) := goodIn_app (goodIn_of _ (by decide +kernel)) ggX6_fullness_X6_size
theorem dX6_fullness_0 : decode cX6_fullness 0 = .ok (.fconst 0, 1) := by decide +kernel
theorem dX6_fullness_1 : decode cX6_fullness 1 = .ok (.fstore_n 1, 1) := by decide +kernel
theorem dX6_fullness_2 : decode cX6_fullness 2 = .ok (.iconst 0, 1) := by decide +kernel
theorem dX6_fullness_3 : decode cX6_fullness 3 = .ok (.istore_n 2, 1) := by decide +kernel
theorem dX6_fullness_4 : decode cX6_fullness 4 = .ok (.iload_n 2, 1) := by decide +kernel
theorem dX6_fullness_5 : decode cX6_fullness 5 = .ok (.i2l, 1) := by decide +kernel
theorem dX6_fullness_6 : decode cX6_fullness 6 = .ok (.aload_n 0, 1) := by decide +kernel
theorem dX6_fullness_7 : decode cX6_fullness 7 = .ok (.getfield 7, 3) := by decide +kernel
theorem dX6_fullness_10 : decode cX6_fullness 10 = .ok (.bipush 6, 2) := by decide +kernel
theorem dX6_fullness_12 : decode cX6_fullness 12 = .ok (.laload, 1) := by decide +kernel
theorem dX6_fullness_13 : decode cX6_fullness 13 = .ok (.lcmp, 1) := by decide +kernel
theorem dX6_fullness_14 : decode cX6_fullness 14 = .ok (.ifCond .ge 48, 3) := by decide +kernel
theorem dX6_fullness_17 : decode cX6_fullness 17 = .ok (.aload_n 0, 1) := by decide +kernel
theorem dX6_fullness_18 : decode cX6_fullness 18 = .ok (.getfield 7, 3) := by decide +kernel
theorem dX6_fullness_21 : decode cX6_fullness 21 = .ok (.iload_n 2, 1) := by decide +kernel
theorem dX6_fullness_22 : decode cX6_fullness 22 = .ok (.iconst 3, 1) := by decide +kernel
theorem dX6_fullness_23 : decode cX6_fullness 23 = .ok (.invokestatic 71, 3) := by decide +kernel
theorem dX6_fullness_26 : decode cX6_fullness 26 = .ok (.laload, 1) := by decide +kernel
theorem dX6_fullness_27 : decode cX6_fullness 27 = .ok (.invokestatic 175, 3) := by decide +kernel
theorem dX6_fullness_30 : decode cX6_fullness 30 = .ok (.l2f, 1) := by decide +kernel
theorem dX6_fullness_31 : decode cX6_fullness 31 = .ok (.aload_n 0, 1) := by decide +kernel
theorem dX6_fullness_32 : decode cX6_fullness 32 = .ok (.getfield 7, 3) := by decide +kernel
theorem dX6_fullness_35 : decode cX6_fullness 35 = .ok (.iload_n 2, 1) := by decide +kernel
theorem dX6_fullness_36 : decode cX6_fullness 36 = .ok (.iconst 4, 1) := by decide +kernel
theorem dX6_fullness_37 : decode cX6_fullness 37 = .ok (.invokestatic 71, 3) := by decide +kernel
theorem dX6_fullness_40 : decode cX6_fullness 40 = .ok (.laload, 1) := by decide +kernel
theorem dX6_fullness_41 : decode cX6_fullness 41 = .ok (.l2f, 1) := by decide +kernel
theorem dX6_fullness_42 : decode cX6_fullness 42 = .ok (.fdiv, 1) := by decide +kernel
theorem dX6_fullness_43 : decode cX6_fullness 43 = .ok (.fstore_n 3, 1) := by decide +kernel
theorem dX6_fullness_44 : decode cX6_fullness 44 = .ok (.fload_n 3, 1) := by decide +kernel
theorem dX6_fullness_45 : decode cX6_fullness 45 = .ok (.fload_n 1, 1) := by decide +kernel
theorem dX6_fullness_46 : decode cX6_fullness 46 = .ok (.fcmp .l, 1) := by decide +kernel
theorem dX6_fullness_47 : decode cX6_fullness 47 = .ok (.ifCond .le 7, 3) := by decide +kernel
theorem dX6_fullness_50 : decode cX6_fullness 50 = .ok (.fload_n 3, 1) := by decide +kernel
theorem dX6_fullness_51 : decode cX6_fullness 51 = .ok (.goto 4, 3) := by decide +kernel
theorem dX6_fullness_54 : decode cX6_fullness 54 = .ok (.fload_n 1, 1) := by decide +kernel
theorem dX6_fullness_55 : decode cX6_fullness 55 = .ok (.fstore_n 1, 1) := by decide +kernel
theorem dX6_fullness_56 : decode cX6_fullness 56 = .ok (.iinc 2 1, 3) := by decide +kernel
theorem dX6_fullness_59 : decode cX6_fullness 59 = .ok (.goto (-55), 3) := by decide +kernel
theorem dX6_fullness_62 : decode cX6_fullness 62 = .ok (.fload_n 1, 1) := by decide +kernel
theorem dX6_fullness_63 : decode cX6_fullness 63 = .ok (.freturn, 1) := by decide +kernel
set_option maxRecDepth 20000 in
theorem ggX6_isThere_X6_axisAt : GoodIn wsX6_isThere wsX6_axisAt := goodIn_r _ [5] (by decide +kernel) (by decide +kernel)
set_option maxRecDepth 20000 in
theorem gX6_isThere_X6_axisAt : GoodIn wsX6_isThere (va_wsS RX6 45 yX6_axisAt wsX6_axisAt) := goodIn_app (goodIn_of _ (by decide +kernel)) ggX6_isThere_X6_axisAt
set_option maxRecDepth 20000 in
theorem ggX6_isThere_X6_size : GoodIn wsX6_isThere wsX6_size := goodIn_r _ [8] (by decide +kernel) (by decide +kernel)
set_option maxRecDepth 20000 in
theorem gX6_isThere_X6_size : GoodIn wsX6_isThere (va_wsS RX6 175 yX6_size wsX6_size) := goodIn_app (goodIn_of _ (by decide +kernel)) ggX6_isThere_X6_size
set_option maxRecDepth 20000 in
theorem ggX6_isThere_X6_rate : GoodIn wsX6_isThere wsX6_rate := goodIn_r _ [12, 1, 2, 3, 4, 5, 13, 14, 15, 16, 17, 18, 19, 20, 21, 22, 23, 24, 25, 26] (by decide +kernel) (by decide +kernel)
set_option maxRecDepth 20000 in
theorem gX6_isThere_X6_rate : GoodIn wsX6_isThere (wsV RX6 104 RX6 yX6_rate wsX6_rate) := goodIn_app (goodIn_of _ (by decide +kernel)) ggX6_isThere_X6_rate
theorem dX6_isThere_0 : decode cX6_isThere 0 = .ok (.iconst 1, 1) := by decide +kernel
theorem dX6_isThere_1 : decode cX6_isThere 1 = .ok (.istore_n 2, 1) := by decide +kernel
theorem dX6_isThere_2 : decode cX6_isThere 2 = .ok (.iconst 0, 1) := by decide +kernel
theorem dX6_isThere_3 : decode cX6_isThere 3 = .ok (.istore_n 3, 1) := by decide +kernel
theorem dX6_isThere_4 : decode cX6_isThere 4 = .ok (.iload_n 3, 1) := by decide +kernel
theorem dX6_isThere_5 : decode cX6_isThere 5 = .ok (.iconst 3, 1) := by decide +kernel
theorem dX6_isThere_6 : decode cX6_isThere 6 = .ok (.if_icmp .ge 62, 3) := by decide +kernel
theorem dX6_isThere_9 : decode cX6_isThere 9 = .ok (.iload_n 2, 1) := by decide +kernel
theorem dX6_isThere_10 : decode cX6_isThere 10 = .ok (.ifCond .eq 50, 3) := by decide +kernel
theorem dX6_isThere_13 : decode cX6_isThere 13 = .ok (.aload_n 0, 1) := by decide +kernel
theorem dX6_isThere_14 : decode cX6_isThere 14 = .ok (.getfield 7, 3) := by decide +kernel
theorem dX6_isThere_17 : decode cX6_isThere 17 = .ok (.iload_n 3, 1) := by decide +kernel
theorem dX6_isThere_18 : decode cX6_isThere 18 = .ok (.iconst 0, 1) := by decide +kernel
theorem dX6_isThere_19 : decode cX6_isThere 19 = .ok (.invokestatic 45, 3) := by decide +kernel
theorem dX6_isThere_22 : decode cX6_isThere 22 = .ok (.laload, 1) := by decide +kernel
theorem dX6_isThere_23 : decode cX6_isThere 23 = .ok (.aload_n 0, 1) := by decide +kernel
theorem dX6_isThere_24 : decode cX6_isThere 24 = .ok (.getfield 7, 3) := by decide +kernel
theorem dX6_isThere_27 : decode cX6_isThere 27 = .ok (.iload_n 3, 1) := by decide +kernel
theorem dX6_isThere_28 : decode cX6_isThere 28 = .ok (.iconst 3, 1) := by decide +kernel
theorem dX6_isThere_29 : decode cX6_isThere 29 = .ok (.invokestatic 45, 3) := by decide +kernel
theorem dX6_isThere_32 : decode cX6_isThere 32 = .ok (.laload, 1) := by decide +kernel
theorem dX6_isThere_33 : decode cX6_isThere 33 = .ok (.lsub, 1) := by decide +kernel
theorem dX6_isThere_34 : decode cX6_isThere 34 = .ok (.invokestatic 175, 3) := by decide +kernel
theorem dX6_isThere_37 : decode cX6_isThere 37 = .ok (.iload_n 1, 1) := by decide +kernel
theorem dX6_isThere_38 : decode cX6_isThere 38 = .ok (.i2l, 1) := by decide +kernel
theorem dX6_isThere_39 : decode cX6_isThere 39 = .ok (.lcmp, 1) := by decide +kernel
theorem dX6_isThere_40 : decode cX6_isThere 40 = .ok (.ifCond .gt 20, 3) := by decide +kernel
theorem dX6_isThere_43 : decode cX6_isThere 43 = .ok (.aload_n 0, 1) := by decide +kernel
theorem dX6_isThere_44 : decode cX6_isThere 44 = .ok (.iload_n 3, 1) := by decide +kernel
theorem dX6_isThere_45 : decode cX6_isThere 45 = .ok (.invokevirtual 104, 3) := by decide +kernel
theorem dX6_isThere_48 : decode cX6_isThere 48 = .ok (.invokestatic 175, 3) := by decide +kernel
theorem dX6_isThere_51 : decode cX6_isThere 51 = .ok (.lconst 1, 1) := by decide +kernel
theorem dX6_isThere_52 : decode cX6_isThere 52 = .ok (.lcmp, 1) := by decide +kernel
theorem dX6_isThere_53 : decode cX6_isThere 53 = .ok (.ifCond .gt 7, 3) := by decide +kernel
theorem dX6_isThere_56 : decode cX6_isThere 56 = .ok (.iconst 1, 1) := by decide +kernel
theorem dX6_isThere_57 : decode cX6_isThere 57 = .ok (.goto 4, 3) := by decide +kernel
theorem dX6_isThere_60 : decode cX6_isThere 60 = .ok (.iconst 0, 1) := by decide +kernel
theorem dX6_isThere_61 : decode cX6_isThere 61 = .ok (.istore_n 2, 1) := by decide +kernel
theorem dX6_isThere_62 : decode cX6_isThere 62 = .ok (.iinc 3 1, 3) := by decide +kernel
theorem dX6_isThere_65 : decode cX6_isThere 65 = .ok (.goto (-61), 3) := by decide +kernel
theorem dX6_isThere_68 : decode cX6_isThere 68 = .ok (.iload_n 2, 1) := by decide +kernel
theorem dX6_isThere_69 : decode cX6_isThere 69 = .ok (.ireturn, 1) := by decide +kernel
set_option maxRecDepth 20000 in
theorem ggX6_arrives_X6_in : GoodIn wsX6_arrives wsX6_in := goodIn_r _ [9] (by decide +kernel) (by decide +kernel)
set_option maxRecDepth 20000 in
theorem gX6_arrives_X6_in : GoodIn wsX6_arrives (va_wsS RX6 67 yX6_in wsX6_in) := goodIn_app (goodIn_of _ (by decide +kernel)) ggX6_arrives_X6_in
set_option maxRecDepth 20000 in
theorem ggX6_arrives_X6_copies : GoodIn wsX6_arrives wsX6_copies := goodIn_r _ [12] (by decide +kernel) (by decide +kernel)
set_option maxRecDepth 20000 in
theorem gX6_arrives_X6_copies : GoodIn wsX6_arrives (va_wsS RX6 179 yX6_copies wsX6_copies) := goodIn_app (goodIn_of _ (by decide +kernel)) ggX6_arrives_X6_copies
set_option maxRecDepth 20000 in
theorem ggX6_arrives_X6_isThere : GoodIn wsX6_arrives wsX6_isThere := goodIn_r _ [16, 3, 17, 18, 8, 19, 20, 21, 22, 23, 24, 25, 26, 27, 28, 29, 100, 101, 102, 103, 104, 105, 106, 107, 108, 109, 110] (by decide +kernel) (by decide +kernel)
set_option maxRecDepth 20000 in
theorem gX6_arrives_X6_isThere : GoodIn wsX6_arrives (wsV RX6 183 RX6 yX6_isThere wsX6_isThere) := goodIn_app (goodIn_of _ (by decide +kernel)) ggX6_arrives_X6_isThere
set_option maxRecDepth 20000 in
theorem ggX6_arrives_X6_passes : GoodIn wsX6_arrives wsX6_passes := goodIn_r _ [33, 3, 34, 35, 17, 18, 8, 19, 27, 28, 29, 36, 37, 38, 23, 24, 25, 26, 39, 40, 41, 42, 5, 43, 44, 45, 46, 47, 48, 49, 50, 51, 52, 53, 54, 55, 56, 57, 58, 59, 60, 61, 62, 63, 64, 65, 66, 67, 68, 69, 70, 71, 72, 73, 74, 75, 76, 77, 78, 79, 80, 81, 82, 83, 84, 85, 86, 87, 88, 89, 90, 91, 92, 93, 94, 95, 96, 97, 98, 99, 100, 101, 102, 103, 104, 105, 106, 107, 108, 109, 110] (by decide +kernel) (by decide +kernel)
set_option maxRecDepth 20000 in
theorem gX6_arrives_X6_passes : GoodIn wsX6_arrives (wsV RX6 162 RX6 yX6_passes wsX6_passes) := goodIn_app (goodIn_of _ (by decide +kernel)) ggX6_arrives_X6_passes
theorem dX6_arrives_0 : decode cX6_arrives 0 = .ok (.iload_n 1, 1) := by decide +kernel
theorem dX6_arrives_1 : decode cX6_arrives 1 = .ok (.iconst 0, 1) := by decide +kernel
theorem dX6_arrives_2 : decode cX6_arrives 2 = .ok (.ldc 78, 2) := by decide +kernel
theorem dX6_arrives_4 : decode cX6_arrives 4 = .ok (.invokestatic 67, 3) := by decide +kernel
theorem dX6_arrives_7 : decode cX6_arrives 7 = .ok (.ifCond .ne 6, 3) := by decide +kernel
theorem dX6_arrives_10 : decode cX6_arrives 10 = .ok (.ldc 80, 2) := by decide +kernel
theorem dX6_arrives_12 : decode cX6_arrives 12 = .ok (.ireturn, 1) := by decide +kernel
theorem dX6_arrives_13 : decode cX6_arrives 13 = .ok (.aload_n 0, 1) := by decide +kernel
theorem dX6_arrives_14 : decode cX6_arrives 14 = .ok (.getfield 7, 3) := by decide +kernel
theorem dX6_arrives_17 : decode cX6_arrives 17 = .ok (.aload_n 0, 1) := by decide +kernel
theorem dX6_arrives_18 : decode cX6_arrives 18 = .ok (.getfield 13, 3) := by decide +kernel
theorem dX6_arrives_21 : decode cX6_arrives 21 = .ok (.invokestatic 179, 3) := by decide +kernel
theorem dX6_arrives_24 : decode cX6_arrives 24 = .ok (.ldc 121, 2) := by decide +kernel
theorem dX6_arrives_26 : decode cX6_arrives 26 = .ok (.istore_n 2, 1) := by decide +kernel
theorem dX6_arrives_27 : decode cX6_arrives 27 = .ok (.iconst 0, 1) := by decide +kernel
theorem dX6_arrives_28 : decode cX6_arrives 28 = .ok (.istore_n 3, 1) := by decide +kernel
theorem dX6_arrives_29 : decode cX6_arrives 29 = .ok (.iload_n 3, 1) := by decide +kernel
theorem dX6_arrives_30 : decode cX6_arrives 30 = .ok (.sipush 500, 3) := by decide +kernel
theorem dX6_arrives_33 : decode cX6_arrives 33 = .ok (.if_icmp .gt 33, 3) := by decide +kernel
theorem dX6_arrives_36 : decode cX6_arrives 36 = .ok (.iload_n 2, 1) := by decide +kernel
theorem dX6_arrives_37 : decode cX6_arrives 37 = .ok (.ifCond .ge 29, 3) := by decide +kernel
theorem dX6_arrives_40 : decode cX6_arrives 40 = .ok (.aload_n 0, 1) := by decide +kernel
theorem dX6_arrives_41 : decode cX6_arrives 41 = .ok (.iload_n 1, 1) := by decide +kernel
theorem dX6_arrives_42 : decode cX6_arrives 42 = .ok (.invokevirtual 183, 3) := by decide +kernel
theorem dX6_arrives_45 : decode cX6_arrives 45 = .ok (.ifCond .eq 7, 3) := by decide +kernel
theorem dX6_arrives_48 : decode cX6_arrives 48 = .ok (.iload_n 3, 1) := by decide +kernel
theorem dX6_arrives_49 : decode cX6_arrives 49 = .ok (.goto 4, 3) := by decide +kernel
theorem dX6_arrives_52 : decode cX6_arrives 52 = .ok (.iload_n 2, 1) := by decide +kernel
theorem dX6_arrives_53 : decode cX6_arrives 53 = .ok (.istore_n 2, 1) := by decide +kernel
theorem dX6_arrives_54 : decode cX6_arrives 54 = .ok (.aload_n 0, 1) := by decide +kernel
theorem dX6_arrives_55 : decode cX6_arrives 55 = .ok (.invokevirtual 162, 3) := by decide +kernel
theorem dX6_arrives_58 : decode cX6_arrives 58 = .ok (.istore 4, 2) := by decide +kernel
theorem dX6_arrives_60 : decode cX6_arrives 60 = .ok (.iinc 3 1, 3) := by decide +kernel
theorem dX6_arrives_63 : decode cX6_arrives 63 = .ok (.goto (-34), 3) := by decide +kernel
theorem dX6_arrives_66 : decode cX6_arrives 66 = .ok (.aload_n 0, 1) := by decide +kernel
theorem dX6_arrives_67 : decode cX6_arrives 67 = .ok (.getfield 13, 3) := by decide +kernel
theorem dX6_arrives_70 : decode cX6_arrives 70 = .ok (.aload_n 0, 1) := by decide +kernel
theorem dX6_arrives_71 : decode cX6_arrives 71 = .ok (.getfield 7, 3) := by decide +kernel
theorem dX6_arrives_74 : decode cX6_arrives 74 = .ok (.invokestatic 179, 3) := by decide +kernel
theorem dX6_arrives_77 : decode cX6_arrives 77 = .ok (.iload_n 2, 1) := by decide +kernel
theorem dX6_arrives_78 : decode cX6_arrives 78 = .ok (.ireturn, 1) := by decide +kernel
set_option maxRecDepth 20000 in
theorem ggX6_spare_X6_spans : GoodIn wsX6_spare wsX6_spans := goodIn_r _ [7, 8, 1, 9, 2, 10, 11, 12, 6, 13, 14, 15, 16, 17, 18, 19, 20, 21, 22, 23, 24, 25, 26, 27, 28, 29, 30] (by decide +kernel) (by decide +kernel)
set_option maxRecDepth 20000 in
theorem gX6_spare_X6_spans : GoodIn wsX6_spare (wsV RX6 122 RX6 yX6_spans wsX6_spans) := goodIn_app (goodIn_of _ (by decide +kernel)) ggX6_spare_X6_spans
set_option maxRecDepth 20000 in
theorem ggX6_spare_X6_works : GoodIn wsX6_spare wsX6_works := goodIn_r _ [13, 1, 14, 15, 6, 16, 20, 21, 22, 23, 24, 25, 26, 27, 28, 29, 30] (by decide +kernel) (by decide +kernel)
set_option maxRecDepth 20000 in
theorem gX6_spare_X6_works : GoodIn wsX6_spare (wsV RX6 108 RX6 yX6_works wsX6_works) := goodIn_app (goodIn_of _ (by decide +kernel)) ggX6_spare_X6_works
theorem dX6_spare_0 : decode cX6_spare 0 = .ok (.iconst 0, 1) := by decide +kernel
theorem dX6_spare_1 : decode cX6_spare 1 = .ok (.istore_n 1, 1) := by decide +kernel
theorem dX6_spare_2 : decode cX6_spare 2 = .ok (.iconst 0, 1) := by decide +kernel
theorem dX6_spare_3 : decode cX6_spare 3 = .ok (.istore_n 2, 1) := by decide +kernel
theorem dX6_spare_4 : decode cX6_spare 4 = .ok (.iload_n 2, 1) := by decide +kernel
theorem dX6_spare_5 : decode cX6_spare 5 = .ok (.i2l, 1) := by decide +kernel
theorem dX6_spare_6 : decode cX6_spare 6 = .ok (.aload_n 0, 1) := by decide +kernel
theorem dX6_spare_7 : decode cX6_spare 7 = .ok (.getfield 7, 3) := by decide +kernel
theorem dX6_spare_10 : decode cX6_spare 10 = .ok (.bipush 6, 2) := by decide +kernel
theorem dX6_spare_12 : decode cX6_spare 12 = .ok (.laload, 1) := by decide +kernel
theorem dX6_spare_13 : decode cX6_spare 13 = .ok (.lcmp, 1) := by decide +kernel
theorem dX6_spare_14 : decode cX6_spare 14 = .ok (.ifCond .ge 41, 3) := by decide +kernel
theorem dX6_spare_17 : decode cX6_spare 17 = .ok (.aload_n 0, 1) := by decide +kernel
theorem dX6_spare_18 : decode cX6_spare 18 = .ok (.iload_n 2, 1) := by decide +kernel
theorem dX6_spare_19 : decode cX6_spare 19 = .ok (.invokevirtual 122, 3) := by decide +kernel
theorem dX6_spare_22 : decode cX6_spare 22 = .ok (.iload_n 1, 1) := by decide +kernel
theorem dX6_spare_23 : decode cX6_spare 23 = .ok (.aload_n 0, 1) := by decide +kernel
theorem dX6_spare_24 : decode cX6_spare 24 = .ok (.iload_n 2, 1) := by decide +kernel
theorem dX6_spare_25 : decode cX6_spare 25 = .ok (.invokevirtual 108, 3) := by decide +kernel
theorem dX6_spare_28 : decode cX6_spare 28 = .ok (.ifCond .eq 18, 3) := by decide +kernel
theorem dX6_spare_31 : decode cX6_spare 31 = .ok (.aload_n 0, 1) := by decide +kernel
theorem dX6_spare_32 : decode cX6_spare 32 = .ok (.getfield 114, 3) := by decide +kernel
theorem dX6_spare_35 : decode cX6_spare 35 = .ok (.lconst 0, 1) := by decide +kernel
theorem dX6_spare_36 : decode cX6_spare 36 = .ok (.lcmp, 1) := by decide +kernel
theorem dX6_spare_37 : decode cX6_spare 37 = .ok (.ifCond .eq 9, 3) := by decide +kernel
theorem dX6_spare_40 : decode cX6_spare 40 = .ok (.iconst 1, 1) := by decide +kernel
theorem dX6_spare_41 : decode cX6_spare 41 = .ok (.iload_n 2, 1) := by decide +kernel
theorem dX6_spare_42 : decode cX6_spare 42 = .ok (.ishl, 1) := by decide +kernel
theorem dX6_spare_43 : decode cX6_spare 43 = .ok (.goto 4, 3) := by decide +kernel
theorem dX6_spare_46 : decode cX6_spare 46 = .ok (.iconst 0, 1) := by decide +kernel
theorem dX6_spare_47 : decode cX6_spare 47 = .ok (.ior, 1) := by decide +kernel
theorem dX6_spare_48 : decode cX6_spare 48 = .ok (.istore_n 1, 1) := by decide +kernel
theorem dX6_spare_49 : decode cX6_spare 49 = .ok (.iinc 2 1, 3) := by decide +kernel
theorem dX6_spare_52 : decode cX6_spare 52 = .ok (.goto (-48), 3) := by decide +kernel
theorem dX6_spare_55 : decode cX6_spare 55 = .ok (.iload_n 1, 1) := by decide +kernel
theorem dX6_spare_56 : decode cX6_spare 56 = .ok (.ireturn, 1) := by decide +kernel
set_option maxRecDepth 20000 in
theorem ggX6_gravest_X6_in : GoodIn wsX6_gravest wsX6_in := goodIn_r _ [9] (by decide +kernel) (by decide +kernel)
set_option maxRecDepth 20000 in
theorem gX6_gravest_X6_in : GoodIn wsX6_gravest (va_wsS RX6 67 yX6_in wsX6_in) := goodIn_app (goodIn_of _ (by decide +kernel)) ggX6_gravest_X6_in
set_option maxRecDepth 20000 in
theorem ggX6_gravest_X6_copies : GoodIn wsX6_gravest wsX6_copies := goodIn_r _ [12] (by decide +kernel) (by decide +kernel)
set_option maxRecDepth 20000 in
theorem gX6_gravest_X6_copies : GoodIn wsX6_gravest (va_wsS RX6 179 yX6_copies wsX6_copies) := goodIn_app (goodIn_of _ (by decide +kernel)) ggX6_gravest_X6_copies
set_option maxRecDepth 20000 in
theorem ggX6_gravest_X6_works : GoodIn wsX6_gravest wsX6_works := goodIn_r _ [16, 2, 17, 18, 8, 19, 96, 97, 98, 99, 100, 101, 102, 103, 104, 105, 106] (by decide +kernel) (by decide +kernel)
set_option maxRecDepth 20000 in
theorem gX6_gravest_X6_works : GoodIn wsX6_gravest (wsV RX6 108 RX6 yX6_works wsX6_works) := goodIn_app (goodIn_of _ (by decide +kernel)) ggX6_gravest_X6_works
set_option maxRecDepth 20000 in
theorem ggX6_gravest_X6_wheelAt : GoodIn wsX6_gravest wsX6_wheelAt := goodIn_r _ [19] (by decide +kernel) (by decide +kernel)
set_option maxRecDepth 20000 in
theorem gX6_gravest_X6_wheelAt : GoodIn wsX6_gravest (va_wsS RX6 71 yX6_wheelAt wsX6_wheelAt) := goodIn_app (goodIn_of _ (by decide +kernel)) ggX6_gravest_X6_wheelAt
set_option maxRecDepth 20000 in
theorem ggX6_gravest_X6_passes : GoodIn wsX6_gravest wsX6_passes := goodIn_r _ [23, 2, 24, 25, 26, 27, 8, 28, 29, 30, 31, 32, 33, 34, 35, 36, 37, 38, 39, 40, 41, 42, 4, 43, 44, 45, 46, 47, 48, 49, 50, 51, 52, 53, 54, 55, 13, 14, 15, 16, 17, 18, 19, 56, 57, 58, 59, 60, 61, 62, 63, 64, 65, 66, 67, 68, 69, 70, 71, 72, 73, 74, 75, 76, 77, 78, 79, 80, 81, 82, 83, 84, 85, 86, 87, 88, 89, 90, 91, 92, 96, 97, 98, 99, 100, 101, 102, 103, 104, 105, 106] (by decide +kernel) (by decide +kernel)
set_option maxRecDepth 20000 in
theorem gX6_gravest_X6_passes : GoodIn wsX6_gravest (wsV RX6 162 RX6 yX6_passes wsX6_passes) := goodIn_app (goodIn_of _ (by decide +kernel)) ggX6_gravest_X6_passes
set_option maxRecDepth 20000 in
theorem ggX6_gravest_X6_axisAt : GoodIn wsX6_gravest wsX6_axisAt := goodIn_r _ [28] (by decide +kernel) (by decide +kernel)
set_option maxRecDepth 20000 in
theorem gX6_gravest_X6_axisAt : GoodIn wsX6_gravest (va_wsS RX6 45 yX6_axisAt wsX6_axisAt) := goodIn_app (goodIn_of _ (by decide +kernel)) ggX6_gravest_X6_axisAt
set_option maxRecDepth 20000 in
theorem ggX6_gravest_X6_size : GoodIn wsX6_gravest wsX6_size := goodIn_r _ [95] (by decide +kernel) (by decide +kernel)
set_option maxRecDepth 20000 in
theorem gX6_gravest_X6_size : GoodIn wsX6_gravest (va_wsS RX6 175 yX6_size wsX6_size) := goodIn_app (goodIn_of _ (by decide +kernel)) ggX6_gravest_X6_size
theorem dX6_gravest_0 : decode cX6_gravest 0 = .ok (.iload_n 1, 1) := by decide +kernel
theorem dX6_gravest_1 : decode cX6_gravest 1 = .ok (.iconst 1, 1) := by decide +kernel
theorem dX6_gravest_2 : decode cX6_gravest 2 = .ok (.bipush 100, 2) := by decide +kernel
theorem dX6_gravest_4 : decode cX6_gravest 4 = .ok (.invokestatic 67, 3) := by decide +kernel
theorem dX6_gravest_7 : decode cX6_gravest 7 = .ok (.ifCond .ne 6, 3) := by decide +kernel
theorem dX6_gravest_10 : decode cX6_gravest 10 = .ok (.ldc 80, 2) := by decide +kernel
theorem dX6_gravest_12 : decode cX6_gravest 12 = .ok (.ireturn, 1) := by decide +kernel
theorem dX6_gravest_13 : decode cX6_gravest 13 = .ok (.aload_n 0, 1) := by decide +kernel
theorem dX6_gravest_14 : decode cX6_gravest 14 = .ok (.getfield 7, 3) := by decide +kernel
theorem dX6_gravest_17 : decode cX6_gravest 17 = .ok (.aload_n 0, 1) := by decide +kernel
theorem dX6_gravest_18 : decode cX6_gravest 18 = .ok (.getfield 13, 3) := by decide +kernel
theorem dX6_gravest_21 : decode cX6_gravest 21 = .ok (.invokestatic 179, 3) := by decide +kernel
theorem dX6_gravest_24 : decode cX6_gravest 24 = .ok (.ldc 121, 2) := by decide +kernel
theorem dX6_gravest_26 : decode cX6_gravest 26 = .ok (.istore_n 2, 1) := by decide +kernel
theorem dX6_gravest_27 : decode cX6_gravest 27 = .ok (.ldc2_w 186, 3) := by decide +kernel
theorem dX6_gravest_30 : decode cX6_gravest 30 = .ok (.lstore_n 3, 1) := by decide +kernel
theorem dX6_gravest_31 : decode cX6_gravest 31 = .ok (.iconst 0, 1) := by decide +kernel
theorem dX6_gravest_32 : decode cX6_gravest 32 = .ok (.istore 5, 2) := by decide +kernel
theorem dX6_gravest_34 : decode cX6_gravest 34 = .ok (.iload 5, 2) := by decide +kernel
theorem dX6_gravest_36 : decode cX6_gravest 36 = .ok (.i2l, 1) := by decide +kernel
theorem dX6_gravest_37 : decode cX6_gravest 37 = .ok (.aload_n 0, 1) := by decide +kernel
theorem dX6_gravest_38 : decode cX6_gravest 38 = .ok (.getfield 13, 3) := by decide +kernel
theorem dX6_gravest_41 : decode cX6_gravest 41 = .ok (.bipush 6, 2) := by decide +kernel
theorem dX6_gravest_43 : decode cX6_gravest 43 = .ok (.laload, 1) := by decide +kernel
theorem dX6_gravest_44 : decode cX6_gravest 44 = .ok (.lcmp, 1) := by decide +kernel
theorem dX6_gravest_45 : decode cX6_gravest 45 = .ok (.ifCond .ge 140, 3) := by decide +kernel
theorem dX6_gravest_48 : decode cX6_gravest 48 = .ok (.aload_n 0, 1) := by decide +kernel
theorem dX6_gravest_49 : decode cX6_gravest 49 = .ok (.iload 5, 2) := by decide +kernel
theorem dX6_gravest_51 : decode cX6_gravest 51 = .ok (.invokevirtual 108, 3) := by decide +kernel
theorem dX6_gravest_54 : decode cX6_gravest 54 = .ok (.ifCond .eq 125, 3) := by decide +kernel
theorem dX6_gravest_57 : decode cX6_gravest 57 = .ok (.aload_n 0, 1) := by decide +kernel
theorem dX6_gravest_58 : decode cX6_gravest 58 = .ok (.getfield 7, 3) := by decide +kernel
theorem dX6_gravest_61 : decode cX6_gravest 61 = .ok (.iload 5, 2) := by decide +kernel
theorem dX6_gravest_63 : decode cX6_gravest 63 = .ok (.bipush 6, 2) := by decide +kernel
theorem dX6_gravest_65 : decode cX6_gravest 65 = .ok (.invokestatic 71, 3) := by decide +kernel
theorem dX6_gravest_68 : decode cX6_gravest 68 = .ok (.lconst 1, 1) := by decide +kernel
theorem dX6_gravest_69 : decode cX6_gravest 69 = .ok (.lastore, 1) := by decide +kernel
theorem dX6_gravest_70 : decode cX6_gravest 70 = .ok (.iconst 0, 1) := by decide +kernel
theorem dX6_gravest_71 : decode cX6_gravest 71 = .ok (.istore 6, 2) := by decide +kernel
theorem dX6_gravest_73 : decode cX6_gravest 73 = .ok (.iload 6, 2) := by decide +kernel
theorem dX6_gravest_75 : decode cX6_gravest 75 = .ok (.iload_n 1, 1) := by decide +kernel
theorem dX6_gravest_76 : decode cX6_gravest 76 = .ok (.if_icmp .ge 15, 3) := by decide +kernel
theorem dX6_gravest_79 : decode cX6_gravest 79 = .ok (.aload_n 0, 1) := by decide +kernel
theorem dX6_gravest_80 : decode cX6_gravest 80 = .ok (.invokevirtual 162, 3) := by decide +kernel
theorem dX6_gravest_83 : decode cX6_gravest 83 = .ok (.istore 7, 2) := by decide +kernel
theorem dX6_gravest_85 : decode cX6_gravest 85 = .ok (.iinc 6 1, 3) := by decide +kernel
theorem dX6_gravest_88 : decode cX6_gravest 88 = .ok (.goto (-15), 3) := by decide +kernel
theorem dX6_gravest_91 : decode cX6_gravest 91 = .ok (.lconst 0, 1) := by decide +kernel
theorem dX6_gravest_92 : decode cX6_gravest 92 = .ok (.lstore 6, 2) := by decide +kernel
theorem dX6_gravest_94 : decode cX6_gravest 94 = .ok (.iconst 0, 1) := by decide +kernel
theorem dX6_gravest_95 : decode cX6_gravest 95 = .ok (.istore 8, 2) := by decide +kernel
theorem dX6_gravest_97 : decode cX6_gravest 97 = .ok (.iload 8, 2) := by decide +kernel
theorem dX6_gravest_99 : decode cX6_gravest 99 = .ok (.iconst 3, 1) := by decide +kernel
theorem dX6_gravest_100 : decode cX6_gravest 100 = .ok (.if_icmp .ge 40, 3) := by decide +kernel
theorem dX6_gravest_103 : decode cX6_gravest 103 = .ok (.lload 6, 2) := by decide +kernel
theorem dX6_gravest_105 : decode cX6_gravest 105 = .ok (.aload_n 0, 1) := by decide +kernel
theorem dX6_gravest_106 : decode cX6_gravest 106 = .ok (.getfield 7, 3) := by decide +kernel
theorem dX6_gravest_109 : decode cX6_gravest 109 = .ok (.iload 8, 2) := by decide +kernel
theorem dX6_gravest_111 : decode cX6_gravest 111 = .ok (.iconst 3, 1) := by decide +kernel
theorem dX6_gravest_112 : decode cX6_gravest 112 = .ok (.invokestatic 45, 3) := by decide +kernel
theorem dX6_gravest_115 : decode cX6_gravest 115 = .ok (.laload, 1) := by decide +kernel
theorem dX6_gravest_116 : decode cX6_gravest 116 = .ok (.aload_n 0, 1) := by decide +kernel
theorem dX6_gravest_117 : decode cX6_gravest 117 = .ok (.getfield 7, 3) := by decide +kernel
theorem dX6_gravest_120 : decode cX6_gravest 120 = .ok (.iload 8, 2) := by decide +kernel
theorem dX6_gravest_122 : decode cX6_gravest 122 = .ok (.iconst 0, 1) := by decide +kernel
theorem dX6_gravest_123 : decode cX6_gravest 123 = .ok (.invokestatic 45, 3) := by decide +kernel
theorem dX6_gravest_126 : decode cX6_gravest 126 = .ok (.laload, 1) := by decide +kernel
theorem dX6_gravest_127 : decode cX6_gravest 127 = .ok (.lsub, 1) := by decide +kernel
theorem dX6_gravest_128 : decode cX6_gravest 128 = .ok (.invokestatic 175, 3) := by decide +kernel
theorem dX6_gravest_131 : decode cX6_gravest 131 = .ok (.ladd, 1) := by decide +kernel
theorem dX6_gravest_132 : decode cX6_gravest 132 = .ok (.lstore 6, 2) := by decide +kernel
theorem dX6_gravest_134 : decode cX6_gravest 134 = .ok (.iinc 8 1, 3) := by decide +kernel
theorem dX6_gravest_137 : decode cX6_gravest 137 = .ok (.goto (-40), 3) := by decide +kernel
theorem dX6_gravest_140 : decode cX6_gravest 140 = .ok (.lload 6, 2) := by decide +kernel
theorem dX6_gravest_142 : decode cX6_gravest 142 = .ok (.lload_n 3, 1) := by decide +kernel
theorem dX6_gravest_143 : decode cX6_gravest 143 = .ok (.lcmp, 1) := by decide +kernel
theorem dX6_gravest_144 : decode cX6_gravest 144 = .ok (.ifCond .le 8, 3) := by decide +kernel
theorem dX6_gravest_147 : decode cX6_gravest 147 = .ok (.iload 5, 2) := by decide +kernel
theorem dX6_gravest_149 : decode cX6_gravest 149 = .ok (.goto 4, 3) := by decide +kernel
theorem dX6_gravest_152 : decode cX6_gravest 152 = .ok (.iload_n 2, 1) := by decide +kernel
theorem dX6_gravest_153 : decode cX6_gravest 153 = .ok (.istore_n 2, 1) := by decide +kernel
theorem dX6_gravest_154 : decode cX6_gravest 154 = .ok (.lload 6, 2) := by decide +kernel
theorem dX6_gravest_156 : decode cX6_gravest 156 = .ok (.lload_n 3, 1) := by decide +kernel
theorem dX6_gravest_157 : decode cX6_gravest 157 = .ok (.lcmp, 1) := by decide +kernel
theorem dX6_gravest_158 : decode cX6_gravest 158 = .ok (.ifCond .le 8, 3) := by decide +kernel
theorem dX6_gravest_161 : decode cX6_gravest 161 = .ok (.lload 6, 2) := by decide +kernel
theorem dX6_gravest_163 : decode cX6_gravest 163 = .ok (.goto 4, 3) := by decide +kernel
theorem dX6_gravest_166 : decode cX6_gravest 166 = .ok (.lload_n 3, 1) := by decide +kernel
theorem dX6_gravest_167 : decode cX6_gravest 167 = .ok (.lstore_n 3, 1) := by decide +kernel
theorem dX6_gravest_168 : decode cX6_gravest 168 = .ok (.aload_n 0, 1) := by decide +kernel
theorem dX6_gravest_169 : decode cX6_gravest 169 = .ok (.getfield 13, 3) := by decide +kernel
theorem dX6_gravest_172 : decode cX6_gravest 172 = .ok (.aload_n 0, 1) := by decide +kernel
theorem dX6_gravest_173 : decode cX6_gravest 173 = .ok (.getfield 7, 3) := by decide +kernel
theorem dX6_gravest_176 : decode cX6_gravest 176 = .ok (.invokestatic 179, 3) := by decide +kernel
theorem dX6_gravest_179 : decode cX6_gravest 179 = .ok (.iinc 5 1, 3) := by decide +kernel
theorem dX6_gravest_182 : decode cX6_gravest 182 = .ok (.goto (-148), 3) := by decide +kernel
theorem dX6_gravest_185 : decode cX6_gravest 185 = .ok (.iload_n 2, 1) := by decide +kernel
theorem dX6_gravest_186 : decode cX6_gravest 186 = .ok (.ireturn, 1) := by decide +kernel
theorem dX6_undo_0 : decode cX6_undo 0 = .ok (.aload_n 0, 1) := by decide +kernel
theorem dX6_undo_1 : decode cX6_undo 1 = .ok (.getfield 57, 3) := by decide +kernel
theorem dX6_undo_4 : decode cX6_undo 4 = .ok (.ifCond .ne 6, 3) := by decide +kernel
theorem dX6_undo_7 : decode cX6_undo 7 = .ok (.ldc 121, 2) := by decide +kernel
theorem dX6_undo_9 : decode cX6_undo 9 = .ok (.ireturn, 1) := by decide +kernel
theorem dX6_undo_10 : decode cX6_undo 10 = .ok (.aload_n 0, 1) := by decide +kernel
theorem dX6_undo_11 : decode cX6_undo 11 = .ok (.dup, 1) := by decide +kernel
theorem dX6_undo_12 : decode cX6_undo 12 = .ok (.getfield 57, 3) := by decide +kernel
theorem dX6_undo_15 : decode cX6_undo 15 = .ok (.iconst 1, 1) := by decide +kernel
theorem dX6_undo_16 : decode cX6_undo 16 = .ok (.isub, 1) := by decide +kernel
theorem dX6_undo_17 : decode cX6_undo 17 = .ok (.putfield 57, 3) := by decide +kernel
theorem dX6_undo_20 : decode cX6_undo 20 = .ok (.iconst 0, 1) := by decide +kernel
theorem dX6_undo_21 : decode cX6_undo 21 = .ok (.istore_n 1, 1) := by decide +kernel
theorem dX6_undo_22 : decode cX6_undo 22 = .ok (.iload_n 1, 1) := by decide +kernel
theorem dX6_undo_23 : decode cX6_undo 23 = .ok (.bipush 100, 2) := by decide +kernel
theorem dX6_undo_25 : decode cX6_undo 25 = .ok (.if_icmp .ge 29, 3) := by decide +kernel
theorem dX6_undo_28 : decode cX6_undo 28 = .ok (.aload_n 0, 1) := by decide +kernel
theorem dX6_undo_29 : decode cX6_undo 29 = .ok (.getfield 7, 3) := by decide +kernel
theorem dX6_undo_32 : decode cX6_undo 32 = .ok (.iload_n 1, 1) := by decide +kernel
theorem dX6_undo_33 : decode cX6_undo 33 = .ok (.aload_n 0, 1) := by decide +kernel
theorem dX6_undo_34 : decode cX6_undo 34 = .ok (.getfield 16, 3) := by decide +kernel
theorem dX6_undo_37 : decode cX6_undo 37 = .ok (.bipush 100, 2) := by decide +kernel
theorem dX6_undo_39 : decode cX6_undo 39 = .ok (.aload_n 0, 1) := by decide +kernel
theorem dX6_undo_40 : decode cX6_undo 40 = .ok (.getfield 57, 3) := by decide +kernel
theorem dX6_undo_43 : decode cX6_undo 43 = .ok (.imul, 1) := by decide +kernel
theorem dX6_undo_44 : decode cX6_undo 44 = .ok (.iload_n 1, 1) := by decide +kernel
theorem dX6_undo_45 : decode cX6_undo 45 = .ok (.iadd, 1) := by decide +kernel
theorem dX6_undo_46 : decode cX6_undo 46 = .ok (.laload, 1) := by decide +kernel
theorem dX6_undo_47 : decode cX6_undo 47 = .ok (.lastore, 1) := by decide +kernel
theorem dX6_undo_48 : decode cX6_undo 48 = .ok (.iinc 1 1, 3) := by decide +kernel
theorem dX6_undo_51 : decode cX6_undo 51 = .ok (.goto (-29), 3) := by decide +kernel
theorem dX6_undo_54 : decode cX6_undo 54 = .ok (.aload_n 0, 1) := by decide +kernel
theorem dX6_undo_55 : decode cX6_undo 55 = .ok (.getfield 57, 3) := by decide +kernel
theorem dX6_undo_58 : decode cX6_undo 58 = .ok (.ireturn, 1) := by decide +kernel
set_option maxRecDepth 20000 in
theorem ggX6_fingerprint_X6_told : GoodIn wsX6_fingerprint wsX6_told := goodIn_r _ [11, 2, 12, 13, 10, 14, 15, 16, 17, 18, 19, 20, 21, 22, 23, 24, 25, 26, 27, 28, 42, 43, 44, 45, 46, 47, 48, 49, 50, 51, 52] (by decide +kernel) (by decide +kernel)
set_option maxRecDepth 20000 in
theorem gX6_fingerprint_X6_told : GoodIn wsX6_fingerprint (wsV RX6 168 RX6 yX6_told wsX6_told) := goodIn_app (goodIn_of _ (by decide +kernel)) ggX6_fingerprint_X6_told
set_option maxRecDepth 20000 in
theorem ggX6_fingerprint_X6_wheelAt : GoodIn wsX6_fingerprint wsX6_wheelAt := goodIn_r _ [28] (by decide +kernel) (by decide +kernel)
set_option maxRecDepth 20000 in
theorem gX6_fingerprint_X6_wheelAt : GoodIn wsX6_fingerprint (va_wsS RX6 71 yX6_wheelAt wsX6_wheelAt) := goodIn_app (goodIn_of _ (by decide +kernel)) ggX6_fingerprint_X6_wheelAt
set_option maxRecDepth 20000 in
theorem ggX6_fingerprint_X6_spans : GoodIn wsX6_fingerprint wsX6_spans := goodIn_r _ [32, 33, 2, 34, 5, 35, 36, 37, 10, 38, 26, 27, 28, 39, 40, 41, 42, 43, 44, 45, 46, 47, 48, 49, 50, 51, 52] (by decide +kernel) (by decide +kernel)
set_option maxRecDepth 20000 in
theorem gX6_fingerprint_X6_spans : GoodIn wsX6_fingerprint (wsV RX6 122 RX6 yX6_spans wsX6_spans) := goodIn_app (goodIn_of _ (by decide +kernel)) ggX6_fingerprint_X6_spans
theorem dX6_fingerprint_0 : decode cX6_fingerprint 0 = .ok (.ldc2_w 188, 3) := by decide +kernel
theorem dX6_fingerprint_3 : decode cX6_fingerprint 3 = .ok (.aload_n 0, 1) := by decide +kernel
theorem dX6_fingerprint_4 : decode cX6_fingerprint 4 = .ok (.getfield 7, 3) := by decide +kernel
theorem dX6_fingerprint_7 : decode cX6_fingerprint 7 = .ok (.iconst 5, 1) := by decide +kernel
theorem dX6_fingerprint_8 : decode cX6_fingerprint 8 = .ok (.laload, 1) := by decide +kernel
theorem dX6_fingerprint_9 : decode cX6_fingerprint 9 = .ok (.ladd, 1) := by decide +kernel
theorem dX6_fingerprint_10 : decode cX6_fingerprint 10 = .ok (.lstore_n 1, 1) := by decide +kernel
theorem dX6_fingerprint_11 : decode cX6_fingerprint 11 = .ok (.iconst 0, 1) := by decide +kernel
theorem dX6_fingerprint_12 : decode cX6_fingerprint 12 = .ok (.istore_n 3, 1) := by decide +kernel
theorem dX6_fingerprint_13 : decode cX6_fingerprint 13 = .ok (.iload_n 3, 1) := by decide +kernel
theorem dX6_fingerprint_14 : decode cX6_fingerprint 14 = .ok (.iconst 5, 1) := by decide +kernel
theorem dX6_fingerprint_15 : decode cX6_fingerprint 15 = .ok (.if_icmp .ge 22, 3) := by decide +kernel
theorem dX6_fingerprint_18 : decode cX6_fingerprint 18 = .ok (.ldc2_w 190, 3) := by decide +kernel
theorem dX6_fingerprint_21 : decode cX6_fingerprint 21 = .ok (.lload_n 1, 1) := by decide +kernel
theorem dX6_fingerprint_22 : decode cX6_fingerprint 22 = .ok (.lmul, 1) := by decide +kernel
theorem dX6_fingerprint_23 : decode cX6_fingerprint 23 = .ok (.aload_n 0, 1) := by decide +kernel
theorem dX6_fingerprint_24 : decode cX6_fingerprint 24 = .ok (.getfield 7, 3) := by decide +kernel
theorem dX6_fingerprint_27 : decode cX6_fingerprint 27 = .ok (.iload_n 3, 1) := by decide +kernel
theorem dX6_fingerprint_28 : decode cX6_fingerprint 28 = .ok (.laload, 1) := by decide +kernel
theorem dX6_fingerprint_29 : decode cX6_fingerprint 29 = .ok (.ladd, 1) := by decide +kernel
theorem dX6_fingerprint_30 : decode cX6_fingerprint 30 = .ok (.lstore_n 1, 1) := by decide +kernel
theorem dX6_fingerprint_31 : decode cX6_fingerprint 31 = .ok (.iinc 3 1, 3) := by decide +kernel
theorem dX6_fingerprint_34 : decode cX6_fingerprint 34 = .ok (.goto (-21), 3) := by decide +kernel
theorem dX6_fingerprint_37 : decode cX6_fingerprint 37 = .ok (.iconst 0, 1) := by decide +kernel
theorem dX6_fingerprint_38 : decode cX6_fingerprint 38 = .ok (.istore_n 3, 1) := by decide +kernel
theorem dX6_fingerprint_39 : decode cX6_fingerprint 39 = .ok (.iload_n 3, 1) := by decide +kernel
theorem dX6_fingerprint_40 : decode cX6_fingerprint 40 = .ok (.iconst 3, 1) := by decide +kernel
theorem dX6_fingerprint_41 : decode cX6_fingerprint 41 = .ok (.if_icmp .ge 39, 3) := by decide +kernel
theorem dX6_fingerprint_44 : decode cX6_fingerprint 44 = .ok (.iconst 0, 1) := by decide +kernel
theorem dX6_fingerprint_45 : decode cX6_fingerprint 45 = .ok (.istore 4, 2) := by decide +kernel
theorem dX6_fingerprint_47 : decode cX6_fingerprint 47 = .ok (.iload 4, 2) := by decide +kernel
theorem dX6_fingerprint_49 : decode cX6_fingerprint 49 = .ok (.bipush 10, 2) := by decide +kernel
theorem dX6_fingerprint_51 : decode cX6_fingerprint 51 = .ok (.if_icmp .ge 23, 3) := by decide +kernel
theorem dX6_fingerprint_54 : decode cX6_fingerprint 54 = .ok (.ldc2_w 190, 3) := by decide +kernel
theorem dX6_fingerprint_57 : decode cX6_fingerprint 57 = .ok (.lload_n 1, 1) := by decide +kernel
theorem dX6_fingerprint_58 : decode cX6_fingerprint 58 = .ok (.lmul, 1) := by decide +kernel
theorem dX6_fingerprint_59 : decode cX6_fingerprint 59 = .ok (.aload_n 0, 1) := by decide +kernel
theorem dX6_fingerprint_60 : decode cX6_fingerprint 60 = .ok (.iload_n 3, 1) := by decide +kernel
theorem dX6_fingerprint_61 : decode cX6_fingerprint 61 = .ok (.iload 4, 2) := by decide +kernel
theorem dX6_fingerprint_63 : decode cX6_fingerprint 63 = .ok (.invokevirtual 168, 3) := by decide +kernel
theorem dX6_fingerprint_66 : decode cX6_fingerprint 66 = .ok (.ladd, 1) := by decide +kernel
theorem dX6_fingerprint_67 : decode cX6_fingerprint 67 = .ok (.lstore_n 1, 1) := by decide +kernel
theorem dX6_fingerprint_68 : decode cX6_fingerprint 68 = .ok (.iinc 4 1, 3) := by decide +kernel
theorem dX6_fingerprint_71 : decode cX6_fingerprint 71 = .ok (.goto (-24), 3) := by decide +kernel
theorem dX6_fingerprint_74 : decode cX6_fingerprint 74 = .ok (.iinc 3 1, 3) := by decide +kernel
theorem dX6_fingerprint_77 : decode cX6_fingerprint 77 = .ok (.goto (-38), 3) := by decide +kernel
theorem dX6_fingerprint_80 : decode cX6_fingerprint 80 = .ok (.ldc2_w 190, 3) := by decide +kernel
theorem dX6_fingerprint_83 : decode cX6_fingerprint 83 = .ok (.lload_n 1, 1) := by decide +kernel
theorem dX6_fingerprint_84 : decode cX6_fingerprint 84 = .ok (.lmul, 1) := by decide +kernel
theorem dX6_fingerprint_85 : decode cX6_fingerprint 85 = .ok (.aload_n 0, 1) := by decide +kernel
theorem dX6_fingerprint_86 : decode cX6_fingerprint 86 = .ok (.getfield 7, 3) := by decide +kernel
theorem dX6_fingerprint_89 : decode cX6_fingerprint 89 = .ok (.bipush 6, 2) := by decide +kernel
theorem dX6_fingerprint_91 : decode cX6_fingerprint 91 = .ok (.laload, 1) := by decide +kernel
theorem dX6_fingerprint_92 : decode cX6_fingerprint 92 = .ok (.ladd, 1) := by decide +kernel
theorem dX6_fingerprint_93 : decode cX6_fingerprint 93 = .ok (.lstore_n 1, 1) := by decide +kernel
theorem dX6_fingerprint_94 : decode cX6_fingerprint 94 = .ok (.iconst 0, 1) := by decide +kernel
theorem dX6_fingerprint_95 : decode cX6_fingerprint 95 = .ok (.istore_n 3, 1) := by decide +kernel
theorem dX6_fingerprint_96 : decode cX6_fingerprint 96 = .ok (.iload_n 3, 1) := by decide +kernel
theorem dX6_fingerprint_97 : decode cX6_fingerprint 97 = .ok (.i2l, 1) := by decide +kernel
theorem dX6_fingerprint_98 : decode cX6_fingerprint 98 = .ok (.aload_n 0, 1) := by decide +kernel
theorem dX6_fingerprint_99 : decode cX6_fingerprint 99 = .ok (.getfield 7, 3) := by decide +kernel
theorem dX6_fingerprint_102 : decode cX6_fingerprint 102 = .ok (.bipush 6, 2) := by decide +kernel
theorem dX6_fingerprint_104 : decode cX6_fingerprint 104 = .ok (.laload, 1) := by decide +kernel
theorem dX6_fingerprint_105 : decode cX6_fingerprint 105 = .ok (.lcmp, 1) := by decide +kernel
theorem dX6_fingerprint_106 : decode cX6_fingerprint 106 = .ok (.ifCond .ge 43, 3) := by decide +kernel
theorem dX6_fingerprint_109 : decode cX6_fingerprint 109 = .ok (.iconst 0, 1) := by decide +kernel
theorem dX6_fingerprint_110 : decode cX6_fingerprint 110 = .ok (.istore 4, 2) := by decide +kernel
theorem dX6_fingerprint_112 : decode cX6_fingerprint 112 = .ok (.iload 4, 2) := by decide +kernel
theorem dX6_fingerprint_114 : decode cX6_fingerprint 114 = .ok (.bipush 8, 2) := by decide +kernel
theorem dX6_fingerprint_116 : decode cX6_fingerprint 116 = .ok (.if_icmp .ge 27, 3) := by decide +kernel
theorem dX6_fingerprint_119 : decode cX6_fingerprint 119 = .ok (.ldc2_w 190, 3) := by decide +kernel
theorem dX6_fingerprint_122 : decode cX6_fingerprint 122 = .ok (.lload_n 1, 1) := by decide +kernel
theorem dX6_fingerprint_123 : decode cX6_fingerprint 123 = .ok (.lmul, 1) := by decide +kernel
theorem dX6_fingerprint_124 : decode cX6_fingerprint 124 = .ok (.aload_n 0, 1) := by decide +kernel
theorem dX6_fingerprint_125 : decode cX6_fingerprint 125 = .ok (.getfield 7, 3) := by decide +kernel
theorem dX6_fingerprint_128 : decode cX6_fingerprint 128 = .ok (.iload_n 3, 1) := by decide +kernel
theorem dX6_fingerprint_129 : decode cX6_fingerprint 129 = .ok (.iload 4, 2) := by decide +kernel
theorem dX6_fingerprint_131 : decode cX6_fingerprint 131 = .ok (.invokestatic 71, 3) := by decide +kernel
theorem dX6_fingerprint_134 : decode cX6_fingerprint 134 = .ok (.laload, 1) := by decide +kernel
theorem dX6_fingerprint_135 : decode cX6_fingerprint 135 = .ok (.ladd, 1) := by decide +kernel
theorem dX6_fingerprint_136 : decode cX6_fingerprint 136 = .ok (.lstore_n 1, 1) := by decide +kernel
theorem dX6_fingerprint_137 : decode cX6_fingerprint 137 = .ok (.iinc 4 1, 3) := by decide +kernel
theorem dX6_fingerprint_140 : decode cX6_fingerprint 140 = .ok (.goto (-28), 3) := by decide +kernel
theorem dX6_fingerprint_143 : decode cX6_fingerprint 143 = .ok (.iinc 3 1, 3) := by decide +kernel
theorem dX6_fingerprint_146 : decode cX6_fingerprint 146 = .ok (.goto (-50), 3) := by decide +kernel
theorem dX6_fingerprint_149 : decode cX6_fingerprint 149 = .ok (.aload_n 0, 1) := by decide +kernel
theorem dX6_fingerprint_150 : decode cX6_fingerprint 150 = .ok (.ldc 121, 2) := by decide +kernel
theorem dX6_fingerprint_152 : decode cX6_fingerprint 152 = .ok (.invokevirtual 122, 3) := by decide +kernel
theorem dX6_fingerprint_155 : decode cX6_fingerprint 155 = .ok (.ldc2_w 190, 3) := by decide +kernel
theorem dX6_fingerprint_158 : decode cX6_fingerprint 158 = .ok (.lload_n 1, 1) := by decide +kernel
theorem dX6_fingerprint_159 : decode cX6_fingerprint 159 = .ok (.lmul, 1) := by decide +kernel
theorem dX6_fingerprint_160 : decode cX6_fingerprint 160 = .ok (.aload_n 0, 1) := by decide +kernel
theorem dX6_fingerprint_161 : decode cX6_fingerprint 161 = .ok (.getfield 114, 3) := by decide +kernel
theorem dX6_fingerprint_164 : decode cX6_fingerprint 164 = .ok (.ladd, 1) := by decide +kernel
theorem dX6_fingerprint_165 : decode cX6_fingerprint 165 = .ok (.lstore_n 1, 1) := by decide +kernel
theorem dX6_fingerprint_166 : decode cX6_fingerprint 166 = .ok (.iconst 0, 1) := by decide +kernel
theorem dX6_fingerprint_167 : decode cX6_fingerprint 167 = .ok (.istore_n 3, 1) := by decide +kernel
theorem dX6_fingerprint_168 : decode cX6_fingerprint 168 = .ok (.iload_n 3, 1) := by decide +kernel
theorem dX6_fingerprint_169 : decode cX6_fingerprint 169 = .ok (.iconst 3, 1) := by decide +kernel
theorem dX6_fingerprint_170 : decode cX6_fingerprint 170 = .ok (.if_icmp .ge 45, 3) := by decide +kernel
theorem dX6_fingerprint_173 : decode cX6_fingerprint 173 = .ok (.aload_n 0, 1) := by decide +kernel
theorem dX6_fingerprint_174 : decode cX6_fingerprint 174 = .ok (.getfield 7, 3) := by decide +kernel
theorem dX6_fingerprint_177 : decode cX6_fingerprint 177 = .ok (.bipush 8, 2) := by decide +kernel
theorem dX6_fingerprint_179 : decode cX6_fingerprint 179 = .ok (.iload_n 3, 1) := by decide +kernel
theorem dX6_fingerprint_180 : decode cX6_fingerprint 180 = .ok (.iadd, 1) := by decide +kernel
theorem dX6_fingerprint_181 : decode cX6_fingerprint 181 = .ok (.laload, 1) := by decide +kernel
theorem dX6_fingerprint_182 : decode cX6_fingerprint 182 = .ok (.ldc2_w 51, 3) := by decide +kernel
theorem dX6_fingerprint_185 : decode cX6_fingerprint 185 = .ok (.lcmp, 1) := by decide +kernel
theorem dX6_fingerprint_186 : decode cX6_fingerprint 186 = .ok (.ifCond .ne 7, 3) := by decide +kernel
theorem dX6_fingerprint_189 : decode cX6_fingerprint 189 = .ok (.lload_n 1, 1) := by decide +kernel
theorem dX6_fingerprint_190 : decode cX6_fingerprint 190 = .ok (.goto 18, 3) := by decide +kernel
theorem dX6_fingerprint_193 : decode cX6_fingerprint 193 = .ok (.ldc2_w 190, 3) := by decide +kernel
theorem dX6_fingerprint_196 : decode cX6_fingerprint 196 = .ok (.lload_n 1, 1) := by decide +kernel
theorem dX6_fingerprint_197 : decode cX6_fingerprint 197 = .ok (.lmul, 1) := by decide +kernel
theorem dX6_fingerprint_198 : decode cX6_fingerprint 198 = .ok (.aload_n 0, 1) := by decide +kernel
theorem dX6_fingerprint_199 : decode cX6_fingerprint 199 = .ok (.getfield 7, 3) := by decide +kernel
theorem dX6_fingerprint_202 : decode cX6_fingerprint 202 = .ok (.bipush 8, 2) := by decide +kernel
theorem dX6_fingerprint_204 : decode cX6_fingerprint 204 = .ok (.iload_n 3, 1) := by decide +kernel
theorem dX6_fingerprint_205 : decode cX6_fingerprint 205 = .ok (.iadd, 1) := by decide +kernel
theorem dX6_fingerprint_206 : decode cX6_fingerprint 206 = .ok (.laload, 1) := by decide +kernel
theorem dX6_fingerprint_207 : decode cX6_fingerprint 207 = .ok (.ladd, 1) := by decide +kernel
theorem dX6_fingerprint_208 : decode cX6_fingerprint 208 = .ok (.lstore_n 1, 1) := by decide +kernel
theorem dX6_fingerprint_209 : decode cX6_fingerprint 209 = .ok (.iinc 3 1, 3) := by decide +kernel
theorem dX6_fingerprint_212 : decode cX6_fingerprint 212 = .ok (.goto (-44), 3) := by decide +kernel
theorem dX6_fingerprint_215 : decode cX6_fingerprint 215 = .ok (.lload_n 1, 1) := by decide +kernel
theorem dX6_fingerprint_216 : decode cX6_fingerprint 216 = .ok (.lreturn, 1) := by decide +kernel
