theorem dL_wishes_124 : decode cL_wishes 124 = .ok (.lsub, 1) := by decide +kernel
theorem dL_wishes_125 : decode cL_wishes 125 = .ok (.lastore, 1) := by decide +kernel
theorem dL_wishes_126 : decode cL_wishes 126 = .ok (.iinc 11 1, 3) := by decide +kernel
theorem dL_wishes_129 : decode cL_wishes 129 = .ok (.goto (-34), 3) := by decide +kernel
theorem dL_wishes_132 : decode cL_wishes 132 = .ok (.iinc 7 1, 3) := by decide +kernel
theorem dL_wishes_135 : decode cL_wishes 135 = .ok (.goto (-124), 3) := by decide +kernel
theorem dL_wishes_138 : decode cL_wishes 138 = .ok (.aload_n 0, 1) := by decide +kernel
theorem dL_wishes_139 : decode cL_wishes 139 = .ok (.invokevirtual 73, 3) := by decide +kernel
theorem dL_wishes_142 : decode cL_wishes 142 = .ok (.lconst 0, 1) := by decide +kernel
theorem dL_wishes_143 : decode cL_wishes 143 = .ok (.lcmp, 1) := by decide +kernel
theorem dL_wishes_144 : decode cL_wishes 144 = .ok (.ifCond .lt 79, 3) := by decide +kernel
theorem dL_wishes_147 : decode cL_wishes 147 = .ok (.iload 6, 2) := by decide +kernel
theorem dL_wishes_149 : decode cL_wishes 149 = .ok (.ifCond .eq 61, 3) := by decide +kernel
theorem dL_wishes_152 : decode cL_wishes 152 = .ok (.aload 5, 2) := by decide +kernel
theorem dL_wishes_154 : decode cL_wishes 154 = .ok (.iconst 0, 1) := by decide +kernel
theorem dL_wishes_155 : decode cL_wishes 155 = .ok (.laload, 1) := by decide +kernel
theorem dL_wishes_156 : decode cL_wishes 156 = .ok (.iload_n 2, 1) := by decide +kernel
theorem dL_wishes_157 : decode cL_wishes 157 = .ok (.i2l, 1) := by decide +kernel
theorem dL_wishes_158 : decode cL_wishes 158 = .ok (.lsub, 1) := by decide +kernel
theorem dL_wishes_159 : decode cL_wishes 159 = .ok (.invokestatic 76, 3) := by decide +kernel
theorem dL_wishes_162 : decode cL_wishes 162 = .ok (.iconst 5, 1) := by decide +kernel
theorem dL_wishes_163 : decode cL_wishes 163 = .ok (.iload 6, 2) := by decide +kernel
theorem dL_wishes_165 : decode cL_wishes 165 = .ok (.imul, 1) := by decide +kernel
theorem dL_wishes_166 : decode cL_wishes 166 = .ok (.i2l, 1) := by decide +kernel
theorem dL_wishes_167 : decode cL_wishes 167 = .ok (.lcmp, 1) := by decide +kernel
theorem dL_wishes_168 : decode cL_wishes 168 = .ok (.ifCond .gt 55, 3) := by decide +kernel
theorem dL_wishes_171 : decode cL_wishes 171 = .ok (.aload 5, 2) := by decide +kernel
theorem dL_wishes_173 : decode cL_wishes 173 = .ok (.iconst 1, 1) := by decide +kernel
theorem dL_wishes_174 : decode cL_wishes 174 = .ok (.laload, 1) := by decide +kernel
theorem dL_wishes_175 : decode cL_wishes 175 = .ok (.iload_n 3, 1) := by decide +kernel
theorem dL_wishes_176 : decode cL_wishes 176 = .ok (.i2l, 1) := by decide +kernel
theorem dL_wishes_177 : decode cL_wishes 177 = .ok (.lsub, 1) := by decide +kernel
theorem dL_wishes_178 : decode cL_wishes 178 = .ok (.invokestatic 76, 3) := by decide +kernel
theorem dL_wishes_181 : decode cL_wishes 181 = .ok (.iconst 5, 1) := by decide +kernel
theorem dL_wishes_182 : decode cL_wishes 182 = .ok (.iload 6, 2) := by decide +kernel
theorem dL_wishes_184 : decode cL_wishes 184 = .ok (.imul, 1) := by decide +kernel
theorem dL_wishes_185 : decode cL_wishes 185 = .ok (.i2l, 1) := by decide +kernel
theorem dL_wishes_186 : decode cL_wishes 186 = .ok (.lcmp, 1) := by decide +kernel
theorem dL_wishes_187 : decode cL_wishes 187 = .ok (.ifCond .gt 36, 3) := by decide +kernel
theorem dL_wishes_190 : decode cL_wishes 190 = .ok (.aload 5, 2) := by decide +kernel
theorem dL_wishes_192 : decode cL_wishes 192 = .ok (.iconst 2, 1) := by decide +kernel
theorem dL_wishes_193 : decode cL_wishes 193 = .ok (.laload, 1) := by decide +kernel
theorem dL_wishes_194 : decode cL_wishes 194 = .ok (.iload 4, 2) := by decide +kernel
theorem dL_wishes_196 : decode cL_wishes 196 = .ok (.i2l, 1) := by decide +kernel
theorem dL_wishes_197 : decode cL_wishes 197 = .ok (.lsub, 1) := by decide +kernel
theorem dL_wishes_198 : decode cL_wishes 198 = .ok (.invokestatic 76, 3) := by decide +kernel
theorem dL_wishes_201 : decode cL_wishes 201 = .ok (.iconst 5, 1) := by decide +kernel
theorem dL_wishes_202 : decode cL_wishes 202 = .ok (.iload 6, 2) := by decide +kernel
theorem dL_wishes_204 : decode cL_wishes 204 = .ok (.imul, 1) := by decide +kernel
theorem dL_wishes_205 : decode cL_wishes 205 = .ok (.i2l, 1) := by decide +kernel
theorem dL_wishes_206 : decode cL_wishes 206 = .ok (.lcmp, 1) := by decide +kernel
theorem dL_wishes_207 : decode cL_wishes 207 = .ok (.ifCond .gt 16, 3) := by decide +kernel
theorem dL_wishes_210 : decode cL_wishes 210 = .ok (.aload_n 0, 1) := by decide +kernel
theorem dL_wishes_211 : decode cL_wishes 211 = .ok (.invokevirtual 80, 3) := by decide +kernel
theorem dL_wishes_214 : decode cL_wishes 214 = .ok (.iload_n 1, 1) := by decide +kernel
theorem dL_wishes_215 : decode cL_wishes 215 = .ok (.ishr, 1) := by decide +kernel
theorem dL_wishes_216 : decode cL_wishes 216 = .ok (.ifCond .ne 7, 3) := by decide +kernel
theorem dL_wishes_219 : decode cL_wishes 219 = .ok (.iconst 1, 1) := by decide +kernel
theorem dL_wishes_220 : decode cL_wishes 220 = .ok (.goto 4, 3) := by decide +kernel
theorem dL_wishes_223 : decode cL_wishes 223 = .ok (.iconst 0, 1) := by decide +kernel
theorem dL_wishes_224 : decode cL_wishes 224 = .ok (.ireturn, 1) := by decide +kernel
theorem dL_ticks_0 : decode cL_ticks 0 = .ok (.aload_n 0, 1) := by decide +kernel
theorem dL_ticks_1 : decode cL_ticks 1 = .ok (.invokevirtual 9, 3) := by decide +kernel
theorem dL_ticks_4 : decode cL_ticks 4 = .ok (.lstore 4, 2) := by decide +kernel
theorem dL_ticks_6 : decode cL_ticks 6 = .ok (.aload_n 0, 1) := by decide +kernel
theorem dL_ticks_7 : decode cL_ticks 7 = .ok (.invokevirtual 84, 3) := by decide +kernel
theorem dL_ticks_10 : decode cL_ticks 10 = .ok (.istore 6, 2) := by decide +kernel
theorem dL_ticks_12 : decode cL_ticks 12 = .ok (.aload_n 0, 1) := by decide +kernel
theorem dL_ticks_13 : decode cL_ticks 13 = .ok (.iload_n 3, 1) := by decide +kernel
theorem dL_ticks_14 : decode cL_ticks 14 = .ok (.invokevirtual 67, 3) := by decide +kernel
theorem dL_ticks_17 : decode cL_ticks 17 = .ok (.istore 7, 2) := by decide +kernel
theorem dL_ticks_19 : decode cL_ticks 19 = .ok (.aload_n 0, 1) := by decide +kernel
theorem dL_ticks_20 : decode cL_ticks 20 = .ok (.iconst 1, 1) := by decide +kernel
theorem dL_ticks_21 : decode cL_ticks 21 = .ok (.iload_n 2, 1) := by decide +kernel
theorem dL_ticks_22 : decode cL_ticks 22 = .ok (.bipush 20, 2) := by decide +kernel
theorem dL_ticks_24 : decode cL_ticks 24 = .ok (.irem, 1) := by decide +kernel
theorem dL_ticks_25 : decode cL_ticks 25 = .ok (.iadd, 1) := by decide +kernel
theorem dL_ticks_26 : decode cL_ticks 26 = .ok (.invokevirtual 70, 3) := by decide +kernel
theorem dL_ticks_29 : decode cL_ticks 29 = .ok (.istore 8, 2) := by decide +kernel
theorem dL_ticks_31 : decode cL_ticks 31 = .ok (.aload_n 0, 1) := by decide +kernel
theorem dL_ticks_32 : decode cL_ticks 32 = .ok (.invokevirtual 9, 3) := by decide +kernel
theorem dL_ticks_35 : decode cL_ticks 35 = .ok (.lload 4, 2) := by decide +kernel
theorem dL_ticks_37 : decode cL_ticks 37 = .ok (.lcmp, 1) := by decide +kernel
theorem dL_ticks_38 : decode cL_ticks 38 = .ok (.ifCond .ne 52, 3) := by decide +kernel
theorem dL_ticks_41 : decode cL_ticks 41 = .ok (.iload 7, 2) := by decide +kernel
theorem dL_ticks_43 : decode cL_ticks 43 = .ok (.ldc 66, 2) := by decide +kernel
theorem dL_ticks_45 : decode cL_ticks 45 = .ok (.if_icmp .eq 16, 3) := by decide +kernel
theorem dL_ticks_48 : decode cL_ticks 48 = .ok (.iload 7, 2) := by decide +kernel
theorem dL_ticks_50 : decode cL_ticks 50 = .ok (.ifCond .lt 40, 3) := by decide +kernel
theorem dL_ticks_53 : decode cL_ticks 53 = .ok (.iload 7, 2) := by decide +kernel
theorem dL_ticks_55 : decode cL_ticks 55 = .ok (.sipush 500, 3) := by decide +kernel
theorem dL_ticks_58 : decode cL_ticks 58 = .ok (.if_icmp .gt 32, 3) := by decide +kernel
theorem dL_ticks_61 : decode cL_ticks 61 = .ok (.iload 8, 2) := by decide +kernel
theorem dL_ticks_63 : decode cL_ticks 63 = .ok (.ldc 66, 2) := by decide +kernel
theorem dL_ticks_65 : decode cL_ticks 65 = .ok (.if_icmp .eq 27, 3) := by decide +kernel
theorem dL_ticks_68 : decode cL_ticks 68 = .ok (.iload 8, 2) := by decide +kernel
theorem dL_ticks_70 : decode cL_ticks 70 = .ok (.ifCond .lt 20, 3) := by decide +kernel
theorem dL_ticks_73 : decode cL_ticks 73 = .ok (.iload 8, 2) := by decide +kernel
theorem dL_ticks_75 : decode cL_ticks 75 = .ok (.iload_n 1, 1) := by decide +kernel
theorem dL_ticks_76 : decode cL_ticks 76 = .ok (.if_icmp .ge 14, 3) := by decide +kernel
theorem dL_ticks_79 : decode cL_ticks 79 = .ok (.aload_n 0, 1) := by decide +kernel
theorem dL_ticks_80 : decode cL_ticks 80 = .ok (.iload 8, 2) := by decide +kernel
theorem dL_ticks_82 : decode cL_ticks 82 = .ok (.bipush 6, 2) := by decide +kernel
theorem dL_ticks_84 : decode cL_ticks 84 = .ok (.invokevirtual 31, 3) := by decide +kernel
theorem dL_ticks_87 : decode cL_ticks 87 = .ok (.ifCond .eq 5, 3) := by decide +kernel
theorem dL_ticks_90 : decode cL_ticks 90 = .ok (.iconst 0, 1) := by decide +kernel
theorem dL_ticks_91 : decode cL_ticks 91 = .ok (.ireturn, 1) := by decide +kernel
theorem dL_ticks_92 : decode cL_ticks 92 = .ok (.aload_n 0, 1) := by decide +kernel
theorem dL_ticks_93 : decode cL_ticks 93 = .ok (.iload_n 2, 1) := by decide +kernel
theorem dL_ticks_94 : decode cL_ticks 94 = .ok (.invokevirtual 53, 3) := by decide +kernel
theorem dL_ticks_97 : decode cL_ticks 97 = .ok (.istore 9, 2) := by decide +kernel
theorem dL_ticks_99 : decode cL_ticks 99 = .ok (.iload 9, 2) := by decide +kernel
theorem dL_ticks_101 : decode cL_ticks 101 = .ok (.ifCond .lt 51, 3) := by decide +kernel
theorem dL_ticks_104 : decode cL_ticks 104 = .ok (.iload 9, 2) := by decide +kernel
theorem dL_ticks_106 : decode cL_ticks 106 = .ok (.iload_n 2, 1) := by decide +kernel
theorem dL_ticks_107 : decode cL_ticks 107 = .ok (.if_icmp .gt 45, 3) := by decide +kernel
theorem dL_ticks_110 : decode cL_ticks 110 = .ok (.aload_n 0, 1) := by decide +kernel
theorem dL_ticks_111 : decode cL_ticks 111 = .ok (.invokevirtual 84, 3) := by decide +kernel
theorem dL_ticks_114 : decode cL_ticks 114 = .ok (.iload 6, 2) := by decide +kernel
theorem dL_ticks_116 : decode cL_ticks 116 = .ok (.iload_n 2, 1) := by decide +kernel
theorem dL_ticks_117 : decode cL_ticks 117 = .ok (.iadd, 1) := by decide +kernel
theorem dL_ticks_118 : decode cL_ticks 118 = .ok (.if_icmp .ne 34, 3) := by decide +kernel
theorem dL_ticks_121 : decode cL_ticks 121 = .ok (.aload_n 0, 1) := by decide +kernel
theorem dL_ticks_122 : decode cL_ticks 122 = .ok (.iload_n 1, 1) := by decide +kernel
theorem dL_ticks_123 : decode cL_ticks 123 = .ok (.invokestatic 87, 3) := by decide +kernel
theorem dL_ticks_126 : decode cL_ticks 126 = .ok (.ifCond .eq 26, 3) := by decide +kernel
theorem dL_ticks_129 : decode cL_ticks 129 = .ok (.iload_n 2, 1) := by decide +kernel
theorem dL_ticks_130 : decode cL_ticks 130 = .ok (.iconst 1, 1) := by decide +kernel
