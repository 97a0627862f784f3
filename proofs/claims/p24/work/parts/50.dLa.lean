theorem dL_cell_0 : decode cL_cell 0 = .ok (.iload_n 1, 1) := by decide +kernel
theorem dL_cell_1 : decode cL_cell 1 = .ok (.aload_n 0, 1) := by decide +kernel
theorem dL_cell_2 : decode cL_cell 2 = .ok (.arraylength, 1) := by decide +kernel
theorem dL_cell_3 : decode cL_cell 3 = .ok (.if_icmp .ge 9, 3) := by decide +kernel
theorem dL_cell_6 : decode cL_cell 6 = .ok (.aload_n 0, 1) := by decide +kernel
theorem dL_cell_7 : decode cL_cell 7 = .ok (.iload_n 1, 1) := by decide +kernel
theorem dL_cell_8 : decode cL_cell 8 = .ok (.iaload, 1) := by decide +kernel
theorem dL_cell_9 : decode cL_cell 9 = .ok (.goto 9, 3) := by decide +kernel
theorem dL_cell_12 : decode cL_cell 12 = .ok (.ldc 7, 2) := by decide +kernel
theorem dL_cell_14 : decode cL_cell 14 = .ok (.iload_n 1, 1) := by decide +kernel
theorem dL_cell_15 : decode cL_cell 15 = .ok (.iconst 3, 1) := by decide +kernel
theorem dL_cell_16 : decode cL_cell 16 = .ok (.iadd, 1) := by decide +kernel
theorem dL_cell_17 : decode cL_cell 17 = .ok (.imul, 1) := by decide +kernel
theorem dL_cell_18 : decode cL_cell 18 = .ok (.ireturn, 1) := by decide +kernel
theorem dL_up_0 : decode cL_up 0 = .ok (.iload_n 0, 1) := by decide +kernel
theorem dL_up_1 : decode cL_up 1 = .ok (.ldc 8, 2) := by decide +kernel
theorem dL_up_3 : decode cL_up 3 = .ok (.iand, 1) := by decide +kernel
theorem dL_up_4 : decode cL_up 4 = .ok (.iload_n 1, 1) := by decide +kernel
theorem dL_up_5 : decode cL_up 5 = .ok (.irem, 1) := by decide +kernel
theorem dL_up_6 : decode cL_up 6 = .ok (.ireturn, 1) := by decide +kernel
theorem dL_fails_0 : decode cL_fails 0 = .ok (.aload_n 0, 1) := by decide +kernel
theorem dL_fails_1 : decode cL_fails 1 = .ok (.invokevirtual 9, 3) := by decide +kernel
theorem dL_fails_4 : decode cL_fails 4 = .ok (.lstore_n 2, 1) := by decide +kernel
theorem dL_fails_5 : decode cL_fails 5 = .ok (.aload_n 0, 1) := by decide +kernel
theorem dL_fails_6 : decode cL_fails 6 = .ok (.bipush 10, 2) := by decide +kernel
theorem dL_fails_8 : decode cL_fails 8 = .ok (.iconst 0, 1) := by decide +kernel
theorem dL_fails_9 : decode cL_fails 9 = .ok (.iconst 0, 1) := by decide +kernel
theorem dL_fails_10 : decode cL_fails 10 = .ok (.iconst 1, 1) := by decide +kernel
theorem dL_fails_11 : decode cL_fails 11 = .ok (.iconst 1, 1) := by decide +kernel
theorem dL_fails_12 : decode cL_fails 12 = .ok (.invokevirtual 15, 3) := by decide +kernel
theorem dL_fails_15 : decode cL_fails 15 = .ok (.ldc 21, 2) := by decide +kernel
theorem dL_fails_17 : decode cL_fails 17 = .ok (.if_icmp .ne 158, 3) := by decide +kernel
theorem dL_fails_20 : decode cL_fails 20 = .ok (.aload_n 0, 1) := by decide +kernel
theorem dL_fails_21 : decode cL_fails 21 = .ok (.iconst 0, 1) := by decide +kernel
theorem dL_fails_22 : decode cL_fails 22 = .ok (.iconst 0, 1) := by decide +kernel
theorem dL_fails_23 : decode cL_fails 23 = .ok (.iconst 0, 1) := by decide +kernel
theorem dL_fails_24 : decode cL_fails 24 = .ok (.iconst 1, 1) := by decide +kernel
theorem dL_fails_25 : decode cL_fails 25 = .ok (.iconst 1, 1) := by decide +kernel
theorem dL_fails_26 : decode cL_fails 26 = .ok (.invokevirtual 15, 3) := by decide +kernel
theorem dL_fails_29 : decode cL_fails 29 = .ok (.ldc 21, 2) := by decide +kernel
theorem dL_fails_31 : decode cL_fails 31 = .ok (.if_icmp .ne 144, 3) := by decide +kernel
theorem dL_fails_34 : decode cL_fails 34 = .ok (.aload_n 0, 1) := by decide +kernel
theorem dL_fails_35 : decode cL_fails 35 = .ok (.iconst 1, 1) := by decide +kernel
theorem dL_fails_36 : decode cL_fails 36 = .ok (.iconst 0, 1) := by decide +kernel
theorem dL_fails_37 : decode cL_fails 37 = .ok (.iconst 0, 1) := by decide +kernel
theorem dL_fails_38 : decode cL_fails 38 = .ok (.iconst 0, 1) := by decide +kernel
theorem dL_fails_39 : decode cL_fails 39 = .ok (.iconst 1, 1) := by decide +kernel
theorem dL_fails_40 : decode cL_fails 40 = .ok (.invokevirtual 15, 3) := by decide +kernel
theorem dL_fails_43 : decode cL_fails 43 = .ok (.ldc 21, 2) := by decide +kernel
theorem dL_fails_45 : decode cL_fails 45 = .ok (.if_icmp .ne 130, 3) := by decide +kernel
theorem dL_fails_48 : decode cL_fails 48 = .ok (.aload_n 0, 1) := by decide +kernel
theorem dL_fails_49 : decode cL_fails 49 = .ok (.iconst 1, 1) := by decide +kernel
theorem dL_fails_50 : decode cL_fails 50 = .ok (.iconst 0, 1) := by decide +kernel
theorem dL_fails_51 : decode cL_fails 51 = .ok (.iconst 0, 1) := by decide +kernel
theorem dL_fails_52 : decode cL_fails 52 = .ok (.iconst 1, 1) := by decide +kernel
theorem dL_fails_53 : decode cL_fails 53 = .ok (.ldc 22, 2) := by decide +kernel
theorem dL_fails_55 : decode cL_fails 55 = .ok (.invokevirtual 15, 3) := by decide +kernel
theorem dL_fails_58 : decode cL_fails 58 = .ok (.ldc 21, 2) := by decide +kernel
theorem dL_fails_60 : decode cL_fails 60 = .ok (.if_icmp .ne 115, 3) := by decide +kernel
theorem dL_fails_63 : decode cL_fails 63 = .ok (.aload_n 0, 1) := by decide +kernel
theorem dL_fails_64 : decode cL_fails 64 = .ok (.iload_n 1, 1) := by decide +kernel
theorem dL_fails_65 : decode cL_fails 65 = .ok (.iconst 1, 1) := by decide +kernel
theorem dL_fails_66 : decode cL_fails 66 = .ok (.invokevirtual 23, 3) := by decide +kernel
theorem dL_fails_69 : decode cL_fails 69 = .ok (.ldc 21, 2) := by decide +kernel
theorem dL_fails_71 : decode cL_fails 71 = .ok (.if_icmp .ne 104, 3) := by decide +kernel
theorem dL_fails_74 : decode cL_fails 74 = .ok (.aload_n 0, 1) := by decide +kernel
theorem dL_fails_75 : decode cL_fails 75 = .ok (.iload_n 1, 1) := by decide +kernel
theorem dL_fails_76 : decode cL_fails 76 = .ok (.iconst 1, 1) := by decide +kernel
theorem dL_fails_77 : decode cL_fails 77 = .ok (.iconst 1, 1) := by decide +kernel
theorem dL_fails_78 : decode cL_fails 78 = .ok (.invokevirtual 27, 3) := by decide +kernel
theorem dL_fails_81 : decode cL_fails 81 = .ok (.ldc 21, 2) := by decide +kernel
theorem dL_fails_83 : decode cL_fails 83 = .ok (.if_icmp .ne 92, 3) := by decide +kernel
theorem dL_fails_86 : decode cL_fails 86 = .ok (.aload_n 0, 1) := by decide +kernel
theorem dL_fails_87 : decode cL_fails 87 = .ok (.iconst 0, 1) := by decide +kernel
theorem dL_fails_88 : decode cL_fails 88 = .ok (.iconst 1, 1) := by decide +kernel
theorem dL_fails_89 : decode cL_fails 89 = .ok (.iconst 0, 1) := by decide +kernel
theorem dL_fails_90 : decode cL_fails 90 = .ok (.invokevirtual 27, 3) := by decide +kernel
theorem dL_fails_93 : decode cL_fails 93 = .ok (.ldc 21, 2) := by decide +kernel
theorem dL_fails_95 : decode cL_fails 95 = .ok (.if_icmp .ne 80, 3) := by decide +kernel
theorem dL_fails_98 : decode cL_fails 98 = .ok (.aload_n 0, 1) := by decide +kernel
theorem dL_fails_99 : decode cL_fails 99 = .ok (.iconst 0, 1) := by decide +kernel
theorem dL_fails_100 : decode cL_fails 100 = .ok (.iconst 1, 1) := by decide +kernel
theorem dL_fails_101 : decode cL_fails 101 = .ok (.ldc 22, 2) := by decide +kernel
theorem dL_fails_103 : decode cL_fails 103 = .ok (.invokevirtual 27, 3) := by decide +kernel
theorem dL_fails_106 : decode cL_fails 106 = .ok (.ldc 21, 2) := by decide +kernel
theorem dL_fails_108 : decode cL_fails 108 = .ok (.if_icmp .ne 67, 3) := by decide +kernel
theorem dL_fails_111 : decode cL_fails 111 = .ok (.aload_n 0, 1) := by decide +kernel
theorem dL_fails_112 : decode cL_fails 112 = .ok (.iload_n 1, 1) := by decide +kernel
theorem dL_fails_113 : decode cL_fails 113 = .ok (.iconst 0, 1) := by decide +kernel
theorem dL_fails_114 : decode cL_fails 114 = .ok (.invokevirtual 31, 3) := by decide +kernel
theorem dL_fails_117 : decode cL_fails 117 = .ok (.ldc 21, 2) := by decide +kernel
theorem dL_fails_119 : decode cL_fails 119 = .ok (.if_icmp .ne 56, 3) := by decide +kernel
theorem dL_fails_122 : decode cL_fails 122 = .ok (.aload_n 0, 1) := by decide +kernel
theorem dL_fails_123 : decode cL_fails 123 = .ok (.iconst 0, 1) := by decide +kernel
theorem dL_fails_124 : decode cL_fails 124 = .ok (.bipush 8, 2) := by decide +kernel
theorem dL_fails_126 : decode cL_fails 126 = .ok (.invokevirtual 31, 3) := by decide +kernel
theorem dL_fails_129 : decode cL_fails 129 = .ok (.ldc 21, 2) := by decide +kernel
theorem dL_fails_131 : decode cL_fails 131 = .ok (.if_icmp .ne 44, 3) := by decide +kernel
theorem dL_fails_134 : decode cL_fails 134 = .ok (.aload_n 0, 1) := by decide +kernel
theorem dL_fails_135 : decode cL_fails 135 = .ok (.iconst 3, 1) := by decide +kernel
theorem dL_fails_136 : decode cL_fails 136 = .ok (.iconst 0, 1) := by decide +kernel
theorem dL_fails_137 : decode cL_fails 137 = .ok (.iconst 1, 1) := by decide +kernel
theorem dL_fails_138 : decode cL_fails 138 = .ok (.invokevirtual 35, 3) := by decide +kernel
theorem dL_fails_141 : decode cL_fails 141 = .ok (.ldc 21, 2) := by decide +kernel
theorem dL_fails_143 : decode cL_fails 143 = .ok (.if_icmp .ne 32, 3) := by decide +kernel
theorem dL_fails_146 : decode cL_fails 146 = .ok (.aload_n 0, 1) := by decide +kernel
theorem dL_fails_147 : decode cL_fails 147 = .ok (.iconst 0, 1) := by decide +kernel
theorem dL_fails_148 : decode cL_fails 148 = .ok (.iconst 0, 1) := by decide +kernel
theorem dL_fails_149 : decode cL_fails 149 = .ok (.iconst 0, 1) := by decide +kernel
theorem dL_fails_150 : decode cL_fails 150 = .ok (.invokevirtual 35, 3) := by decide +kernel
theorem dL_fails_153 : decode cL_fails 153 = .ok (.ldc 21, 2) := by decide +kernel
theorem dL_fails_155 : decode cL_fails 155 = .ok (.if_icmp .ne 20, 3) := by decide +kernel
theorem dL_fails_158 : decode cL_fails 158 = .ok (.aload_n 0, 1) := by decide +kernel
theorem dL_fails_159 : decode cL_fails 159 = .ok (.iconst 0, 1) := by decide +kernel
theorem dL_fails_160 : decode cL_fails 160 = .ok (.iconst 1, 1) := by decide +kernel
theorem dL_fails_161 : decode cL_fails 161 = .ok (.ldc 39, 2) := by decide +kernel
theorem dL_fails_163 : decode cL_fails 163 = .ok (.invokevirtual 35, 3) := by decide +kernel
theorem dL_fails_166 : decode cL_fails 166 = .ok (.ldc 21, 2) := by decide +kernel
theorem dL_fails_168 : decode cL_fails 168 = .ok (.if_icmp .ne 7, 3) := by decide +kernel
theorem dL_fails_171 : decode cL_fails 171 = .ok (.iconst 1, 1) := by decide +kernel
theorem dL_fails_172 : decode cL_fails 172 = .ok (.goto 4, 3) := by decide +kernel
theorem dL_fails_175 : decode cL_fails 175 = .ok (.iconst 0, 1) := by decide +kernel
theorem dL_fails_176 : decode cL_fails 176 = .ok (.istore 4, 2) := by decide +kernel
theorem dL_fails_178 : decode cL_fails 178 = .ok (.iload 4, 2) := by decide +kernel
theorem dL_fails_180 : decode cL_fails 180 = .ok (.ifCond .eq 192, 3) := by decide +kernel
theorem dL_fails_183 : decode cL_fails 183 = .ok (.aload_n 0, 1) := by decide +kernel
theorem dL_fails_184 : decode cL_fails 184 = .ok (.iconst 0, 1) := by decide +kernel
theorem dL_fails_185 : decode cL_fails 185 = .ok (.iconst 2, 1) := by decide +kernel
