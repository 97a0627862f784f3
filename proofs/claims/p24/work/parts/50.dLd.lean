theorem dL_reasons_33 : decode cL_reasons 33 = .ok (.if_icmp .eq 15, 3) := by decide +kernel
theorem dL_reasons_36 : decode cL_reasons 36 = .ok (.aload_n 0, 1) := by decide +kernel
theorem dL_reasons_37 : decode cL_reasons 37 = .ok (.iconst 2, 1) := by decide +kernel
theorem dL_reasons_38 : decode cL_reasons 38 = .ok (.invokevirtual 63, 3) := by decide +kernel
theorem dL_reasons_41 : decode cL_reasons 41 = .ok (.ldc 66, 2) := by decide +kernel
theorem dL_reasons_43 : decode cL_reasons 43 = .ok (.if_icmp .eq 5, 3) := by decide +kernel
theorem dL_reasons_46 : decode cL_reasons 46 = .ok (.iconst 0, 1) := by decide +kernel
theorem dL_reasons_47 : decode cL_reasons 47 = .ok (.ireturn, 1) := by decide +kernel
theorem dL_reasons_48 : decode cL_reasons 48 = .ok (.iload_n 2, 1) := by decide +kernel
theorem dL_reasons_49 : decode cL_reasons 49 = .ok (.iconst 2, 1) := by decide +kernel
theorem dL_reasons_50 : decode cL_reasons 50 = .ok (.if_icmp .ne 44, 3) := by decide +kernel
theorem dL_reasons_53 : decode cL_reasons 53 = .ok (.iload_n 3, 1) := by decide +kernel
theorem dL_reasons_54 : decode cL_reasons 54 = .ok (.bipush 20, 2) := by decide +kernel
theorem dL_reasons_56 : decode cL_reasons 56 = .ok (.isub, 1) := by decide +kernel
theorem dL_reasons_57 : decode cL_reasons 57 = .ok (.istore 4, 2) := by decide +kernel
theorem dL_reasons_59 : decode cL_reasons 59 = .ok (.iload 4, 2) := by decide +kernel
theorem dL_reasons_61 : decode cL_reasons 61 = .ok (.ifCond .lt 31, 3) := by decide +kernel
theorem dL_reasons_64 : decode cL_reasons 64 = .ok (.iload 4, 2) := by decide +kernel
theorem dL_reasons_66 : decode cL_reasons 66 = .ok (.iload_n 1, 1) := by decide +kernel
theorem dL_reasons_67 : decode cL_reasons 67 = .ok (.if_icmp .ge 25, 3) := by decide +kernel
theorem dL_reasons_70 : decode cL_reasons 70 = .ok (.aload_n 0, 1) := by decide +kernel
theorem dL_reasons_71 : decode cL_reasons 71 = .ok (.iconst 2, 1) := by decide +kernel
theorem dL_reasons_72 : decode cL_reasons 72 = .ok (.invokevirtual 63, 3) := by decide +kernel
theorem dL_reasons_75 : decode cL_reasons 75 = .ok (.iconst 3, 1) := by decide +kernel
theorem dL_reasons_76 : decode cL_reasons 76 = .ok (.if_icmp .eq 12, 3) := by decide +kernel
theorem dL_reasons_79 : decode cL_reasons 79 = .ok (.aload_n 0, 1) := by decide +kernel
theorem dL_reasons_80 : decode cL_reasons 80 = .ok (.iconst 2, 1) := by decide +kernel
theorem dL_reasons_81 : decode cL_reasons 81 = .ok (.invokevirtual 63, 3) := by decide +kernel
theorem dL_reasons_84 : decode cL_reasons 84 = .ok (.iconst 4, 1) := by decide +kernel
theorem dL_reasons_85 : decode cL_reasons 85 = .ok (.if_icmp .ne 7, 3) := by decide +kernel
theorem dL_reasons_88 : decode cL_reasons 88 = .ok (.iconst 1, 1) := by decide +kernel
theorem dL_reasons_89 : decode cL_reasons 89 = .ok (.goto 4, 3) := by decide +kernel
theorem dL_reasons_92 : decode cL_reasons 92 = .ok (.iconst 0, 1) := by decide +kernel
theorem dL_reasons_93 : decode cL_reasons 93 = .ok (.ireturn, 1) := by decide +kernel
theorem dL_reasons_94 : decode cL_reasons 94 = .ok (.iload_n 2, 1) := by decide +kernel
theorem dL_reasons_95 : decode cL_reasons 95 = .ok (.ifCond .eq 23, 3) := by decide +kernel
theorem dL_reasons_98 : decode cL_reasons 98 = .ok (.iload_n 3, 1) := by decide +kernel
theorem dL_reasons_99 : decode cL_reasons 99 = .ok (.ldc 66, 2) := by decide +kernel
theorem dL_reasons_101 : decode cL_reasons 101 = .ok (.if_icmp .eq 17, 3) := by decide +kernel
theorem dL_reasons_104 : decode cL_reasons 104 = .ok (.iload_n 3, 1) := by decide +kernel
theorem dL_reasons_105 : decode cL_reasons 105 = .ok (.bipush 10, 2) := by decide +kernel
theorem dL_reasons_107 : decode cL_reasons 107 = .ok (.if_icmp .lt 15, 3) := by decide +kernel
theorem dL_reasons_110 : decode cL_reasons 110 = .ok (.iload_n 3, 1) := by decide +kernel
theorem dL_reasons_111 : decode cL_reasons 111 = .ok (.bipush 10, 2) := by decide +kernel
theorem dL_reasons_113 : decode cL_reasons 113 = .ok (.iload_n 1, 1) := by decide +kernel
theorem dL_reasons_114 : decode cL_reasons 114 = .ok (.iadd, 1) := by decide +kernel
theorem dL_reasons_115 : decode cL_reasons 115 = .ok (.if_icmp .ge 7, 3) := by decide +kernel
theorem dL_reasons_118 : decode cL_reasons 118 = .ok (.iconst 1, 1) := by decide +kernel
theorem dL_reasons_119 : decode cL_reasons 119 = .ok (.goto 4, 3) := by decide +kernel
theorem dL_reasons_122 : decode cL_reasons 122 = .ok (.iconst 0, 1) := by decide +kernel
theorem dL_reasons_123 : decode cL_reasons 123 = .ok (.ireturn, 1) := by decide +kernel
theorem dL_size_0 : decode cL_size 0 = .ok (.lload_n 0, 1) := by decide +kernel
theorem dL_size_1 : decode cL_size 1 = .ok (.lconst 0, 1) := by decide +kernel
theorem dL_size_2 : decode cL_size 2 = .ok (.lcmp, 1) := by decide +kernel
theorem dL_size_3 : decode cL_size 3 = .ok (.ifCond .ge 8, 3) := by decide +kernel
theorem dL_size_6 : decode cL_size 6 = .ok (.lload_n 0, 1) := by decide +kernel
theorem dL_size_7 : decode cL_size 7 = .ok (.lneg, 1) := by decide +kernel
theorem dL_size_8 : decode cL_size 8 = .ok (.goto 4, 3) := by decide +kernel
theorem dL_size_11 : decode cL_size 11 = .ok (.lload_n 0, 1) := by decide +kernel
theorem dL_size_12 : decode cL_size 12 = .ok (.lreturn, 1) := by decide +kernel
theorem dL_wishes_0 : decode cL_wishes 0 = .ok (.iconst 3, 1) := by decide +kernel
theorem dL_wishes_1 : decode cL_wishes 1 = .ok (.newarray .long, 2) := by decide +kernel
theorem dL_wishes_3 : decode cL_wishes 3 = .ok (.astore 5, 2) := by decide +kernel
theorem dL_wishes_5 : decode cL_wishes 5 = .ok (.iconst 0, 1) := by decide +kernel
theorem dL_wishes_6 : decode cL_wishes 6 = .ok (.istore 6, 2) := by decide +kernel
theorem dL_wishes_8 : decode cL_wishes 8 = .ok (.iconst 0, 1) := by decide +kernel
theorem dL_wishes_9 : decode cL_wishes 9 = .ok (.istore 7, 2) := by decide +kernel
theorem dL_wishes_11 : decode cL_wishes 11 = .ok (.iload 7, 2) := by decide +kernel
theorem dL_wishes_13 : decode cL_wishes 13 = .ok (.iload_n 1, 1) := by decide +kernel
theorem dL_wishes_14 : decode cL_wishes 14 = .ok (.if_icmp .ge 124, 3) := by decide +kernel
theorem dL_wishes_17 : decode cL_wishes 17 = .ok (.aload_n 0, 1) := by decide +kernel
theorem dL_wishes_18 : decode cL_wishes 18 = .ok (.iload 7, 2) := by decide +kernel
theorem dL_wishes_20 : decode cL_wishes 20 = .ok (.iload_n 2, 1) := by decide +kernel
theorem dL_wishes_21 : decode cL_wishes 21 = .ok (.iload_n 3, 1) := by decide +kernel
theorem dL_wishes_22 : decode cL_wishes 22 = .ok (.iload 4, 2) := by decide +kernel
theorem dL_wishes_24 : decode cL_wishes 24 = .ok (.invokevirtual 59, 3) := by decide +kernel
theorem dL_wishes_27 : decode cL_wishes 27 = .ok (.lstore 8, 2) := by decide +kernel
theorem dL_wishes_29 : decode cL_wishes 29 = .ok (.aload_n 0, 1) := by decide +kernel
theorem dL_wishes_30 : decode cL_wishes 30 = .ok (.iload 7, 2) := by decide +kernel
theorem dL_wishes_32 : decode cL_wishes 32 = .ok (.bipush 6, 2) := by decide +kernel
theorem dL_wishes_34 : decode cL_wishes 34 = .ok (.invokevirtual 31, 3) := by decide +kernel
theorem dL_wishes_37 : decode cL_wishes 37 = .ok (.ifCond .ne 16, 3) := by decide +kernel
theorem dL_wishes_40 : decode cL_wishes 40 = .ok (.aload_n 0, 1) := by decide +kernel
theorem dL_wishes_41 : decode cL_wishes 41 = .ok (.invokevirtual 73, 3) := by decide +kernel
theorem dL_wishes_44 : decode cL_wishes 44 = .ok (.lconst 0, 1) := by decide +kernel
theorem dL_wishes_45 : decode cL_wishes 45 = .ok (.lcmp, 1) := by decide +kernel
theorem dL_wishes_46 : decode cL_wishes 46 = .ok (.ifCond .eq 7, 3) := by decide +kernel
theorem dL_wishes_49 : decode cL_wishes 49 = .ok (.iconst 1, 1) := by decide +kernel
theorem dL_wishes_50 : decode cL_wishes 50 = .ok (.goto 4, 3) := by decide +kernel
theorem dL_wishes_53 : decode cL_wishes 53 = .ok (.iconst 0, 1) := by decide +kernel
theorem dL_wishes_54 : decode cL_wishes 54 = .ok (.istore 10, 2) := by decide +kernel
theorem dL_wishes_56 : decode cL_wishes 56 = .ok (.iload 10, 2) := by decide +kernel
theorem dL_wishes_58 : decode cL_wishes 58 = .ok (.lload 8, 2) := by decide +kernel
theorem dL_wishes_60 : decode cL_wishes 60 = .ok (.ldc2_w 51, 3) := by decide +kernel
theorem dL_wishes_63 : decode cL_wishes 63 = .ok (.lcmp, 1) := by decide +kernel
theorem dL_wishes_64 : decode cL_wishes 64 = .ok (.ifCond .ne 7, 3) := by decide +kernel
theorem dL_wishes_67 : decode cL_wishes 67 = .ok (.iconst 1, 1) := by decide +kernel
theorem dL_wishes_68 : decode cL_wishes 68 = .ok (.goto 4, 3) := by decide +kernel
theorem dL_wishes_71 : decode cL_wishes 71 = .ok (.iconst 0, 1) := by decide +kernel
theorem dL_wishes_72 : decode cL_wishes 72 = .ok (.if_icmp .ne 5, 3) := by decide +kernel
theorem dL_wishes_75 : decode cL_wishes 75 = .ok (.iconst 0, 1) := by decide +kernel
theorem dL_wishes_76 : decode cL_wishes 76 = .ok (.ireturn, 1) := by decide +kernel
theorem dL_wishes_77 : decode cL_wishes 77 = .ok (.iload 6, 2) := by decide +kernel
theorem dL_wishes_79 : decode cL_wishes 79 = .ok (.iload 10, 2) := by decide +kernel
theorem dL_wishes_81 : decode cL_wishes 81 = .ok (.ifCond .eq 7, 3) := by decide +kernel
theorem dL_wishes_84 : decode cL_wishes 84 = .ok (.iconst 1, 1) := by decide +kernel
theorem dL_wishes_85 : decode cL_wishes 85 = .ok (.goto 4, 3) := by decide +kernel
theorem dL_wishes_88 : decode cL_wishes 88 = .ok (.iconst 0, 1) := by decide +kernel
theorem dL_wishes_89 : decode cL_wishes 89 = .ok (.iadd, 1) := by decide +kernel
theorem dL_wishes_90 : decode cL_wishes 90 = .ok (.istore 6, 2) := by decide +kernel
theorem dL_wishes_92 : decode cL_wishes 92 = .ok (.iconst 0, 1) := by decide +kernel
theorem dL_wishes_93 : decode cL_wishes 93 = .ok (.istore 11, 2) := by decide +kernel
theorem dL_wishes_95 : decode cL_wishes 95 = .ok (.iload 11, 2) := by decide +kernel
theorem dL_wishes_97 : decode cL_wishes 97 = .ok (.iconst 3, 1) := by decide +kernel
theorem dL_wishes_98 : decode cL_wishes 98 = .ok (.if_icmp .ge 34, 3) := by decide +kernel
theorem dL_wishes_101 : decode cL_wishes 101 = .ok (.iload 10, 2) := by decide +kernel
theorem dL_wishes_103 : decode cL_wishes 103 = .ok (.ifCond .eq 29, 3) := by decide +kernel
theorem dL_wishes_106 : decode cL_wishes 106 = .ok (.aload 5, 2) := by decide +kernel
theorem dL_wishes_108 : decode cL_wishes 108 = .ok (.iload 11, 2) := by decide +kernel
theorem dL_wishes_110 : decode cL_wishes 110 = .ok (.dup2, 1) := by decide +kernel
theorem dL_wishes_111 : decode cL_wishes 111 = .ok (.laload, 1) := by decide +kernel
theorem dL_wishes_112 : decode cL_wishes 112 = .ok (.aload_n 0, 1) := by decide +kernel
theorem dL_wishes_113 : decode cL_wishes 113 = .ok (.iload 7, 2) := by decide +kernel
theorem dL_wishes_115 : decode cL_wishes 115 = .ok (.iload 11, 2) := by decide +kernel
theorem dL_wishes_117 : decode cL_wishes 117 = .ok (.invokevirtual 31, 3) := by decide +kernel
theorem dL_wishes_120 : decode cL_wishes 120 = .ok (.i2l, 1) := by decide +kernel
theorem dL_wishes_121 : decode cL_wishes 121 = .ok (.lload 8, 2) := by decide +kernel
theorem dL_wishes_123 : decode cL_wishes 123 = .ok (.lmul, 1) := by decide +kernel
