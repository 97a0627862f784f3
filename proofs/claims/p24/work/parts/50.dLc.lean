theorem dL_fails_436 : decode cL_fails 436 = .ok (.ldc 21, 2) := by decide +kernel
theorem dL_fails_438 : decode cL_fails 438 = .ok (.if_icmp .ne 28, 3) := by decide +kernel
theorem dL_fails_441 : decode cL_fails 441 = .ok (.aload_n 0, 1) := by decide +kernel
theorem dL_fails_442 : decode cL_fails 442 = .ok (.iconst 0, 1) := by decide +kernel
theorem dL_fails_443 : decode cL_fails 443 = .ok (.invokevirtual 70, 3) := by decide +kernel
theorem dL_fails_446 : decode cL_fails 446 = .ok (.ldc 21, 2) := by decide +kernel
theorem dL_fails_448 : decode cL_fails 448 = .ok (.if_icmp .ne 18, 3) := by decide +kernel
theorem dL_fails_451 : decode cL_fails 451 = .ok (.aload_n 0, 1) := by decide +kernel
theorem dL_fails_452 : decode cL_fails 452 = .ok (.bipush 101, 2) := by decide +kernel
theorem dL_fails_454 : decode cL_fails 454 = .ok (.invokevirtual 70, 3) := by decide +kernel
theorem dL_fails_457 : decode cL_fails 457 = .ok (.ldc 21, 2) := by decide +kernel
theorem dL_fails_459 : decode cL_fails 459 = .ok (.if_icmp .ne 7, 3) := by decide +kernel
theorem dL_fails_462 : decode cL_fails 462 = .ok (.iconst 1, 1) := by decide +kernel
theorem dL_fails_463 : decode cL_fails 463 = .ok (.goto 4, 3) := by decide +kernel
theorem dL_fails_466 : decode cL_fails 466 = .ok (.iconst 0, 1) := by decide +kernel
theorem dL_fails_467 : decode cL_fails 467 = .ok (.istore 4, 2) := by decide +kernel
theorem dL_fails_469 : decode cL_fails 469 = .ok (.iload 4, 2) := by decide +kernel
theorem dL_fails_471 : decode cL_fails 471 = .ok (.ifCond .eq 16, 3) := by decide +kernel
theorem dL_fails_474 : decode cL_fails 474 = .ok (.aload_n 0, 1) := by decide +kernel
theorem dL_fails_475 : decode cL_fails 475 = .ok (.invokevirtual 9, 3) := by decide +kernel
theorem dL_fails_478 : decode cL_fails 478 = .ok (.lload_n 2, 1) := by decide +kernel
theorem dL_fails_479 : decode cL_fails 479 = .ok (.lcmp, 1) := by decide +kernel
theorem dL_fails_480 : decode cL_fails 480 = .ok (.ifCond .ne 7, 3) := by decide +kernel
theorem dL_fails_483 : decode cL_fails 483 = .ok (.iconst 1, 1) := by decide +kernel
theorem dL_fails_484 : decode cL_fails 484 = .ok (.goto 4, 3) := by decide +kernel
theorem dL_fails_487 : decode cL_fails 487 = .ok (.iconst 0, 1) := by decide +kernel
theorem dL_fails_488 : decode cL_fails 488 = .ok (.ireturn, 1) := by decide +kernel
theorem dL_keeps_0 : decode cL_keeps 0 = .ok (.iconst 0, 1) := by decide +kernel
theorem dL_keeps_1 : decode cL_keeps 1 = .ok (.istore_n 2, 1) := by decide +kernel
theorem dL_keeps_2 : decode cL_keeps 2 = .ok (.iload_n 2, 1) := by decide +kernel
theorem dL_keeps_3 : decode cL_keeps 3 = .ok (.iconst 3, 1) := by decide +kernel
theorem dL_keeps_4 : decode cL_keeps 4 = .ok (.if_icmp .ge 123, 3) := by decide +kernel
theorem dL_keeps_7 : decode cL_keeps 7 = .ok (.aload_n 0, 1) := by decide +kernel
theorem dL_keeps_8 : decode cL_keeps 8 = .ok (.iload_n 2, 1) := by decide +kernel
theorem dL_keeps_9 : decode cL_keeps 9 = .ok (.iconst 1, 1) := by decide +kernel
theorem dL_keeps_10 : decode cL_keeps 10 = .ok (.invokevirtual 56, 3) := by decide +kernel
theorem dL_keeps_13 : decode cL_keeps 13 = .ok (.lstore_n 3, 1) := by decide +kernel
theorem dL_keeps_14 : decode cL_keeps 14 = .ok (.iconst 0, 1) := by decide +kernel
theorem dL_keeps_15 : decode cL_keeps 15 = .ok (.istore 5, 2) := by decide +kernel
theorem dL_keeps_17 : decode cL_keeps 17 = .ok (.iload 5, 2) := by decide +kernel
theorem dL_keeps_19 : decode cL_keeps 19 = .ok (.iload_n 1, 1) := by decide +kernel
theorem dL_keeps_20 : decode cL_keeps 20 = .ok (.if_icmp .ge 29, 3) := by decide +kernel
theorem dL_keeps_23 : decode cL_keeps 23 = .ok (.lload_n 3, 1) := by decide +kernel
theorem dL_keeps_24 : decode cL_keeps 24 = .ok (.aload_n 0, 1) := by decide +kernel
theorem dL_keeps_25 : decode cL_keeps 25 = .ok (.iload 5, 2) := by decide +kernel
theorem dL_keeps_27 : decode cL_keeps 27 = .ok (.iload_n 2, 1) := by decide +kernel
theorem dL_keeps_28 : decode cL_keeps 28 = .ok (.invokevirtual 31, 3) := by decide +kernel
theorem dL_keeps_31 : decode cL_keeps 31 = .ok (.i2l, 1) := by decide +kernel
theorem dL_keeps_32 : decode cL_keeps 32 = .ok (.aload_n 0, 1) := by decide +kernel
theorem dL_keeps_33 : decode cL_keeps 33 = .ok (.iload 5, 2) := by decide +kernel
theorem dL_keeps_35 : decode cL_keeps 35 = .ok (.iconst 3, 1) := by decide +kernel
theorem dL_keeps_36 : decode cL_keeps 36 = .ok (.invokevirtual 31, 3) := by decide +kernel
theorem dL_keeps_39 : decode cL_keeps 39 = .ok (.i2l, 1) := by decide +kernel
theorem dL_keeps_40 : decode cL_keeps 40 = .ok (.lmul, 1) := by decide +kernel
theorem dL_keeps_41 : decode cL_keeps 41 = .ok (.ladd, 1) := by decide +kernel
theorem dL_keeps_42 : decode cL_keeps 42 = .ok (.lstore_n 3, 1) := by decide +kernel
theorem dL_keeps_43 : decode cL_keeps 43 = .ok (.iinc 5 1, 3) := by decide +kernel
theorem dL_keeps_46 : decode cL_keeps 46 = .ok (.goto (-29), 3) := by decide +kernel
theorem dL_keeps_49 : decode cL_keeps 49 = .ok (.aload_n 0, 1) := by decide +kernel
theorem dL_keeps_50 : decode cL_keeps 50 = .ok (.iload_n 2, 1) := by decide +kernel
theorem dL_keeps_51 : decode cL_keeps 51 = .ok (.iconst 1, 1) := by decide +kernel
theorem dL_keeps_52 : decode cL_keeps 52 = .ok (.invokevirtual 56, 3) := by decide +kernel
theorem dL_keeps_55 : decode cL_keeps 55 = .ok (.lstore 5, 2) := by decide +kernel
theorem dL_keeps_57 : decode cL_keeps 57 = .ok (.aload_n 0, 1) := by decide +kernel
theorem dL_keeps_58 : decode cL_keeps 58 = .ok (.iload_n 2, 1) := by decide +kernel
theorem dL_keeps_59 : decode cL_keeps 59 = .ok (.iconst 2, 1) := by decide +kernel
theorem dL_keeps_60 : decode cL_keeps 60 = .ok (.invokevirtual 56, 3) := by decide +kernel
theorem dL_keeps_63 : decode cL_keeps 63 = .ok (.lstore 7, 2) := by decide +kernel
theorem dL_keeps_65 : decode cL_keeps 65 = .ok (.aload_n 0, 1) := by decide +kernel
theorem dL_keeps_66 : decode cL_keeps 66 = .ok (.iload_n 2, 1) := by decide +kernel
theorem dL_keeps_67 : decode cL_keeps 67 = .ok (.iconst 3, 1) := by decide +kernel
theorem dL_keeps_68 : decode cL_keeps 68 = .ok (.invokevirtual 56, 3) := by decide +kernel
theorem dL_keeps_71 : decode cL_keeps 71 = .ok (.lload_n 3, 1) := by decide +kernel
theorem dL_keeps_72 : decode cL_keeps 72 = .ok (.lcmp, 1) := by decide +kernel
theorem dL_keeps_73 : decode cL_keeps 73 = .ok (.ifCond .ne 46, 3) := by decide +kernel
theorem dL_keeps_76 : decode cL_keeps 76 = .ok (.aload_n 0, 1) := by decide +kernel
theorem dL_keeps_77 : decode cL_keeps 77 = .ok (.iload_n 2, 1) := by decide +kernel
theorem dL_keeps_78 : decode cL_keeps 78 = .ok (.iconst 4, 1) := by decide +kernel
theorem dL_keeps_79 : decode cL_keeps 79 = .ok (.invokevirtual 56, 3) := by decide +kernel
theorem dL_keeps_82 : decode cL_keeps 82 = .ok (.lload_n 3, 1) := by decide +kernel
theorem dL_keeps_83 : decode cL_keeps 83 = .ok (.lcmp, 1) := by decide +kernel
theorem dL_keeps_84 : decode cL_keeps 84 = .ok (.ifCond .ne 35, 3) := by decide +kernel
theorem dL_keeps_87 : decode cL_keeps 87 = .ok (.lload 7, 2) := by decide +kernel
theorem dL_keeps_89 : decode cL_keeps 89 = .ok (.aload_n 0, 1) := by decide +kernel
theorem dL_keeps_90 : decode cL_keeps 90 = .ok (.iload_n 2, 1) := by decide +kernel
theorem dL_keeps_91 : decode cL_keeps 91 = .ok (.iconst 5, 1) := by decide +kernel
theorem dL_keeps_92 : decode cL_keeps 92 = .ok (.invokevirtual 56, 3) := by decide +kernel
theorem dL_keeps_95 : decode cL_keeps 95 = .ok (.lmul, 1) := by decide +kernel
theorem dL_keeps_96 : decode cL_keeps 96 = .ok (.lload 5, 2) := by decide +kernel
theorem dL_keeps_98 : decode cL_keeps 98 = .ok (.lcmp, 1) := by decide +kernel
theorem dL_keeps_99 : decode cL_keeps 99 = .ok (.ifCond .gt 20, 3) := by decide +kernel
theorem dL_keeps_102 : decode cL_keeps 102 = .ok (.lload 7, 2) := by decide +kernel
theorem dL_keeps_104 : decode cL_keeps 104 = .ok (.lconst 1, 1) := by decide +kernel
theorem dL_keeps_105 : decode cL_keeps 105 = .ok (.ladd, 1) := by decide +kernel
theorem dL_keeps_106 : decode cL_keeps 106 = .ok (.aload_n 0, 1) := by decide +kernel
theorem dL_keeps_107 : decode cL_keeps 107 = .ok (.iload_n 2, 1) := by decide +kernel
theorem dL_keeps_108 : decode cL_keeps 108 = .ok (.iconst 5, 1) := by decide +kernel
theorem dL_keeps_109 : decode cL_keeps 109 = .ok (.invokevirtual 56, 3) := by decide +kernel
theorem dL_keeps_112 : decode cL_keeps 112 = .ok (.lmul, 1) := by decide +kernel
theorem dL_keeps_113 : decode cL_keeps 113 = .ok (.lload 5, 2) := by decide +kernel
theorem dL_keeps_115 : decode cL_keeps 115 = .ok (.lcmp, 1) := by decide +kernel
theorem dL_keeps_116 : decode cL_keeps 116 = .ok (.ifCond .gt 5, 3) := by decide +kernel
theorem dL_keeps_119 : decode cL_keeps 119 = .ok (.iconst 0, 1) := by decide +kernel
theorem dL_keeps_120 : decode cL_keeps 120 = .ok (.ireturn, 1) := by decide +kernel
theorem dL_keeps_121 : decode cL_keeps 121 = .ok (.iinc 2 1, 3) := by decide +kernel
theorem dL_keeps_124 : decode cL_keeps 124 = .ok (.goto (-122), 3) := by decide +kernel
theorem dL_keeps_127 : decode cL_keeps 127 = .ok (.iconst 1, 1) := by decide +kernel
theorem dL_keeps_128 : decode cL_keeps 128 = .ok (.ireturn, 1) := by decide +kernel
theorem dL_reasons_0 : decode cL_reasons 0 = .ok (.aload_n 0, 1) := by decide +kernel
theorem dL_reasons_1 : decode cL_reasons 1 = .ok (.iconst 0, 1) := by decide +kernel
theorem dL_reasons_2 : decode cL_reasons 2 = .ok (.invokevirtual 63, 3) := by decide +kernel
theorem dL_reasons_5 : decode cL_reasons 5 = .ok (.istore_n 2, 1) := by decide +kernel
theorem dL_reasons_6 : decode cL_reasons 6 = .ok (.aload_n 0, 1) := by decide +kernel
theorem dL_reasons_7 : decode cL_reasons 7 = .ok (.iconst 1, 1) := by decide +kernel
theorem dL_reasons_8 : decode cL_reasons 8 = .ok (.invokevirtual 63, 3) := by decide +kernel
theorem dL_reasons_11 : decode cL_reasons 11 = .ok (.istore_n 3, 1) := by decide +kernel
theorem dL_reasons_12 : decode cL_reasons 12 = .ok (.iload_n 2, 1) := by decide +kernel
theorem dL_reasons_13 : decode cL_reasons 13 = .ok (.ifCond .lt 33, 3) := by decide +kernel
theorem dL_reasons_16 : decode cL_reasons 16 = .ok (.iload_n 2, 1) := by decide +kernel
theorem dL_reasons_17 : decode cL_reasons 17 = .ok (.iconst 2, 1) := by decide +kernel
theorem dL_reasons_18 : decode cL_reasons 18 = .ok (.if_icmp .gt 28, 3) := by decide +kernel
theorem dL_reasons_21 : decode cL_reasons 21 = .ok (.iload_n 2, 1) := by decide +kernel
theorem dL_reasons_22 : decode cL_reasons 22 = .ok (.ifCond .ne 9, 3) := by decide +kernel
theorem dL_reasons_25 : decode cL_reasons 25 = .ok (.iload_n 3, 1) := by decide +kernel
theorem dL_reasons_26 : decode cL_reasons 26 = .ok (.ldc 66, 2) := by decide +kernel
theorem dL_reasons_28 : decode cL_reasons 28 = .ok (.if_icmp .ne 18, 3) := by decide +kernel
theorem dL_reasons_31 : decode cL_reasons 31 = .ok (.iload_n 2, 1) := by decide +kernel
theorem dL_reasons_32 : decode cL_reasons 32 = .ok (.iconst 2, 1) := by decide +kernel
