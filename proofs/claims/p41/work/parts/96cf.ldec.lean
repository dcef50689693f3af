theorem dL_areMasteries_356 : decode cL_areMasteries 356 = .ok (.iconst 2, 1) := by decide +kernel
theorem dL_areMasteries_357 : decode cL_areMasteries 357 = .ok (.iload_n 3, 1) := by decide +kernel
theorem dL_areMasteries_358 : decode cL_areMasteries 358 = .ok (.iload 5, 2) := by decide +kernel
theorem dL_areMasteries_360 : decode cL_areMasteries 360 = .ok (.invokestatic 136, 3) := by decide +kernel
theorem dL_areMasteries_363 : decode cL_areMasteries 363 = .ok (.bipush 99, 2) := by decide +kernel
theorem dL_areMasteries_365 : decode cL_areMasteries 365 = .ok (.if_icmp .eq 16, 3) := by decide +kernel
theorem dL_areMasteries_368 : decode cL_areMasteries 368 = .ok (.aload_n 0, 1) := by decide +kernel
theorem dL_areMasteries_369 : decode cL_areMasteries 369 = .ok (.iconst 2, 1) := by decide +kernel
theorem dL_areMasteries_370 : decode cL_areMasteries 370 = .ok (.iload_n 3, 1) := by decide +kernel
theorem dL_areMasteries_371 : decode cL_areMasteries 371 = .ok (.iload 5, 2) := by decide +kernel
theorem dL_areMasteries_373 : decode cL_areMasteries 373 = .ok (.invokestatic 136, 3) := by decide +kernel
theorem dL_areMasteries_376 : decode cL_areMasteries 376 = .ok (.bipush 112, 2) := by decide +kernel
theorem dL_areMasteries_378 : decode cL_areMasteries 378 = .ok (.if_icmp .ne 7, 3) := by decide +kernel
theorem dL_areMasteries_381 : decode cL_areMasteries 381 = .ok (.iconst 1, 1) := by decide +kernel
theorem dL_areMasteries_382 : decode cL_areMasteries 382 = .ok (.goto 4, 3) := by decide +kernel
theorem dL_areMasteries_385 : decode cL_areMasteries 385 = .ok (.iconst 0, 1) := by decide +kernel
theorem dL_areMasteries_386 : decode cL_areMasteries 386 = .ok (.istore_n 2, 1) := by decide +kernel
theorem dL_areMasteries_387 : decode cL_areMasteries 387 = .ok (.iinc 5 1, 3) := by decide +kernel
theorem dL_areMasteries_390 : decode cL_areMasteries 390 = .ok (.goto (-105), 3) := by decide +kernel
theorem dL_areMasteries_393 : decode cL_areMasteries 393 = .ok (.iinc 3 1, 3) := by decide +kernel
theorem dL_areMasteries_396 : decode cL_areMasteries 396 = .ok (.goto (-341), 3) := by decide +kernel
theorem dL_areMasteries_399 : decode cL_areMasteries 399 = .ok (.iload_n 2, 1) := by decide +kernel
theorem dL_areMasteries_400 : decode cL_areMasteries 400 = .ok (.ireturn, 1) := by decide +kernel
theorem dL_areCertificates_0 : decode cL_areCertificates 0 = .ok (.iconst 0, 1) := by decide +kernel
theorem dL_areCertificates_1 : decode cL_areCertificates 1 = .ok (.istore_n 3, 1) := by decide +kernel
theorem dL_areCertificates_2 : decode cL_areCertificates 2 = .ok (.aload_n 0, 1) := by decide +kernel
theorem dL_areCertificates_3 : decode cL_areCertificates 3 = .ok (.bipush 13, 2) := by decide +kernel
theorem dL_areCertificates_5 : decode cL_areCertificates 5 = .ok (.aload_n 1, 1) := by decide +kernel
theorem dL_areCertificates_6 : decode cL_areCertificates 6 = .ok (.iconst 5, 1) := by decide +kernel
theorem dL_areCertificates_7 : decode cL_areCertificates 7 = .ok (.iaload, 1) := by decide +kernel
theorem dL_areCertificates_8 : decode cL_areCertificates 8 = .ok (.iconst 0, 1) := by decide +kernel
theorem dL_areCertificates_9 : decode cL_areCertificates 9 = .ok (.invokestatic 136, 3) := by decide +kernel
theorem dL_areCertificates_12 : decode cL_areCertificates 12 = .ok (.sipush (-2001), 3) := by decide +kernel
theorem dL_areCertificates_15 : decode cL_areCertificates 15 = .ok (.if_icmp .ne 23, 3) := by decide +kernel
theorem dL_areCertificates_18 : decode cL_areCertificates 18 = .ok (.aload_n 0, 1) := by decide +kernel
theorem dL_areCertificates_19 : decode cL_areCertificates 19 = .ok (.bipush 14, 2) := by decide +kernel
theorem dL_areCertificates_21 : decode cL_areCertificates 21 = .ok (.aload_n 1, 1) := by decide +kernel
theorem dL_areCertificates_22 : decode cL_areCertificates 22 = .ok (.iconst 1, 1) := by decide +kernel
theorem dL_areCertificates_23 : decode cL_areCertificates 23 = .ok (.iaload, 1) := by decide +kernel
theorem dL_areCertificates_24 : decode cL_areCertificates 24 = .ok (.iconst 0, 1) := by decide +kernel
theorem dL_areCertificates_25 : decode cL_areCertificates 25 = .ok (.invokestatic 136, 3) := by decide +kernel
theorem dL_areCertificates_28 : decode cL_areCertificates 28 = .ok (.sipush (-2001), 3) := by decide +kernel
theorem dL_areCertificates_31 : decode cL_areCertificates 31 = .ok (.if_icmp .ne 7, 3) := by decide +kernel
theorem dL_areCertificates_34 : decode cL_areCertificates 34 = .ok (.iconst 1, 1) := by decide +kernel
theorem dL_areCertificates_35 : decode cL_areCertificates 35 = .ok (.goto 4, 3) := by decide +kernel
theorem dL_areCertificates_38 : decode cL_areCertificates 38 = .ok (.iconst 0, 1) := by decide +kernel
theorem dL_areCertificates_39 : decode cL_areCertificates 39 = .ok (.istore 4, 2) := by decide +kernel
theorem dL_areCertificates_41 : decode cL_areCertificates 41 = .ok (.iconst 0, 1) := by decide +kernel
theorem dL_areCertificates_42 : decode cL_areCertificates 42 = .ok (.istore 5, 2) := by decide +kernel
theorem dL_areCertificates_44 : decode cL_areCertificates 44 = .ok (.iload 5, 2) := by decide +kernel
theorem dL_areCertificates_46 : decode cL_areCertificates 46 = .ok (.aload_n 1, 1) := by decide +kernel
theorem dL_areCertificates_47 : decode cL_areCertificates 47 = .ok (.iconst 5, 1) := by decide +kernel
theorem dL_areCertificates_48 : decode cL_areCertificates 48 = .ok (.iaload, 1) := by decide +kernel
theorem dL_areCertificates_49 : decode cL_areCertificates 49 = .ok (.if_icmp .ge 65, 3) := by decide +kernel
theorem dL_areCertificates_52 : decode cL_areCertificates 52 = .ok (.iload 4, 2) := by decide +kernel
theorem dL_areCertificates_54 : decode cL_areCertificates 54 = .ok (.ifCond .eq 60, 3) := by decide +kernel
theorem dL_areCertificates_57 : decode cL_areCertificates 57 = .ok (.aload_n 0, 1) := by decide +kernel
theorem dL_areCertificates_58 : decode cL_areCertificates 58 = .ok (.bipush 13, 2) := by decide +kernel
theorem dL_areCertificates_60 : decode cL_areCertificates 60 = .ok (.iload 5, 2) := by decide +kernel
theorem dL_areCertificates_62 : decode cL_areCertificates 62 = .ok (.iconst 0, 1) := by decide +kernel
theorem dL_areCertificates_63 : decode cL_areCertificates 63 = .ok (.invokestatic 136, 3) := by decide +kernel
theorem dL_areCertificates_66 : decode cL_areCertificates 66 = .ok (.istore 6, 2) := by decide +kernel
theorem dL_areCertificates_68 : decode cL_areCertificates 68 = .ok (.aload_n 2, 1) := by decide +kernel
theorem dL_areCertificates_69 : decode cL_areCertificates 69 = .ok (.iload 5, 2) := by decide +kernel
theorem dL_areCertificates_71 : decode cL_areCertificates 71 = .ok (.baload, 1) := by decide +kernel
theorem dL_areCertificates_72 : decode cL_areCertificates 72 = .ok (.ifCond .eq 8, 3) := by decide +kernel
theorem dL_areCertificates_75 : decode cL_areCertificates 75 = .ok (.iload 6, 2) := by decide +kernel
theorem dL_areCertificates_77 : decode cL_areCertificates 77 = .ok (.ifCond .ne 7, 3) := by decide +kernel
theorem dL_areCertificates_80 : decode cL_areCertificates 80 = .ok (.iconst 1, 1) := by decide +kernel
theorem dL_areCertificates_81 : decode cL_areCertificates 81 = .ok (.goto 4, 3) := by decide +kernel
theorem dL_areCertificates_84 : decode cL_areCertificates 84 = .ok (.iconst 0, 1) := by decide +kernel
theorem dL_areCertificates_85 : decode cL_areCertificates 85 = .ok (.istore 4, 2) := by decide +kernel
theorem dL_areCertificates_87 : decode cL_areCertificates 87 = .ok (.aload_n 2, 1) := by decide +kernel
theorem dL_areCertificates_88 : decode cL_areCertificates 88 = .ok (.iload 5, 2) := by decide +kernel
theorem dL_areCertificates_90 : decode cL_areCertificates 90 = .ok (.iload 6, 2) := by decide +kernel
theorem dL_areCertificates_92 : decode cL_areCertificates 92 = .ok (.ifCond .ne 7, 3) := by decide +kernel
theorem dL_areCertificates_95 : decode cL_areCertificates 95 = .ok (.iconst 1, 1) := by decide +kernel
theorem dL_areCertificates_96 : decode cL_areCertificates 96 = .ok (.goto 4, 3) := by decide +kernel
theorem dL_areCertificates_99 : decode cL_areCertificates 99 = .ok (.iconst 0, 1) := by decide +kernel
theorem dL_areCertificates_100 : decode cL_areCertificates 100 = .ok (.bastore, 1) := by decide +kernel
theorem dL_areCertificates_101 : decode cL_areCertificates 101 = .ok (.iload_n 3, 1) := by decide +kernel
theorem dL_areCertificates_102 : decode cL_areCertificates 102 = .ok (.iconst 1, 1) := by decide +kernel
theorem dL_areCertificates_103 : decode cL_areCertificates 103 = .ok (.iload 6, 2) := by decide +kernel
theorem dL_areCertificates_105 : decode cL_areCertificates 105 = .ok (.isub, 1) := by decide +kernel
theorem dL_areCertificates_106 : decode cL_areCertificates 106 = .ok (.iadd, 1) := by decide +kernel
theorem dL_areCertificates_107 : decode cL_areCertificates 107 = .ok (.istore_n 3, 1) := by decide +kernel
theorem dL_areCertificates_108 : decode cL_areCertificates 108 = .ok (.iinc 5 1, 3) := by decide +kernel
theorem dL_areCertificates_111 : decode cL_areCertificates 111 = .ok (.goto (-67), 3) := by decide +kernel
theorem dL_areCertificates_114 : decode cL_areCertificates 114 = .ok (.iconst 0, 1) := by decide +kernel
theorem dL_areCertificates_115 : decode cL_areCertificates 115 = .ok (.istore 5, 2) := by decide +kernel
theorem dL_areCertificates_117 : decode cL_areCertificates 117 = .ok (.iload 5, 2) := by decide +kernel
theorem dL_areCertificates_119 : decode cL_areCertificates 119 = .ok (.aload_n 1, 1) := by decide +kernel
theorem dL_areCertificates_120 : decode cL_areCertificates 120 = .ok (.iconst 1, 1) := by decide +kernel
theorem dL_areCertificates_121 : decode cL_areCertificates 121 = .ok (.iaload, 1) := by decide +kernel
theorem dL_areCertificates_122 : decode cL_areCertificates 122 = .ok (.if_icmp .ge 89, 3) := by decide +kernel
theorem dL_areCertificates_125 : decode cL_areCertificates 125 = .ok (.iload 4, 2) := by decide +kernel
theorem dL_areCertificates_127 : decode cL_areCertificates 127 = .ok (.ifCond .eq 84, 3) := by decide +kernel
theorem dL_areCertificates_130 : decode cL_areCertificates 130 = .ok (.iconst 0, 1) := by decide +kernel
theorem dL_areCertificates_131 : decode cL_areCertificates 131 = .ok (.istore 6, 2) := by decide +kernel
theorem dL_areCertificates_133 : decode cL_areCertificates 133 = .ok (.iload 6, 2) := by decide +kernel
theorem dL_areCertificates_135 : decode cL_areCertificates 135 = .ok (.aload_n 1, 1) := by decide +kernel
theorem dL_areCertificates_136 : decode cL_areCertificates 136 = .ok (.iconst 4, 1) := by decide +kernel
theorem dL_areCertificates_137 : decode cL_areCertificates 137 = .ok (.iaload, 1) := by decide +kernel
theorem dL_areCertificates_138 : decode cL_areCertificates 138 = .ok (.if_icmp .ge 67, 3) := by decide +kernel
theorem dL_areCertificates_141 : decode cL_areCertificates 141 = .ok (.iload 4, 2) := by decide +kernel
theorem dL_areCertificates_143 : decode cL_areCertificates 143 = .ok (.ifCond .eq 62, 3) := by decide +kernel
theorem dL_areCertificates_146 : decode cL_areCertificates 146 = .ok (.aload_n 0, 1) := by decide +kernel
theorem dL_areCertificates_147 : decode cL_areCertificates 147 = .ok (.bipush 14, 2) := by decide +kernel
theorem dL_areCertificates_149 : decode cL_areCertificates 149 = .ok (.iload 5, 2) := by decide +kernel
theorem dL_areCertificates_151 : decode cL_areCertificates 151 = .ok (.iload 6, 2) := by decide +kernel
