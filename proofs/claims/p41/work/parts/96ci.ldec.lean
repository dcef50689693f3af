theorem dL_isMend_312 : decode cL_isMend 312 = .ok (.iload 11, 2) := by decide +kernel
theorem dL_isMend_314 : decode cL_isMend 314 = .ok (.iload 8, 2) := by decide +kernel
theorem dL_isMend_316 : decode cL_isMend 316 = .ok (.if_icmp .ne 7, 3) := by decide +kernel
theorem dL_isMend_319 : decode cL_isMend 319 = .ok (.iconst 1, 1) := by decide +kernel
theorem dL_isMend_320 : decode cL_isMend 320 = .ok (.goto 4, 3) := by decide +kernel
theorem dL_isMend_323 : decode cL_isMend 323 = .ok (.iconst 0, 1) := by decide +kernel
theorem dL_isMend_324 : decode cL_isMend 324 = .ok (.ireturn, 1) := by decide +kernel
theorem dL_isDay_0 : decode cL_isDay 0 = .ok (.bipush 64, 2) := by decide +kernel
theorem dL_isDay_2 : decode cL_isDay 2 = .ok (.newarray .int, 2) := by decide +kernel
theorem dL_isDay_4 : decode cL_isDay 4 = .ok (.astore_n 3, 1) := by decide +kernel
theorem dL_isDay_5 : decode cL_isDay 5 = .ok (.iconst 0, 1) := by decide +kernel
theorem dL_isDay_6 : decode cL_isDay 6 = .ok (.istore 4, 2) := by decide +kernel
theorem dL_isDay_8 : decode cL_isDay 8 = .ok (.iload 4, 2) := by decide +kernel
theorem dL_isDay_10 : decode cL_isDay 10 = .ok (.aload_n 1, 1) := by decide +kernel
theorem dL_isDay_11 : decode cL_isDay 11 = .ok (.iconst 1, 1) := by decide +kernel
theorem dL_isDay_12 : decode cL_isDay 12 = .ok (.iaload, 1) := by decide +kernel
theorem dL_isDay_13 : decode cL_isDay 13 = .ok (.aload_n 1, 1) := by decide +kernel
theorem dL_isDay_14 : decode cL_isDay 14 = .ok (.iconst 2, 1) := by decide +kernel
theorem dL_isDay_15 : decode cL_isDay 15 = .ok (.iaload, 1) := by decide +kernel
theorem dL_isDay_16 : decode cL_isDay 16 = .ok (.imul, 1) := by decide +kernel
theorem dL_isDay_17 : decode cL_isDay 17 = .ok (.if_icmp .ge 31, 3) := by decide +kernel
theorem dL_isDay_20 : decode cL_isDay 20 = .ok (.aload_n 3, 1) := by decide +kernel
theorem dL_isDay_21 : decode cL_isDay 21 = .ok (.iload 4, 2) := by decide +kernel
theorem dL_isDay_23 : decode cL_isDay 23 = .ok (.aload_n 0, 1) := by decide +kernel
theorem dL_isDay_24 : decode cL_isDay 24 = .ok (.bipush 9, 2) := by decide +kernel
theorem dL_isDay_26 : decode cL_isDay 26 = .ok (.iload 4, 2) := by decide +kernel
theorem dL_isDay_28 : decode cL_isDay 28 = .ok (.aload_n 1, 1) := by decide +kernel
theorem dL_isDay_29 : decode cL_isDay 29 = .ok (.iconst 2, 1) := by decide +kernel
theorem dL_isDay_30 : decode cL_isDay 30 = .ok (.iaload, 1) := by decide +kernel
theorem dL_isDay_31 : decode cL_isDay 31 = .ok (.idiv, 1) := by decide +kernel
theorem dL_isDay_32 : decode cL_isDay 32 = .ok (.iload 4, 2) := by decide +kernel
theorem dL_isDay_34 : decode cL_isDay 34 = .ok (.aload_n 1, 1) := by decide +kernel
theorem dL_isDay_35 : decode cL_isDay 35 = .ok (.iconst 2, 1) := by decide +kernel
theorem dL_isDay_36 : decode cL_isDay 36 = .ok (.iaload, 1) := by decide +kernel
theorem dL_isDay_37 : decode cL_isDay 37 = .ok (.irem, 1) := by decide +kernel
theorem dL_isDay_38 : decode cL_isDay 38 = .ok (.invokestatic 136, 3) := by decide +kernel
theorem dL_isDay_41 : decode cL_isDay 41 = .ok (.iastore, 1) := by decide +kernel
theorem dL_isDay_42 : decode cL_isDay 42 = .ok (.iinc 4 1, 3) := by decide +kernel
theorem dL_isDay_45 : decode cL_isDay 45 = .ok (.goto (-37), 3) := by decide +kernel
theorem dL_isDay_48 : decode cL_isDay 48 = .ok (.aload_n 0, 1) := by decide +kernel
theorem dL_isDay_49 : decode cL_isDay 49 = .ok (.invokevirtual 151, 3) := by decide +kernel
theorem dL_isDay_52 : decode cL_isDay 52 = .ok (.istore 4, 2) := by decide +kernel
theorem dL_isDay_54 : decode cL_isDay 54 = .ok (.aload_n 0, 1) := by decide +kernel
theorem dL_isDay_55 : decode cL_isDay 55 = .ok (.bipush 12, 2) := by decide +kernel
theorem dL_isDay_57 : decode cL_isDay 57 = .ok (.iload_n 2, 1) := by decide +kernel
theorem dL_isDay_58 : decode cL_isDay 58 = .ok (.iconst 0, 1) := by decide +kernel
theorem dL_isDay_59 : decode cL_isDay 59 = .ok (.iconst 0, 1) := by decide +kernel
theorem dL_isDay_60 : decode cL_isDay 60 = .ok (.iconst 0, 1) := by decide +kernel
theorem dL_isDay_61 : decode cL_isDay 61 = .ok (.invokestatic 165, 3) := by decide +kernel
theorem dL_isDay_64 : decode cL_isDay 64 = .ok (.iload 4, 2) := by decide +kernel
theorem dL_isDay_66 : decode cL_isDay 66 = .ok (.iload_n 2, 1) := by decide +kernel
theorem dL_isDay_67 : decode cL_isDay 67 = .ok (.iadd, 1) := by decide +kernel
theorem dL_isDay_68 : decode cL_isDay 68 = .ok (.if_icmp .ne 18, 3) := by decide +kernel
theorem dL_isDay_71 : decode cL_isDay 71 = .ok (.aload_n 0, 1) := by decide +kernel
theorem dL_isDay_72 : decode cL_isDay 72 = .ok (.invokevirtual 151, 3) := by decide +kernel
theorem dL_isDay_75 : decode cL_isDay 75 = .ok (.iload 4, 2) := by decide +kernel
theorem dL_isDay_77 : decode cL_isDay 77 = .ok (.iload_n 2, 1) := by decide +kernel
theorem dL_isDay_78 : decode cL_isDay 78 = .ok (.iadd, 1) := by decide +kernel
theorem dL_isDay_79 : decode cL_isDay 79 = .ok (.if_icmp .ne 7, 3) := by decide +kernel
theorem dL_isDay_82 : decode cL_isDay 82 = .ok (.iconst 1, 1) := by decide +kernel
theorem dL_isDay_83 : decode cL_isDay 83 = .ok (.goto 4, 3) := by decide +kernel
theorem dL_isDay_86 : decode cL_isDay 86 = .ok (.iconst 0, 1) := by decide +kernel
theorem dL_isDay_87 : decode cL_isDay 87 = .ok (.istore 5, 2) := by decide +kernel
theorem dL_isDay_89 : decode cL_isDay 89 = .ok (.iconst 0, 1) := by decide +kernel
theorem dL_isDay_90 : decode cL_isDay 90 = .ok (.istore 6, 2) := by decide +kernel
theorem dL_isDay_92 : decode cL_isDay 92 = .ok (.iload 6, 2) := by decide +kernel
theorem dL_isDay_94 : decode cL_isDay 94 = .ok (.aload_n 1, 1) := by decide +kernel
theorem dL_isDay_95 : decode cL_isDay 95 = .ok (.iconst 1, 1) := by decide +kernel
theorem dL_isDay_96 : decode cL_isDay 96 = .ok (.iaload, 1) := by decide +kernel
theorem dL_isDay_97 : decode cL_isDay 97 = .ok (.aload_n 1, 1) := by decide +kernel
theorem dL_isDay_98 : decode cL_isDay 98 = .ok (.iconst 2, 1) := by decide +kernel
theorem dL_isDay_99 : decode cL_isDay 99 = .ok (.iaload, 1) := by decide +kernel
theorem dL_isDay_100 : decode cL_isDay 100 = .ok (.imul, 1) := by decide +kernel
theorem dL_isDay_101 : decode cL_isDay 101 = .ok (.if_icmp .ge 46, 3) := by decide +kernel
theorem dL_isDay_104 : decode cL_isDay 104 = .ok (.iload 5, 2) := by decide +kernel
theorem dL_isDay_106 : decode cL_isDay 106 = .ok (.ifCond .eq 41, 3) := by decide +kernel
theorem dL_isDay_109 : decode cL_isDay 109 = .ok (.aload_n 0, 1) := by decide +kernel
theorem dL_isDay_110 : decode cL_isDay 110 = .ok (.bipush 9, 2) := by decide +kernel
theorem dL_isDay_112 : decode cL_isDay 112 = .ok (.iload 6, 2) := by decide +kernel
theorem dL_isDay_114 : decode cL_isDay 114 = .ok (.aload_n 1, 1) := by decide +kernel
theorem dL_isDay_115 : decode cL_isDay 115 = .ok (.iconst 2, 1) := by decide +kernel
theorem dL_isDay_116 : decode cL_isDay 116 = .ok (.iaload, 1) := by decide +kernel
theorem dL_isDay_117 : decode cL_isDay 117 = .ok (.idiv, 1) := by decide +kernel
theorem dL_isDay_118 : decode cL_isDay 118 = .ok (.iload 6, 2) := by decide +kernel
theorem dL_isDay_120 : decode cL_isDay 120 = .ok (.aload_n 1, 1) := by decide +kernel
theorem dL_isDay_121 : decode cL_isDay 121 = .ok (.iconst 2, 1) := by decide +kernel
theorem dL_isDay_122 : decode cL_isDay 122 = .ok (.iaload, 1) := by decide +kernel
theorem dL_isDay_123 : decode cL_isDay 123 = .ok (.irem, 1) := by decide +kernel
theorem dL_isDay_124 : decode cL_isDay 124 = .ok (.invokestatic 136, 3) := by decide +kernel
theorem dL_isDay_127 : decode cL_isDay 127 = .ok (.aload_n 3, 1) := by decide +kernel
theorem dL_isDay_128 : decode cL_isDay 128 = .ok (.iload 6, 2) := by decide +kernel
theorem dL_isDay_130 : decode cL_isDay 130 = .ok (.iaload, 1) := by decide +kernel
theorem dL_isDay_131 : decode cL_isDay 131 = .ok (.if_icmp .gt 7, 3) := by decide +kernel
theorem dL_isDay_134 : decode cL_isDay 134 = .ok (.iconst 1, 1) := by decide +kernel
theorem dL_isDay_135 : decode cL_isDay 135 = .ok (.goto 4, 3) := by decide +kernel
theorem dL_isDay_138 : decode cL_isDay 138 = .ok (.iconst 0, 1) := by decide +kernel
theorem dL_isDay_139 : decode cL_isDay 139 = .ok (.istore 5, 2) := by decide +kernel
theorem dL_isDay_141 : decode cL_isDay 141 = .ok (.iinc 6 1, 3) := by decide +kernel
theorem dL_isDay_144 : decode cL_isDay 144 = .ok (.goto (-52), 3) := by decide +kernel
theorem dL_isDay_147 : decode cL_isDay 147 = .ok (.iload 5, 2) := by decide +kernel
theorem dL_isDay_149 : decode cL_isDay 149 = .ok (.ireturn, 1) := by decide +kernel
