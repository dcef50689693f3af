theorem dL_areGrades_195 : decode cL_areGrades 195 = .ok (.bipush 15, 2) := by decide +kernel
theorem dL_areGrades_197 : decode cL_areGrades 197 = .ok (.if_icmp .le 7, 3) := by decide +kernel
theorem dL_areGrades_200 : decode cL_areGrades 200 = .ok (.iconst 1, 1) := by decide +kernel
theorem dL_areGrades_201 : decode cL_areGrades 201 = .ok (.goto 4, 3) := by decide +kernel
theorem dL_areGrades_204 : decode cL_areGrades 204 = .ok (.iconst 0, 1) := by decide +kernel
theorem dL_areGrades_205 : decode cL_areGrades 205 = .ok (.istore 4, 2) := by decide +kernel
theorem dL_areGrades_207 : decode cL_areGrades 207 = .ok (.iinc 5 1, 3) := by decide +kernel
theorem dL_areGrades_210 : decode cL_areGrades 210 = .ok (.goto (-153), 3) := by decide +kernel
theorem dL_areGrades_213 : decode cL_areGrades 213 = .ok (.iload 4, 2) := by decide +kernel
theorem dL_areGrades_215 : decode cL_areGrades 215 = .ok (.ifCond .eq 24, 3) := by decide +kernel
theorem dL_areGrades_218 : decode cL_areGrades 218 = .ok (.iload_n 2, 1) := by decide +kernel
theorem dL_areGrades_219 : decode cL_areGrades 219 = .ok (.ifCond .eq 16, 3) := by decide +kernel
theorem dL_areGrades_222 : decode cL_areGrades 222 = .ok (.aload_n 0, 1) := by decide +kernel
theorem dL_areGrades_223 : decode cL_areGrades 223 = .ok (.invokevirtual 154, 3) := by decide +kernel
theorem dL_areGrades_226 : decode cL_areGrades 226 = .ok (.iload_n 3, 1) := by decide +kernel
theorem dL_areGrades_227 : decode cL_areGrades 227 = .ok (.i2d, 1) := by decide +kernel
theorem dL_areGrades_228 : decode cL_areGrades 228 = .ok (.iload_n 2, 1) := by decide +kernel
theorem dL_areGrades_229 : decode cL_areGrades 229 = .ok (.i2d, 1) := by decide +kernel
theorem dL_areGrades_230 : decode cL_areGrades 230 = .ok (.ddiv, 1) := by decide +kernel
theorem dL_areGrades_231 : decode cL_areGrades 231 = .ok (.dcmp .l, 1) := by decide +kernel
theorem dL_areGrades_232 : decode cL_areGrades 232 = .ok (.ifCond .ne 7, 3) := by decide +kernel
theorem dL_areGrades_235 : decode cL_areGrades 235 = .ok (.iconst 1, 1) := by decide +kernel
theorem dL_areGrades_236 : decode cL_areGrades 236 = .ok (.goto 4, 3) := by decide +kernel
theorem dL_areGrades_239 : decode cL_areGrades 239 = .ok (.iconst 0, 1) := by decide +kernel
theorem dL_areGrades_240 : decode cL_areGrades 240 = .ok (.ireturn, 1) := by decide +kernel
theorem dL_areMasteries_0 : decode cL_areMasteries 0 = .ok (.aload_n 0, 1) := by decide +kernel
theorem dL_areMasteries_1 : decode cL_areMasteries 1 = .ok (.bipush 9, 2) := by decide +kernel
theorem dL_areMasteries_3 : decode cL_areMasteries 3 = .ok (.aload_n 1, 1) := by decide +kernel
theorem dL_areMasteries_4 : decode cL_areMasteries 4 = .ok (.iconst 1, 1) := by decide +kernel
theorem dL_areMasteries_5 : decode cL_areMasteries 5 = .ok (.iaload, 1) := by decide +kernel
theorem dL_areMasteries_6 : decode cL_areMasteries 6 = .ok (.iconst 0, 1) := by decide +kernel
theorem dL_areMasteries_7 : decode cL_areMasteries 7 = .ok (.invokestatic 136, 3) := by decide +kernel
theorem dL_areMasteries_10 : decode cL_areMasteries 10 = .ok (.sipush (-2001), 3) := by decide +kernel
theorem dL_areMasteries_13 : decode cL_areMasteries 13 = .ok (.if_icmp .ne 38, 3) := by decide +kernel
theorem dL_areMasteries_16 : decode cL_areMasteries 16 = .ok (.aload_n 0, 1) := by decide +kernel
theorem dL_areMasteries_17 : decode cL_areMasteries 17 = .ok (.bipush 9, 2) := by decide +kernel
theorem dL_areMasteries_19 : decode cL_areMasteries 19 = .ok (.iconst 0, 1) := by decide +kernel
theorem dL_areMasteries_20 : decode cL_areMasteries 20 = .ok (.aload_n 1, 1) := by decide +kernel
theorem dL_areMasteries_21 : decode cL_areMasteries 21 = .ok (.iconst 2, 1) := by decide +kernel
theorem dL_areMasteries_22 : decode cL_areMasteries 22 = .ok (.iaload, 1) := by decide +kernel
theorem dL_areMasteries_23 : decode cL_areMasteries 23 = .ok (.invokestatic 136, 3) := by decide +kernel
theorem dL_areMasteries_26 : decode cL_areMasteries 26 = .ok (.sipush (-2001), 3) := by decide +kernel
theorem dL_areMasteries_29 : decode cL_areMasteries 29 = .ok (.if_icmp .ne 22, 3) := by decide +kernel
theorem dL_areMasteries_32 : decode cL_areMasteries 32 = .ok (.aload_n 0, 1) := by decide +kernel
theorem dL_areMasteries_33 : decode cL_areMasteries 33 = .ok (.iconst 1, 1) := by decide +kernel
theorem dL_areMasteries_34 : decode cL_areMasteries 34 = .ok (.aload_n 1, 1) := by decide +kernel
theorem dL_areMasteries_35 : decode cL_areMasteries 35 = .ok (.iconst 1, 1) := by decide +kernel
theorem dL_areMasteries_36 : decode cL_areMasteries 36 = .ok (.iaload, 1) := by decide +kernel
theorem dL_areMasteries_37 : decode cL_areMasteries 37 = .ok (.iconst 0, 1) := by decide +kernel
theorem dL_areMasteries_38 : decode cL_areMasteries 38 = .ok (.invokestatic 136, 3) := by decide +kernel
theorem dL_areMasteries_41 : decode cL_areMasteries 41 = .ok (.sipush (-2001), 3) := by decide +kernel
theorem dL_areMasteries_44 : decode cL_areMasteries 44 = .ok (.if_icmp .ne 7, 3) := by decide +kernel
theorem dL_areMasteries_47 : decode cL_areMasteries 47 = .ok (.iconst 1, 1) := by decide +kernel
theorem dL_areMasteries_48 : decode cL_areMasteries 48 = .ok (.goto 4, 3) := by decide +kernel
theorem dL_areMasteries_51 : decode cL_areMasteries 51 = .ok (.iconst 0, 1) := by decide +kernel
theorem dL_areMasteries_52 : decode cL_areMasteries 52 = .ok (.istore_n 2, 1) := by decide +kernel
theorem dL_areMasteries_53 : decode cL_areMasteries 53 = .ok (.iconst 0, 1) := by decide +kernel
theorem dL_areMasteries_54 : decode cL_areMasteries 54 = .ok (.istore_n 3, 1) := by decide +kernel
theorem dL_areMasteries_55 : decode cL_areMasteries 55 = .ok (.iload_n 3, 1) := by decide +kernel
theorem dL_areMasteries_56 : decode cL_areMasteries 56 = .ok (.aload_n 1, 1) := by decide +kernel
theorem dL_areMasteries_57 : decode cL_areMasteries 57 = .ok (.iconst 1, 1) := by decide +kernel
theorem dL_areMasteries_58 : decode cL_areMasteries 58 = .ok (.iaload, 1) := by decide +kernel
theorem dL_areMasteries_59 : decode cL_areMasteries 59 = .ok (.if_icmp .ge 340, 3) := by decide +kernel
theorem dL_areMasteries_62 : decode cL_areMasteries 62 = .ok (.iload_n 2, 1) := by decide +kernel
theorem dL_areMasteries_63 : decode cL_areMasteries 63 = .ok (.ifCond .eq 336, 3) := by decide +kernel
theorem dL_areMasteries_66 : decode cL_areMasteries 66 = .ok (.aload_n 0, 1) := by decide +kernel
theorem dL_areMasteries_67 : decode cL_areMasteries 67 = .ok (.iconst 1, 1) := by decide +kernel
theorem dL_areMasteries_68 : decode cL_areMasteries 68 = .ok (.iload_n 3, 1) := by decide +kernel
theorem dL_areMasteries_69 : decode cL_areMasteries 69 = .ok (.iconst 0, 1) := by decide +kernel
theorem dL_areMasteries_70 : decode cL_areMasteries 70 = .ok (.invokestatic 136, 3) := by decide +kernel
theorem dL_areMasteries_73 : decode cL_areMasteries 73 = .ok (.istore 4, 2) := by decide +kernel
theorem dL_areMasteries_75 : decode cL_areMasteries 75 = .ok (.iload 4, 2) := by decide +kernel
theorem dL_areMasteries_77 : decode cL_areMasteries 77 = .ok (.ifCond .lt 15, 3) := by decide +kernel
theorem dL_areMasteries_80 : decode cL_areMasteries 80 = .ok (.iload 4, 2) := by decide +kernel
theorem dL_areMasteries_82 : decode cL_areMasteries 82 = .ok (.aload_n 1, 1) := by decide +kernel
theorem dL_areMasteries_83 : decode cL_areMasteries 83 = .ok (.iconst 2, 1) := by decide +kernel
theorem dL_areMasteries_84 : decode cL_areMasteries 84 = .ok (.iaload, 1) := by decide +kernel
theorem dL_areMasteries_85 : decode cL_areMasteries 85 = .ok (.if_icmp .gt 7, 3) := by decide +kernel
theorem dL_areMasteries_88 : decode cL_areMasteries 88 = .ok (.iconst 1, 1) := by decide +kernel
theorem dL_areMasteries_89 : decode cL_areMasteries 89 = .ok (.goto 4, 3) := by decide +kernel
theorem dL_areMasteries_92 : decode cL_areMasteries 92 = .ok (.iconst 0, 1) := by decide +kernel
theorem dL_areMasteries_93 : decode cL_areMasteries 93 = .ok (.istore_n 2, 1) := by decide +kernel
theorem dL_areMasteries_94 : decode cL_areMasteries 94 = .ok (.iconst 0, 1) := by decide +kernel
theorem dL_areMasteries_95 : decode cL_areMasteries 95 = .ok (.istore 5, 2) := by decide +kernel
theorem dL_areMasteries_97 : decode cL_areMasteries 97 = .ok (.iload 5, 2) := by decide +kernel
theorem dL_areMasteries_99 : decode cL_areMasteries 99 = .ok (.aload_n 1, 1) := by decide +kernel
theorem dL_areMasteries_100 : decode cL_areMasteries 100 = .ok (.iconst 2, 1) := by decide +kernel
theorem dL_areMasteries_101 : decode cL_areMasteries 101 = .ok (.iaload, 1) := by decide +kernel
theorem dL_areMasteries_102 : decode cL_areMasteries 102 = .ok (.if_icmp .ge 180, 3) := by decide +kernel
theorem dL_areMasteries_105 : decode cL_areMasteries 105 = .ok (.iload_n 2, 1) := by decide +kernel
theorem dL_areMasteries_106 : decode cL_areMasteries 106 = .ok (.ifCond .eq 176, 3) := by decide +kernel
theorem dL_areMasteries_109 : decode cL_areMasteries 109 = .ok (.aload_n 0, 1) := by decide +kernel
theorem dL_areMasteries_110 : decode cL_areMasteries 110 = .ok (.bipush 9, 2) := by decide +kernel
theorem dL_areMasteries_112 : decode cL_areMasteries 112 = .ok (.iload_n 3, 1) := by decide +kernel
theorem dL_areMasteries_113 : decode cL_areMasteries 113 = .ok (.iload 5, 2) := by decide +kernel
theorem dL_areMasteries_115 : decode cL_areMasteries 115 = .ok (.invokestatic 136, 3) := by decide +kernel
theorem dL_areMasteries_118 : decode cL_areMasteries 118 = .ok (.istore 6, 2) := by decide +kernel
theorem dL_areMasteries_120 : decode cL_areMasteries 120 = .ok (.iconst 0, 1) := by decide +kernel
theorem dL_areMasteries_121 : decode cL_areMasteries 121 = .ok (.istore 7, 2) := by decide +kernel
theorem dL_areMasteries_123 : decode cL_areMasteries 123 = .ok (.iconst 0, 1) := by decide +kernel
theorem dL_areMasteries_124 : decode cL_areMasteries 124 = .ok (.istore 8, 2) := by decide +kernel
theorem dL_areMasteries_126 : decode cL_areMasteries 126 = .ok (.iconst 0, 1) := by decide +kernel
theorem dL_areMasteries_127 : decode cL_areMasteries 127 = .ok (.istore 9, 2) := by decide +kernel
theorem dL_areMasteries_129 : decode cL_areMasteries 129 = .ok (.iload 9, 2) := by decide +kernel
theorem dL_areMasteries_131 : decode cL_areMasteries 131 = .ok (.aload_n 1, 1) := by decide +kernel
theorem dL_areMasteries_132 : decode cL_areMasteries 132 = .ok (.iconst 3, 1) := by decide +kernel
theorem dL_areMasteries_133 : decode cL_areMasteries 133 = .ok (.iaload, 1) := by decide +kernel
theorem dL_areMasteries_134 : decode cL_areMasteries 134 = .ok (.if_icmp .ge 65, 3) := by decide +kernel
theorem dL_areMasteries_137 : decode cL_areMasteries 137 = .ok (.iload 7, 2) := by decide +kernel
theorem dL_areMasteries_139 : decode cL_areMasteries 139 = .ok (.aload_n 1, 1) := by decide +kernel
