theorem dL_ask_8 : decode cL_ask 8 = .ok (.astore 4, 2) := by decide +kernel
theorem dL_ask_10 : decode cL_ask 10 = .ok (.sipush (-2001), 3) := by decide +kernel
theorem dL_ask_13 : decode cL_ask 13 = .ok (.ireturn, 1) := by decide +kernel
theorem dL_ask_14 : decode cL_ask 14 = .ok (.astore 4, 2) := by decide +kernel
theorem dL_ask_16 : decode cL_ask 16 = .ok (.sipush (-2005), 3) := by decide +kernel
theorem dL_ask_19 : decode cL_ask 19 = .ok (.ireturn, 1) := by decide +kernel
theorem dL_areGrades_0 : decode cL_areGrades 0 = .ok (.aload_n 0, 1) := by decide +kernel
theorem dL_areGrades_1 : decode cL_areGrades 1 = .ok (.invokevirtual 148, 3) := by decide +kernel
theorem dL_areGrades_4 : decode cL_areGrades 4 = .ok (.istore_n 2, 1) := by decide +kernel
theorem dL_areGrades_5 : decode cL_areGrades 5 = .ok (.iconst 0, 1) := by decide +kernel
theorem dL_areGrades_6 : decode cL_areGrades 6 = .ok (.istore_n 3, 1) := by decide +kernel
theorem dL_areGrades_7 : decode cL_areGrades 7 = .ok (.aload_n 0, 1) := by decide +kernel
theorem dL_areGrades_8 : decode cL_areGrades 8 = .ok (.iconst 3, 1) := by decide +kernel
theorem dL_areGrades_9 : decode cL_areGrades 9 = .ok (.iload_n 2, 1) := by decide +kernel
theorem dL_areGrades_10 : decode cL_areGrades 10 = .ok (.iconst 0, 1) := by decide +kernel
theorem dL_areGrades_11 : decode cL_areGrades 11 = .ok (.invokestatic 136, 3) := by decide +kernel
theorem dL_areGrades_14 : decode cL_areGrades 14 = .ok (.sipush (-2001), 3) := by decide +kernel
theorem dL_areGrades_17 : decode cL_areGrades 17 = .ok (.if_icmp .ne 34, 3) := by decide +kernel
theorem dL_areGrades_20 : decode cL_areGrades 20 = .ok (.aload_n 0, 1) := by decide +kernel
theorem dL_areGrades_21 : decode cL_areGrades 21 = .ok (.iconst 5, 1) := by decide +kernel
theorem dL_areGrades_22 : decode cL_areGrades 22 = .ok (.iconst (-1), 1) := by decide +kernel
theorem dL_areGrades_23 : decode cL_areGrades 23 = .ok (.iconst 0, 1) := by decide +kernel
theorem dL_areGrades_24 : decode cL_areGrades 24 = .ok (.invokestatic 136, 3) := by decide +kernel
theorem dL_areGrades_27 : decode cL_areGrades 27 = .ok (.sipush (-2001), 3) := by decide +kernel
theorem dL_areGrades_30 : decode cL_areGrades 30 = .ok (.if_icmp .ne 21, 3) := by decide +kernel
theorem dL_areGrades_33 : decode cL_areGrades 33 = .ok (.aload_n 0, 1) := by decide +kernel
theorem dL_areGrades_34 : decode cL_areGrades 34 = .ok (.bipush 15, 2) := by decide +kernel
theorem dL_areGrades_36 : decode cL_areGrades 36 = .ok (.iload_n 2, 1) := by decide +kernel
theorem dL_areGrades_37 : decode cL_areGrades 37 = .ok (.iconst 0, 1) := by decide +kernel
theorem dL_areGrades_38 : decode cL_areGrades 38 = .ok (.invokestatic 136, 3) := by decide +kernel
theorem dL_areGrades_41 : decode cL_areGrades 41 = .ok (.sipush (-2001), 3) := by decide +kernel
theorem dL_areGrades_44 : decode cL_areGrades 44 = .ok (.if_icmp .ne 7, 3) := by decide +kernel
theorem dL_areGrades_47 : decode cL_areGrades 47 = .ok (.iconst 1, 1) := by decide +kernel
theorem dL_areGrades_48 : decode cL_areGrades 48 = .ok (.goto 4, 3) := by decide +kernel
theorem dL_areGrades_51 : decode cL_areGrades 51 = .ok (.iconst 0, 1) := by decide +kernel
theorem dL_areGrades_52 : decode cL_areGrades 52 = .ok (.istore 4, 2) := by decide +kernel
theorem dL_areGrades_54 : decode cL_areGrades 54 = .ok (.iconst 0, 1) := by decide +kernel
theorem dL_areGrades_55 : decode cL_areGrades 55 = .ok (.istore 5, 2) := by decide +kernel
theorem dL_areGrades_57 : decode cL_areGrades 57 = .ok (.iload 5, 2) := by decide +kernel
theorem dL_areGrades_59 : decode cL_areGrades 59 = .ok (.iload_n 2, 1) := by decide +kernel
theorem dL_areGrades_60 : decode cL_areGrades 60 = .ok (.if_icmp .ge 153, 3) := by decide +kernel
theorem dL_areGrades_63 : decode cL_areGrades 63 = .ok (.iload 4, 2) := by decide +kernel
theorem dL_areGrades_65 : decode cL_areGrades 65 = .ok (.ifCond .eq 148, 3) := by decide +kernel
theorem dL_areGrades_68 : decode cL_areGrades 68 = .ok (.aload_n 0, 1) := by decide +kernel
theorem dL_areGrades_69 : decode cL_areGrades 69 = .ok (.iconst 3, 1) := by decide +kernel
theorem dL_areGrades_70 : decode cL_areGrades 70 = .ok (.iload 5, 2) := by decide +kernel
theorem dL_areGrades_72 : decode cL_areGrades 72 = .ok (.iconst 0, 1) := by decide +kernel
theorem dL_areGrades_73 : decode cL_areGrades 73 = .ok (.invokestatic 136, 3) := by decide +kernel
theorem dL_areGrades_76 : decode cL_areGrades 76 = .ok (.istore 6, 2) := by decide +kernel
theorem dL_areGrades_78 : decode cL_areGrades 78 = .ok (.aload_n 0, 1) := by decide +kernel
theorem dL_areGrades_79 : decode cL_areGrades 79 = .ok (.bipush 7, 2) := by decide +kernel
theorem dL_areGrades_81 : decode cL_areGrades 81 = .ok (.iload 5, 2) := by decide +kernel
theorem dL_areGrades_83 : decode cL_areGrades 83 = .ok (.iconst 0, 1) := by decide +kernel
theorem dL_areGrades_84 : decode cL_areGrades 84 = .ok (.invokestatic 136, 3) := by decide +kernel
theorem dL_areGrades_87 : decode cL_areGrades 87 = .ok (.istore 7, 2) := by decide +kernel
theorem dL_areGrades_89 : decode cL_areGrades 89 = .ok (.iload_n 3, 1) := by decide +kernel
theorem dL_areGrades_90 : decode cL_areGrades 90 = .ok (.iload 6, 2) := by decide +kernel
theorem dL_areGrades_92 : decode cL_areGrades 92 = .ok (.iadd, 1) := by decide +kernel
theorem dL_areGrades_93 : decode cL_areGrades 93 = .ok (.istore_n 3, 1) := by decide +kernel
theorem dL_areGrades_94 : decode cL_areGrades 94 = .ok (.iload 6, 2) := by decide +kernel
theorem dL_areGrades_96 : decode cL_areGrades 96 = .ok (.aload_n 0, 1) := by decide +kernel
theorem dL_areGrades_97 : decode cL_areGrades 97 = .ok (.iconst 4, 1) := by decide +kernel
theorem dL_areGrades_98 : decode cL_areGrades 98 = .ok (.iload 5, 2) := by decide +kernel
theorem dL_areGrades_100 : decode cL_areGrades 100 = .ok (.iconst 0, 1) := by decide +kernel
theorem dL_areGrades_101 : decode cL_areGrades 101 = .ok (.invokestatic 136, 3) := by decide +kernel
theorem dL_areGrades_104 : decode cL_areGrades 104 = .ok (.if_icmp .ne 100, 3) := by decide +kernel
theorem dL_areGrades_107 : decode cL_areGrades 107 = .ok (.iload 6, 2) := by decide +kernel
theorem dL_areGrades_109 : decode cL_areGrades 109 = .ok (.ifCond .lt 95, 3) := by decide +kernel
theorem dL_areGrades_112 : decode cL_areGrades 112 = .ok (.iload 6, 2) := by decide +kernel
theorem dL_areGrades_114 : decode cL_areGrades 114 = .ok (.bipush 100, 2) := by decide +kernel
theorem dL_areGrades_116 : decode cL_areGrades 116 = .ok (.if_icmp .gt 88, 3) := by decide +kernel
theorem dL_areGrades_119 : decode cL_areGrades 119 = .ok (.iload 7, 2) := by decide +kernel
theorem dL_areGrades_121 : decode cL_areGrades 121 = .ok (.ifCond .lt 83, 3) := by decide +kernel
theorem dL_areGrades_124 : decode cL_areGrades 124 = .ok (.iload 7, 2) := by decide +kernel
theorem dL_areGrades_126 : decode cL_areGrades 126 = .ok (.aload_n 0, 1) := by decide +kernel
theorem dL_areGrades_127 : decode cL_areGrades 127 = .ok (.invokevirtual 151, 3) := by decide +kernel
theorem dL_areGrades_130 : decode cL_areGrades 130 = .ok (.if_icmp .gt 74, 3) := by decide +kernel
theorem dL_areGrades_133 : decode cL_areGrades 133 = .ok (.aload_n 0, 1) := by decide +kernel
theorem dL_areGrades_134 : decode cL_areGrades 134 = .ok (.bipush 6, 2) := by decide +kernel
theorem dL_areGrades_136 : decode cL_areGrades 136 = .ok (.iload 5, 2) := by decide +kernel
theorem dL_areGrades_138 : decode cL_areGrades 138 = .ok (.iconst 0, 1) := by decide +kernel
theorem dL_areGrades_139 : decode cL_areGrades 139 = .ok (.invokestatic 136, 3) := by decide +kernel
theorem dL_areGrades_142 : decode cL_areGrades 142 = .ok (.ifCond .lt 62, 3) := by decide +kernel
theorem dL_areGrades_145 : decode cL_areGrades 145 = .ok (.aload_n 0, 1) := by decide +kernel
theorem dL_areGrades_146 : decode cL_areGrades 146 = .ok (.bipush 6, 2) := by decide +kernel
theorem dL_areGrades_148 : decode cL_areGrades 148 = .ok (.iload 5, 2) := by decide +kernel
theorem dL_areGrades_150 : decode cL_areGrades 150 = .ok (.iconst 0, 1) := by decide +kernel
theorem dL_areGrades_151 : decode cL_areGrades 151 = .ok (.invokestatic 136, 3) := by decide +kernel
theorem dL_areGrades_154 : decode cL_areGrades 154 = .ok (.aload_n 1, 1) := by decide +kernel
theorem dL_areGrades_155 : decode cL_areGrades 155 = .ok (.iconst 1, 1) := by decide +kernel
theorem dL_areGrades_156 : decode cL_areGrades 156 = .ok (.iaload, 1) := by decide +kernel
theorem dL_areGrades_157 : decode cL_areGrades 157 = .ok (.if_icmp .ge 47, 3) := by decide +kernel
theorem dL_areGrades_160 : decode cL_areGrades 160 = .ok (.aload_n 0, 1) := by decide +kernel
theorem dL_areGrades_161 : decode cL_areGrades 161 = .ok (.iconst 5, 1) := by decide +kernel
theorem dL_areGrades_162 : decode cL_areGrades 162 = .ok (.iload 5, 2) := by decide +kernel
theorem dL_areGrades_164 : decode cL_areGrades 164 = .ok (.iconst 0, 1) := by decide +kernel
theorem dL_areGrades_165 : decode cL_areGrades 165 = .ok (.invokestatic 136, 3) := by decide +kernel
theorem dL_areGrades_168 : decode cL_areGrades 168 = .ok (.ifCond .lt 36, 3) := by decide +kernel
theorem dL_areGrades_171 : decode cL_areGrades 171 = .ok (.aload_n 0, 1) := by decide +kernel
theorem dL_areGrades_172 : decode cL_areGrades 172 = .ok (.iconst 5, 1) := by decide +kernel
theorem dL_areGrades_173 : decode cL_areGrades 173 = .ok (.iload 5, 2) := by decide +kernel
theorem dL_areGrades_175 : decode cL_areGrades 175 = .ok (.bipush 6, 2) := by decide +kernel
theorem dL_areGrades_177 : decode cL_areGrades 177 = .ok (.invokestatic 136, 3) := by decide +kernel
theorem dL_areGrades_180 : decode cL_areGrades 180 = .ok (.sipush (-2005), 3) := by decide +kernel
theorem dL_areGrades_183 : decode cL_areGrades 183 = .ok (.if_icmp .ne 21, 3) := by decide +kernel
theorem dL_areGrades_186 : decode cL_areGrades 186 = .ok (.aload_n 0, 1) := by decide +kernel
theorem dL_areGrades_187 : decode cL_areGrades 187 = .ok (.bipush 15, 2) := by decide +kernel
theorem dL_areGrades_189 : decode cL_areGrades 189 = .ok (.iload 5, 2) := by decide +kernel
theorem dL_areGrades_191 : decode cL_areGrades 191 = .ok (.iconst 0, 1) := by decide +kernel
theorem dL_areGrades_192 : decode cL_areGrades 192 = .ok (.invokestatic 136, 3) := by decide +kernel
