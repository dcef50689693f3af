theorem dL_cell_0 : decode cL_cell 0 = .ok (.ldc 7, 2) := by decide +kernel
theorem dL_cell_2 : decode cL_cell 2 = .ok (.iload_n 1, 1) := by decide +kernel
theorem dL_cell_3 : decode cL_cell 3 = .ok (.aload_n 0, 1) := by decide +kernel
theorem dL_cell_4 : decode cL_cell 4 = .ok (.arraylength, 1) := by decide +kernel
theorem dL_cell_5 : decode cL_cell 5 = .ok (.if_icmp .ge 9, 3) := by decide +kernel
theorem dL_cell_8 : decode cL_cell 8 = .ok (.aload_n 0, 1) := by decide +kernel
theorem dL_cell_9 : decode cL_cell 9 = .ok (.iload_n 1, 1) := by decide +kernel
theorem dL_cell_10 : decode cL_cell 10 = .ok (.iaload, 1) := by decide +kernel
theorem dL_cell_11 : decode cL_cell 11 = .ok (.goto 4, 3) := by decide +kernel
theorem dL_cell_14 : decode cL_cell 14 = .ok (.iconst 0, 1) := by decide +kernel
theorem dL_cell_15 : decode cL_cell 15 = .ok (.sipush 1009, 3) := by decide +kernel
theorem dL_cell_18 : decode cL_cell 18 = .ok (.iload_n 1, 1) := by decide +kernel
theorem dL_cell_19 : decode cL_cell 19 = .ok (.imul, 1) := by decide +kernel
theorem dL_cell_20 : decode cL_cell 20 = .ok (.iadd, 1) := by decide +kernel
theorem dL_cell_21 : decode cL_cell 21 = .ok (.imul, 1) := by decide +kernel
theorem dL_cell_22 : decode cL_cell 22 = .ok (.sipush 12345, 3) := by decide +kernel
theorem dL_cell_25 : decode cL_cell 25 = .ok (.iadd, 1) := by decide +kernel
theorem dL_cell_26 : decode cL_cell 26 = .ok (.istore_n 2, 1) := by decide +kernel
theorem dL_cell_27 : decode cL_cell 27 = .ok (.iload_n 2, 1) := by decide +kernel
theorem dL_cell_28 : decode cL_cell 28 = .ok (.iload_n 2, 1) := by decide +kernel
theorem dL_cell_29 : decode cL_cell 29 = .ok (.bipush 13, 2) := by decide +kernel
theorem dL_cell_31 : decode cL_cell 31 = .ok (.iushr, 1) := by decide +kernel
theorem dL_cell_32 : decode cL_cell 32 = .ok (.ixor, 1) := by decide +kernel
theorem dL_cell_33 : decode cL_cell 33 = .ok (.ldc 8, 2) := by decide +kernel
theorem dL_cell_35 : decode cL_cell 35 = .ok (.imul, 1) := by decide +kernel
theorem dL_cell_36 : decode cL_cell 36 = .ok (.istore_n 2, 1) := by decide +kernel
theorem dL_cell_37 : decode cL_cell 37 = .ok (.iload_n 2, 1) := by decide +kernel
theorem dL_cell_38 : decode cL_cell 38 = .ok (.iload_n 2, 1) := by decide +kernel
theorem dL_cell_39 : decode cL_cell 39 = .ok (.bipush 16, 2) := by decide +kernel
theorem dL_cell_41 : decode cL_cell 41 = .ok (.iushr, 1) := by decide +kernel
theorem dL_cell_42 : decode cL_cell 42 = .ok (.ixor, 1) := by decide +kernel
theorem dL_cell_43 : decode cL_cell 43 = .ok (.ireturn, 1) := by decide +kernel
theorem dL_pick_0 : decode cL_pick 0 = .ok (.aload_n 0, 1) := by decide +kernel
theorem dL_pick_1 : decode cL_pick 1 = .ok (.iload_n 1, 1) := by decide +kernel
theorem dL_pick_2 : decode cL_pick 2 = .ok (.invokestatic 9, 3) := by decide +kernel
theorem dL_pick_5 : decode cL_pick 5 = .ok (.bipush 8, 2) := by decide +kernel
theorem dL_pick_7 : decode cL_pick 7 = .ok (.iushr, 1) := by decide +kernel
theorem dL_pick_8 : decode cL_pick 8 = .ok (.iload_n 2, 1) := by decide +kernel
theorem dL_pick_9 : decode cL_pick 9 = .ok (.irem, 1) := by decide +kernel
theorem dL_pick_10 : decode cL_pick 10 = .ok (.ireturn, 1) := by decide +kernel
theorem dL_told_0 : decode cL_told 0 = .ok (.iload_n 0, 1) := by decide +kernel
theorem dL_told_1 : decode cL_told 1 = .ok (.ifCond .eq 7, 3) := by decide +kernel
theorem dL_told_4 : decode cL_told 4 = .ok (.iconst 1, 1) := by decide +kernel
theorem dL_told_5 : decode cL_told 5 = .ok (.goto 4, 3) := by decide +kernel
theorem dL_told_8 : decode cL_told 8 = .ok (.iconst 0, 1) := by decide +kernel
theorem dL_told_9 : decode cL_told 9 = .ok (.ireturn, 1) := by decide +kernel
theorem dL_plain_0 : decode cL_plain 0 = .ok (.iload_n 1, 1) := by decide +kernel
theorem dL_plain_1 : decode cL_plain 1 = .ok (.tableswitch 155 0 11 #[63, 70, 76, 83, 94, 103, 114, 120, 126, 132, 141, 148], 63) := by decide +kernel
theorem dL_plain_64 : decode cL_plain 64 = .ok (.aload_n 0, 1) := by decide +kernel
theorem dL_plain_65 : decode cL_plain 65 = .ok (.iload_n 2, 1) := by decide +kernel
theorem dL_plain_66 : decode cL_plain 66 = .ok (.iload_n 3, 1) := by decide +kernel
theorem dL_plain_67 : decode cL_plain 67 = .ok (.invokevirtual 15, 3) := by decide +kernel
theorem dL_plain_70 : decode cL_plain 70 = .ok (.ireturn, 1) := by decide +kernel
theorem dL_plain_71 : decode cL_plain 71 = .ok (.aload_n 0, 1) := by decide +kernel
theorem dL_plain_72 : decode cL_plain 72 = .ok (.iload_n 2, 1) := by decide +kernel
theorem dL_plain_73 : decode cL_plain 73 = .ok (.invokevirtual 21, 3) := by decide +kernel
theorem dL_plain_76 : decode cL_plain 76 = .ok (.ireturn, 1) := by decide +kernel
theorem dL_plain_77 : decode cL_plain 77 = .ok (.aload_n 0, 1) := by decide +kernel
theorem dL_plain_78 : decode cL_plain 78 = .ok (.iload_n 2, 1) := by decide +kernel
theorem dL_plain_79 : decode cL_plain 79 = .ok (.iload_n 3, 1) := by decide +kernel
theorem dL_plain_80 : decode cL_plain 80 = .ok (.invokevirtual 25, 3) := by decide +kernel
theorem dL_plain_83 : decode cL_plain 83 = .ok (.ireturn, 1) := by decide +kernel
theorem dL_plain_84 : decode cL_plain 84 = .ok (.aload_n 0, 1) := by decide +kernel
theorem dL_plain_85 : decode cL_plain 85 = .ok (.iload_n 2, 1) := by decide +kernel
theorem dL_plain_86 : decode cL_plain 86 = .ok (.iload_n 3, 1) := by decide +kernel
theorem dL_plain_87 : decode cL_plain 87 = .ok (.iload 4, 2) := by decide +kernel
theorem dL_plain_89 : decode cL_plain 89 = .ok (.iload 5, 2) := by decide +kernel
theorem dL_plain_91 : decode cL_plain 91 = .ok (.invokevirtual 28, 3) := by decide +kernel
theorem dL_plain_94 : decode cL_plain 94 = .ok (.ireturn, 1) := by decide +kernel
theorem dL_plain_95 : decode cL_plain 95 = .ok (.aload_n 0, 1) := by decide +kernel
theorem dL_plain_96 : decode cL_plain 96 = .ok (.iload_n 2, 1) := by decide +kernel
theorem dL_plain_97 : decode cL_plain 97 = .ok (.iload_n 3, 1) := by decide +kernel
theorem dL_plain_98 : decode cL_plain 98 = .ok (.iload 4, 2) := by decide +kernel
theorem dL_plain_100 : decode cL_plain 100 = .ok (.invokevirtual 32, 3) := by decide +kernel
theorem dL_plain_103 : decode cL_plain 103 = .ok (.ireturn, 1) := by decide +kernel
theorem dL_plain_104 : decode cL_plain 104 = .ok (.aload_n 0, 1) := by decide +kernel
theorem dL_plain_105 : decode cL_plain 105 = .ok (.iload_n 2, 1) := by decide +kernel
theorem dL_plain_106 : decode cL_plain 106 = .ok (.iload_n 3, 1) := by decide +kernel
theorem dL_plain_107 : decode cL_plain 107 = .ok (.iload 4, 2) := by decide +kernel
theorem dL_plain_109 : decode cL_plain 109 = .ok (.iload 5, 2) := by decide +kernel
theorem dL_plain_111 : decode cL_plain 111 = .ok (.invokevirtual 36, 3) := by decide +kernel
theorem dL_plain_114 : decode cL_plain 114 = .ok (.ireturn, 1) := by decide +kernel
theorem dL_plain_115 : decode cL_plain 115 = .ok (.aload_n 0, 1) := by decide +kernel
theorem dL_plain_116 : decode cL_plain 116 = .ok (.iload_n 2, 1) := by decide +kernel
theorem dL_plain_117 : decode cL_plain 117 = .ok (.invokevirtual 39, 3) := by decide +kernel
theorem dL_plain_120 : decode cL_plain 120 = .ok (.ireturn, 1) := by decide +kernel
theorem dL_plain_121 : decode cL_plain 121 = .ok (.aload_n 0, 1) := by decide +kernel
theorem dL_plain_122 : decode cL_plain 122 = .ok (.iload_n 2, 1) := by decide +kernel
theorem dL_plain_123 : decode cL_plain 123 = .ok (.invokevirtual 42, 3) := by decide +kernel
theorem dL_plain_126 : decode cL_plain 126 = .ok (.ireturn, 1) := by decide +kernel
theorem dL_plain_127 : decode cL_plain 127 = .ok (.aload_n 0, 1) := by decide +kernel
theorem dL_plain_128 : decode cL_plain 128 = .ok (.iload_n 2, 1) := by decide +kernel
theorem dL_plain_129 : decode cL_plain 129 = .ok (.invokevirtual 45, 3) := by decide +kernel
theorem dL_plain_132 : decode cL_plain 132 = .ok (.ireturn, 1) := by decide +kernel
theorem dL_plain_133 : decode cL_plain 133 = .ok (.aload_n 0, 1) := by decide +kernel
theorem dL_plain_134 : decode cL_plain 134 = .ok (.iload_n 2, 1) := by decide +kernel
theorem dL_plain_135 : decode cL_plain 135 = .ok (.iload_n 3, 1) := by decide +kernel
theorem dL_plain_136 : decode cL_plain 136 = .ok (.iload 4, 2) := by decide +kernel
theorem dL_plain_138 : decode cL_plain 138 = .ok (.invokevirtual 48, 3) := by decide +kernel
theorem dL_plain_141 : decode cL_plain 141 = .ok (.ireturn, 1) := by decide +kernel
theorem dL_plain_142 : decode cL_plain 142 = .ok (.aload_n 0, 1) := by decide +kernel
theorem dL_plain_143 : decode cL_plain 143 = .ok (.iload_n 2, 1) := by decide +kernel
theorem dL_plain_144 : decode cL_plain 144 = .ok (.iload_n 3, 1) := by decide +kernel
theorem dL_plain_145 : decode cL_plain 145 = .ok (.invokevirtual 51, 3) := by decide +kernel
theorem dL_plain_148 : decode cL_plain 148 = .ok (.ireturn, 1) := by decide +kernel
theorem dL_plain_149 : decode cL_plain 149 = .ok (.aload_n 0, 1) := by decide +kernel
theorem dL_plain_150 : decode cL_plain 150 = .ok (.iload_n 2, 1) := by decide +kernel
theorem dL_plain_151 : decode cL_plain 151 = .ok (.iload_n 3, 1) := by decide +kernel
theorem dL_plain_152 : decode cL_plain 152 = .ok (.invokevirtual 54, 3) := by decide +kernel
theorem dL_plain_155 : decode cL_plain 155 = .ok (.ireturn, 1) := by decide +kernel
