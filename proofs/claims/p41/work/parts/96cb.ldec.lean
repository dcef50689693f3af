theorem dL_plain_156 : decode cL_plain 156 = .ok (.aload_n 0, 1) := by decide +kernel
theorem dL_plain_157 : decode cL_plain 157 = .ok (.iload_n 2, 1) := by decide +kernel
theorem dL_plain_158 : decode cL_plain 158 = .ok (.invokevirtual 57, 3) := by decide +kernel
theorem dL_plain_161 : decode cL_plain 161 = .ok (.ireturn, 1) := by decide +kernel
theorem dL_deed_0 : decode cL_deed 0 = .ok (.aload_n 0, 1) := by decide +kernel
theorem dL_deed_1 : decode cL_deed 1 = .ok (.iload_n 1, 1) := by decide +kernel
theorem dL_deed_2 : decode cL_deed 2 = .ok (.iload_n 2, 1) := by decide +kernel
theorem dL_deed_3 : decode cL_deed 3 = .ok (.iload_n 3, 1) := by decide +kernel
theorem dL_deed_4 : decode cL_deed 4 = .ok (.iload 4, 2) := by decide +kernel
theorem dL_deed_6 : decode cL_deed 6 = .ok (.iload 5, 2) := by decide +kernel
theorem dL_deed_8 : decode cL_deed 8 = .ok (.invokestatic 60, 3) := by decide +kernel
theorem dL_deed_11 : decode cL_deed 11 = .ok (.ireturn, 1) := by decide +kernel
theorem dL_deed_12 : decode cL_deed 12 = .ok (.astore 6, 2) := by decide +kernel
theorem dL_deed_14 : decode cL_deed 14 = .ok (.sipush (-2001), 3) := by decide +kernel
theorem dL_deed_17 : decode cL_deed 17 = .ok (.ireturn, 1) := by decide +kernel
theorem dL_deed_18 : decode cL_deed 18 = .ok (.astore 6, 2) := by decide +kernel
theorem dL_deed_20 : decode cL_deed 20 = .ok (.sipush (-2002), 3) := by decide +kernel
theorem dL_deed_23 : decode cL_deed 23 = .ok (.ireturn, 1) := by decide +kernel
theorem dL_deed_24 : decode cL_deed 24 = .ok (.astore 6, 2) := by decide +kernel
theorem dL_deed_26 : decode cL_deed 26 = .ok (.sipush (-2003), 3) := by decide +kernel
theorem dL_deed_29 : decode cL_deed 29 = .ok (.ireturn, 1) := by decide +kernel
theorem dL_deed_30 : decode cL_deed 30 = .ok (.astore 6, 2) := by decide +kernel
theorem dL_deed_32 : decode cL_deed 32 = .ok (.sipush (-2004), 3) := by decide +kernel
theorem dL_deed_35 : decode cL_deed 35 = .ok (.ireturn, 1) := by decide +kernel
theorem dL_deed_36 : decode cL_deed 36 = .ok (.astore 6, 2) := by decide +kernel
theorem dL_deed_38 : decode cL_deed 38 = .ok (.sipush (-2005), 3) := by decide +kernel
theorem dL_deed_41 : decode cL_deed 41 = .ok (.ireturn, 1) := by decide +kernel
theorem dL_asked_0 : decode cL_asked 0 = .ok (.iload_n 1, 1) := by decide +kernel
theorem dL_asked_1 : decode cL_asked 1 = .ok (.tableswitch 184 0 15 #[79, 85, 91, 98, 104, 110, 117, 123, 129, 136, 143, 150, 156, 162, 171, 178], 79) := by decide +kernel
theorem dL_asked_80 : decode cL_asked 80 = .ok (.aload_n 0, 1) := by decide +kernel
theorem dL_asked_81 : decode cL_asked 81 = .ok (.iload_n 2, 1) := by decide +kernel
theorem dL_asked_82 : decode cL_asked 82 = .ok (.invokevirtual 74, 3) := by decide +kernel
theorem dL_asked_85 : decode cL_asked 85 = .ok (.ireturn, 1) := by decide +kernel
theorem dL_asked_86 : decode cL_asked 86 = .ok (.aload_n 0, 1) := by decide +kernel
theorem dL_asked_87 : decode cL_asked 87 = .ok (.iload_n 2, 1) := by decide +kernel
theorem dL_asked_88 : decode cL_asked 88 = .ok (.invokevirtual 77, 3) := by decide +kernel
theorem dL_asked_91 : decode cL_asked 91 = .ok (.ireturn, 1) := by decide +kernel
theorem dL_asked_92 : decode cL_asked 92 = .ok (.aload_n 0, 1) := by decide +kernel
theorem dL_asked_93 : decode cL_asked 93 = .ok (.iload_n 2, 1) := by decide +kernel
theorem dL_asked_94 : decode cL_asked 94 = .ok (.iload_n 3, 1) := by decide +kernel
theorem dL_asked_95 : decode cL_asked 95 = .ok (.invokevirtual 80, 3) := by decide +kernel
theorem dL_asked_98 : decode cL_asked 98 = .ok (.ireturn, 1) := by decide +kernel
theorem dL_asked_99 : decode cL_asked 99 = .ok (.aload_n 0, 1) := by decide +kernel
theorem dL_asked_100 : decode cL_asked 100 = .ok (.iload_n 2, 1) := by decide +kernel
theorem dL_asked_101 : decode cL_asked 101 = .ok (.invokevirtual 84, 3) := by decide +kernel
theorem dL_asked_104 : decode cL_asked 104 = .ok (.ireturn, 1) := by decide +kernel
theorem dL_asked_105 : decode cL_asked 105 = .ok (.aload_n 0, 1) := by decide +kernel
theorem dL_asked_106 : decode cL_asked 106 = .ok (.iload_n 2, 1) := by decide +kernel
theorem dL_asked_107 : decode cL_asked 107 = .ok (.invokevirtual 87, 3) := by decide +kernel
theorem dL_asked_110 : decode cL_asked 110 = .ok (.ireturn, 1) := by decide +kernel
theorem dL_asked_111 : decode cL_asked 111 = .ok (.aload_n 0, 1) := by decide +kernel
theorem dL_asked_112 : decode cL_asked 112 = .ok (.iload_n 2, 1) := by decide +kernel
theorem dL_asked_113 : decode cL_asked 113 = .ok (.iload_n 3, 1) := by decide +kernel
theorem dL_asked_114 : decode cL_asked 114 = .ok (.invokevirtual 90, 3) := by decide +kernel
theorem dL_asked_117 : decode cL_asked 117 = .ok (.ireturn, 1) := by decide +kernel
theorem dL_asked_118 : decode cL_asked 118 = .ok (.aload_n 0, 1) := by decide +kernel
theorem dL_asked_119 : decode cL_asked 119 = .ok (.iload_n 2, 1) := by decide +kernel
theorem dL_asked_120 : decode cL_asked 120 = .ok (.invokevirtual 93, 3) := by decide +kernel
theorem dL_asked_123 : decode cL_asked 123 = .ok (.ireturn, 1) := by decide +kernel
theorem dL_asked_124 : decode cL_asked 124 = .ok (.aload_n 0, 1) := by decide +kernel
theorem dL_asked_125 : decode cL_asked 125 = .ok (.iload_n 2, 1) := by decide +kernel
theorem dL_asked_126 : decode cL_asked 126 = .ok (.invokevirtual 96, 3) := by decide +kernel
theorem dL_asked_129 : decode cL_asked 129 = .ok (.ireturn, 1) := by decide +kernel
theorem dL_asked_130 : decode cL_asked 130 = .ok (.aload_n 0, 1) := by decide +kernel
theorem dL_asked_131 : decode cL_asked 131 = .ok (.iload_n 2, 1) := by decide +kernel
theorem dL_asked_132 : decode cL_asked 132 = .ok (.iload_n 3, 1) := by decide +kernel
theorem dL_asked_133 : decode cL_asked 133 = .ok (.invokevirtual 99, 3) := by decide +kernel
theorem dL_asked_136 : decode cL_asked 136 = .ok (.ireturn, 1) := by decide +kernel
theorem dL_asked_137 : decode cL_asked 137 = .ok (.aload_n 0, 1) := by decide +kernel
theorem dL_asked_138 : decode cL_asked 138 = .ok (.iload_n 2, 1) := by decide +kernel
theorem dL_asked_139 : decode cL_asked 139 = .ok (.iload_n 3, 1) := by decide +kernel
theorem dL_asked_140 : decode cL_asked 140 = .ok (.invokevirtual 102, 3) := by decide +kernel
theorem dL_asked_143 : decode cL_asked 143 = .ok (.ireturn, 1) := by decide +kernel
theorem dL_asked_144 : decode cL_asked 144 = .ok (.aload_n 0, 1) := by decide +kernel
theorem dL_asked_145 : decode cL_asked 145 = .ok (.iload_n 2, 1) := by decide +kernel
theorem dL_asked_146 : decode cL_asked 146 = .ok (.iload_n 3, 1) := by decide +kernel
theorem dL_asked_147 : decode cL_asked 147 = .ok (.invokevirtual 105, 3) := by decide +kernel
theorem dL_asked_150 : decode cL_asked 150 = .ok (.ireturn, 1) := by decide +kernel
theorem dL_asked_151 : decode cL_asked 151 = .ok (.aload_n 0, 1) := by decide +kernel
theorem dL_asked_152 : decode cL_asked 152 = .ok (.iload_n 2, 1) := by decide +kernel
theorem dL_asked_153 : decode cL_asked 153 = .ok (.invokevirtual 108, 3) := by decide +kernel
theorem dL_asked_156 : decode cL_asked 156 = .ok (.ireturn, 1) := by decide +kernel
theorem dL_asked_157 : decode cL_asked 157 = .ok (.aload_n 0, 1) := by decide +kernel
theorem dL_asked_158 : decode cL_asked 158 = .ok (.iload_n 2, 1) := by decide +kernel
theorem dL_asked_159 : decode cL_asked 159 = .ok (.invokevirtual 111, 3) := by decide +kernel
theorem dL_asked_162 : decode cL_asked 162 = .ok (.ireturn, 1) := by decide +kernel
theorem dL_asked_163 : decode cL_asked 163 = .ok (.aload_n 0, 1) := by decide +kernel
theorem dL_asked_164 : decode cL_asked 164 = .ok (.iload_n 2, 1) := by decide +kernel
theorem dL_asked_165 : decode cL_asked 165 = .ok (.invokevirtual 114, 3) := by decide +kernel
theorem dL_asked_168 : decode cL_asked 168 = .ok (.invokestatic 118, 3) := by decide +kernel
theorem dL_asked_171 : decode cL_asked 171 = .ok (.ireturn, 1) := by decide +kernel
theorem dL_asked_172 : decode cL_asked 172 = .ok (.aload_n 0, 1) := by decide +kernel
theorem dL_asked_173 : decode cL_asked 173 = .ok (.iload_n 2, 1) := by decide +kernel
theorem dL_asked_174 : decode cL_asked 174 = .ok (.iload_n 3, 1) := by decide +kernel
theorem dL_asked_175 : decode cL_asked 175 = .ok (.invokevirtual 122, 3) := by decide +kernel
theorem dL_asked_178 : decode cL_asked 178 = .ok (.ireturn, 1) := by decide +kernel
theorem dL_asked_179 : decode cL_asked 179 = .ok (.aload_n 0, 1) := by decide +kernel
theorem dL_asked_180 : decode cL_asked 180 = .ok (.iload_n 2, 1) := by decide +kernel
theorem dL_asked_181 : decode cL_asked 181 = .ok (.invokevirtual 125, 3) := by decide +kernel
theorem dL_asked_184 : decode cL_asked 184 = .ok (.ireturn, 1) := by decide +kernel
theorem dL_asked_185 : decode cL_asked 185 = .ok (.aload_n 0, 1) := by decide +kernel
theorem dL_asked_186 : decode cL_asked 186 = .ok (.iload_n 2, 1) := by decide +kernel
theorem dL_asked_187 : decode cL_asked 187 = .ok (.invokevirtual 128, 3) := by decide +kernel
theorem dL_asked_190 : decode cL_asked 190 = .ok (.ireturn, 1) := by decide +kernel
theorem dL_ask_0 : decode cL_ask 0 = .ok (.aload_n 0, 1) := by decide +kernel
theorem dL_ask_1 : decode cL_ask 1 = .ok (.iload_n 1, 1) := by decide +kernel
theorem dL_ask_2 : decode cL_ask 2 = .ok (.iload_n 2, 1) := by decide +kernel
theorem dL_ask_3 : decode cL_ask 3 = .ok (.iload_n 3, 1) := by decide +kernel
theorem dL_ask_4 : decode cL_ask 4 = .ok (.invokestatic 132, 3) := by decide +kernel
theorem dL_ask_7 : decode cL_ask 7 = .ok (.ireturn, 1) := by decide +kernel
