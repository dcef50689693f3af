theorem dL_isMend_96 : decode cL_isMend 96 = .ok (.invokevirtual 169, 3) := by decide +kernel
theorem dL_isMend_99 : decode cL_isMend 99 = .ok (.if_icmp .gt 60, 3) := by decide +kernel
theorem dL_isMend_102 : decode cL_isMend 102 = .ok (.aload_n 0, 1) := by decide +kernel
theorem dL_isMend_103 : decode cL_isMend 103 = .ok (.iconst 0, 1) := by decide +kernel
theorem dL_isMend_104 : decode cL_isMend 104 = .ok (.aload_n 1, 1) := by decide +kernel
theorem dL_isMend_105 : decode cL_isMend 105 = .ok (.bipush 10, 2) := by decide +kernel
theorem dL_isMend_107 : decode cL_isMend 107 = .ok (.iload_n 2, 1) := by decide +kernel
theorem dL_isMend_108 : decode cL_isMend 108 = .ok (.iadd, 1) := by decide +kernel
theorem dL_isMend_109 : decode cL_isMend 109 = .ok (.iaload, 1) := by decide +kernel
theorem dL_isMend_110 : decode cL_isMend 110 = .ok (.iconst 0, 1) := by decide +kernel
theorem dL_isMend_111 : decode cL_isMend 111 = .ok (.invokestatic 136, 3) := by decide +kernel
theorem dL_isMend_114 : decode cL_isMend 114 = .ok (.iload 7, 2) := by decide +kernel
theorem dL_isMend_116 : decode cL_isMend 116 = .ok (.iconst 1, 1) := by decide +kernel
theorem dL_isMend_117 : decode cL_isMend 117 = .ok (.iadd, 1) := by decide +kernel
theorem dL_isMend_118 : decode cL_isMend 118 = .ok (.if_icmp .ne 41, 3) := by decide +kernel
theorem dL_isMend_121 : decode cL_isMend 121 = .ok (.aload_n 0, 1) := by decide +kernel
theorem dL_isMend_122 : decode cL_isMend 122 = .ok (.bipush 9, 2) := by decide +kernel
theorem dL_isMend_124 : decode cL_isMend 124 = .ok (.iload_n 2, 1) := by decide +kernel
theorem dL_isMend_125 : decode cL_isMend 125 = .ok (.iload_n 3, 1) := by decide +kernel
theorem dL_isMend_126 : decode cL_isMend 126 = .ok (.iload 4, 2) := by decide +kernel
theorem dL_isMend_128 : decode cL_isMend 128 = .ok (.iconst 0, 1) := by decide +kernel
theorem dL_isMend_129 : decode cL_isMend 129 = .ok (.invokestatic 165, 3) := by decide +kernel
theorem dL_isMend_132 : decode cL_isMend 132 = .ok (.sipush (-2003), 3) := by decide +kernel
theorem dL_isMend_135 : decode cL_isMend 135 = .ok (.if_icmp .ne 24, 3) := by decide +kernel
theorem dL_isMend_138 : decode cL_isMend 138 = .ok (.aload_n 0, 1) := by decide +kernel
theorem dL_isMend_139 : decode cL_isMend 139 = .ok (.bipush 12, 2) := by decide +kernel
theorem dL_isMend_141 : decode cL_isMend 141 = .ok (.aload_n 0, 1) := by decide +kernel
theorem dL_isMend_142 : decode cL_isMend 142 = .ok (.invokevirtual 169, 3) := by decide +kernel
theorem dL_isMend_145 : decode cL_isMend 145 = .ok (.iconst 0, 1) := by decide +kernel
theorem dL_isMend_146 : decode cL_isMend 146 = .ok (.invokestatic 136, 3) := by decide +kernel
theorem dL_isMend_149 : decode cL_isMend 149 = .ok (.sipush (-2001), 3) := by decide +kernel
theorem dL_isMend_152 : decode cL_isMend 152 = .ok (.if_icmp .ne 7, 3) := by decide +kernel
theorem dL_isMend_155 : decode cL_isMend 155 = .ok (.iconst 1, 1) := by decide +kernel
theorem dL_isMend_156 : decode cL_isMend 156 = .ok (.goto 4, 3) := by decide +kernel
theorem dL_isMend_159 : decode cL_isMend 159 = .ok (.iconst 0, 1) := by decide +kernel
theorem dL_isMend_160 : decode cL_isMend 160 = .ok (.istore 12, 2) := by decide +kernel
theorem dL_isMend_162 : decode cL_isMend 162 = .ok (.iconst 0, 1) := by decide +kernel
theorem dL_isMend_163 : decode cL_isMend 163 = .ok (.istore 13, 2) := by decide +kernel
theorem dL_isMend_165 : decode cL_isMend 165 = .ok (.iload 13, 2) := by decide +kernel
theorem dL_isMend_167 : decode cL_isMend 167 = .ok (.aload_n 0, 1) := by decide +kernel
theorem dL_isMend_168 : decode cL_isMend 168 = .ok (.invokevirtual 169, 3) := by decide +kernel
theorem dL_isMend_171 : decode cL_isMend 171 = .ok (.if_icmp .ge 136, 3) := by decide +kernel
theorem dL_isMend_174 : decode cL_isMend 174 = .ok (.iload 12, 2) := by decide +kernel
theorem dL_isMend_176 : decode cL_isMend 176 = .ok (.ifCond .eq 131, 3) := by decide +kernel
theorem dL_isMend_179 : decode cL_isMend 179 = .ok (.aload_n 0, 1) := by decide +kernel
theorem dL_isMend_180 : decode cL_isMend 180 = .ok (.bipush 12, 2) := by decide +kernel
theorem dL_isMend_182 : decode cL_isMend 182 = .ok (.iload 13, 2) := by decide +kernel
theorem dL_isMend_184 : decode cL_isMend 184 = .ok (.iconst 0, 1) := by decide +kernel
theorem dL_isMend_185 : decode cL_isMend 185 = .ok (.invokestatic 136, 3) := by decide +kernel
theorem dL_isMend_188 : decode cL_isMend 188 = .ok (.istore 14, 2) := by decide +kernel
theorem dL_isMend_190 : decode cL_isMend 190 = .ok (.aload_n 0, 1) := by decide +kernel
theorem dL_isMend_191 : decode cL_isMend 191 = .ok (.iconst 3, 1) := by decide +kernel
theorem dL_isMend_192 : decode cL_isMend 192 = .ok (.iload 14, 2) := by decide +kernel
theorem dL_isMend_194 : decode cL_isMend 194 = .ok (.iconst 0, 1) := by decide +kernel
theorem dL_isMend_195 : decode cL_isMend 195 = .ok (.invokestatic 136, 3) := by decide +kernel
theorem dL_isMend_198 : decode cL_isMend 198 = .ok (.aload 6, 2) := by decide +kernel
theorem dL_isMend_200 : decode cL_isMend 200 = .ok (.iload 14, 2) := by decide +kernel
theorem dL_isMend_202 : decode cL_isMend 202 = .ok (.iaload, 1) := by decide +kernel
theorem dL_isMend_203 : decode cL_isMend 203 = .ok (.isub, 1) := by decide +kernel
theorem dL_isMend_204 : decode cL_isMend 204 = .ok (.istore 15, 2) := by decide +kernel
theorem dL_isMend_206 : decode cL_isMend 206 = .ok (.iload 15, 2) := by decide +kernel
theorem dL_isMend_208 : decode cL_isMend 208 = .ok (.iload 9, 2) := by decide +kernel
theorem dL_isMend_210 : decode cL_isMend 210 = .ok (.if_icmp .gt 17, 3) := by decide +kernel
theorem dL_isMend_213 : decode cL_isMend 213 = .ok (.iload 15, 2) := by decide +kernel
theorem dL_isMend_215 : decode cL_isMend 215 = .ok (.iload 9, 2) := by decide +kernel
theorem dL_isMend_217 : decode cL_isMend 217 = .ok (.if_icmp .ne 14, 3) := by decide +kernel
theorem dL_isMend_220 : decode cL_isMend 220 = .ok (.iload 14, 2) := by decide +kernel
theorem dL_isMend_222 : decode cL_isMend 222 = .ok (.iload 10, 2) := by decide +kernel
theorem dL_isMend_224 : decode cL_isMend 224 = .ok (.if_icmp .le 7, 3) := by decide +kernel
theorem dL_isMend_227 : decode cL_isMend 227 = .ok (.iconst 1, 1) := by decide +kernel
theorem dL_isMend_228 : decode cL_isMend 228 = .ok (.goto 4, 3) := by decide +kernel
theorem dL_isMend_231 : decode cL_isMend 231 = .ok (.iconst 0, 1) := by decide +kernel
theorem dL_isMend_232 : decode cL_isMend 232 = .ok (.istore 12, 2) := by decide +kernel
theorem dL_isMend_234 : decode cL_isMend 234 = .ok (.iload 11, 2) := by decide +kernel
theorem dL_isMend_236 : decode cL_isMend 236 = .ok (.iload 15, 2) := by decide +kernel
theorem dL_isMend_238 : decode cL_isMend 238 = .ok (.ifCond .ne 7, 3) := by decide +kernel
theorem dL_isMend_241 : decode cL_isMend 241 = .ok (.iconst 0, 1) := by decide +kernel
theorem dL_isMend_242 : decode cL_isMend 242 = .ok (.goto 4, 3) := by decide +kernel
theorem dL_isMend_245 : decode cL_isMend 245 = .ok (.iconst 1, 1) := by decide +kernel
theorem dL_isMend_246 : decode cL_isMend 246 = .ok (.iadd, 1) := by decide +kernel
theorem dL_isMend_247 : decode cL_isMend 247 = .ok (.istore 11, 2) := by decide +kernel
theorem dL_isMend_249 : decode cL_isMend 249 = .ok (.iload 15, 2) := by decide +kernel
theorem dL_isMend_251 : decode cL_isMend 251 = .ok (.istore 9, 2) := by decide +kernel
theorem dL_isMend_253 : decode cL_isMend 253 = .ok (.iload 14, 2) := by decide +kernel
theorem dL_isMend_255 : decode cL_isMend 255 = .ok (.istore 10, 2) := by decide +kernel
theorem dL_isMend_257 : decode cL_isMend 257 = .ok (.iconst 0, 1) := by decide +kernel
theorem dL_isMend_258 : decode cL_isMend 258 = .ok (.istore 16, 2) := by decide +kernel
theorem dL_isMend_260 : decode cL_isMend 260 = .ok (.iload 16, 2) := by decide +kernel
theorem dL_isMend_262 : decode cL_isMend 262 = .ok (.aload_n 0, 1) := by decide +kernel
theorem dL_isMend_263 : decode cL_isMend 263 = .ok (.invokevirtual 172, 3) := by decide +kernel
theorem dL_isMend_266 : decode cL_isMend 266 = .ok (.if_icmp .ge 35, 3) := by decide +kernel
theorem dL_isMend_269 : decode cL_isMend 269 = .ok (.iload 12, 2) := by decide +kernel
theorem dL_isMend_271 : decode cL_isMend 271 = .ok (.ifCond .eq 21, 3) := by decide +kernel
theorem dL_isMend_274 : decode cL_isMend 274 = .ok (.aload_n 0, 1) := by decide +kernel
theorem dL_isMend_275 : decode cL_isMend 275 = .ok (.bipush 11, 2) := by decide +kernel
theorem dL_isMend_277 : decode cL_isMend 277 = .ok (.iload 16, 2) := by decide +kernel
theorem dL_isMend_279 : decode cL_isMend 279 = .ok (.iconst 0, 1) := by decide +kernel
theorem dL_isMend_280 : decode cL_isMend 280 = .ok (.invokestatic 136, 3) := by decide +kernel
theorem dL_isMend_283 : decode cL_isMend 283 = .ok (.iload 14, 2) := by decide +kernel
theorem dL_isMend_285 : decode cL_isMend 285 = .ok (.if_icmp .eq 7, 3) := by decide +kernel
theorem dL_isMend_288 : decode cL_isMend 288 = .ok (.iconst 1, 1) := by decide +kernel
theorem dL_isMend_289 : decode cL_isMend 289 = .ok (.goto 4, 3) := by decide +kernel
theorem dL_isMend_292 : decode cL_isMend 292 = .ok (.iconst 0, 1) := by decide +kernel
theorem dL_isMend_293 : decode cL_isMend 293 = .ok (.istore 12, 2) := by decide +kernel
theorem dL_isMend_295 : decode cL_isMend 295 = .ok (.iinc 16 1, 3) := by decide +kernel
theorem dL_isMend_298 : decode cL_isMend 298 = .ok (.goto (-38), 3) := by decide +kernel
theorem dL_isMend_301 : decode cL_isMend 301 = .ok (.iinc 13 1, 3) := by decide +kernel
theorem dL_isMend_304 : decode cL_isMend 304 = .ok (.goto (-139), 3) := by decide +kernel
theorem dL_isMend_307 : decode cL_isMend 307 = .ok (.iload 12, 2) := by decide +kernel
theorem dL_isMend_309 : decode cL_isMend 309 = .ok (.ifCond .eq 14, 3) := by decide +kernel
