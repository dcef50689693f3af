theorem dL_areMasteries_140 : decode cL_areMasteries 140 = .ok (.bipush 10, 2) := by decide +kernel
theorem dL_areMasteries_142 : decode cL_areMasteries 142 = .ok (.iload 9, 2) := by decide +kernel
theorem dL_areMasteries_144 : decode cL_areMasteries 144 = .ok (.iadd, 1) := by decide +kernel
theorem dL_areMasteries_145 : decode cL_areMasteries 145 = .ok (.iaload, 1) := by decide +kernel
theorem dL_areMasteries_146 : decode cL_areMasteries 146 = .ok (.iload 5, 2) := by decide +kernel
theorem dL_areMasteries_148 : decode cL_areMasteries 148 = .ok (.if_icmp .ne 7, 3) := by decide +kernel
theorem dL_areMasteries_151 : decode cL_areMasteries 151 = .ok (.iconst 1, 1) := by decide +kernel
theorem dL_areMasteries_152 : decode cL_areMasteries 152 = .ok (.goto 4, 3) := by decide +kernel
theorem dL_areMasteries_155 : decode cL_areMasteries 155 = .ok (.iconst 0, 1) := by decide +kernel
theorem dL_areMasteries_156 : decode cL_areMasteries 156 = .ok (.iadd, 1) := by decide +kernel
theorem dL_areMasteries_157 : decode cL_areMasteries 157 = .ok (.istore 7, 2) := by decide +kernel
theorem dL_areMasteries_159 : decode cL_areMasteries 159 = .ok (.iload 8, 2) := by decide +kernel
theorem dL_areMasteries_161 : decode cL_areMasteries 161 = .ok (.aload_n 1, 1) := by decide +kernel
theorem dL_areMasteries_162 : decode cL_areMasteries 162 = .ok (.bipush 10, 2) := by decide +kernel
theorem dL_areMasteries_164 : decode cL_areMasteries 164 = .ok (.iload 9, 2) := by decide +kernel
theorem dL_areMasteries_166 : decode cL_areMasteries 166 = .ok (.iadd, 1) := by decide +kernel
theorem dL_areMasteries_167 : decode cL_areMasteries 167 = .ok (.iaload, 1) := by decide +kernel
theorem dL_areMasteries_168 : decode cL_areMasteries 168 = .ok (.iload 5, 2) := by decide +kernel
theorem dL_areMasteries_170 : decode cL_areMasteries 170 = .ok (.if_icmp .ne 19, 3) := by decide +kernel
theorem dL_areMasteries_173 : decode cL_areMasteries 173 = .ok (.aload_n 0, 1) := by decide +kernel
theorem dL_areMasteries_174 : decode cL_areMasteries 174 = .ok (.bipush 8, 2) := by decide +kernel
theorem dL_areMasteries_176 : decode cL_areMasteries 176 = .ok (.iload_n 3, 1) := by decide +kernel
theorem dL_areMasteries_177 : decode cL_areMasteries 177 = .ok (.iload 9, 2) := by decide +kernel
theorem dL_areMasteries_179 : decode cL_areMasteries 179 = .ok (.invokestatic 136, 3) := by decide +kernel
theorem dL_areMasteries_182 : decode cL_areMasteries 182 = .ok (.ifCond .lt 7, 3) := by decide +kernel
theorem dL_areMasteries_185 : decode cL_areMasteries 185 = .ok (.iconst 1, 1) := by decide +kernel
theorem dL_areMasteries_186 : decode cL_areMasteries 186 = .ok (.goto 4, 3) := by decide +kernel
theorem dL_areMasteries_189 : decode cL_areMasteries 189 = .ok (.iconst 0, 1) := by decide +kernel
theorem dL_areMasteries_190 : decode cL_areMasteries 190 = .ok (.iadd, 1) := by decide +kernel
theorem dL_areMasteries_191 : decode cL_areMasteries 191 = .ok (.istore 8, 2) := by decide +kernel
theorem dL_areMasteries_193 : decode cL_areMasteries 193 = .ok (.iinc 9 1, 3) := by decide +kernel
theorem dL_areMasteries_196 : decode cL_areMasteries 196 = .ok (.goto (-67), 3) := by decide +kernel
theorem dL_areMasteries_199 : decode cL_areMasteries 199 = .ok (.iload 6, 2) := by decide +kernel
theorem dL_areMasteries_201 : decode cL_areMasteries 201 = .ok (.aload_n 0, 1) := by decide +kernel
theorem dL_areMasteries_202 : decode cL_areMasteries 202 = .ok (.bipush 10, 2) := by decide +kernel
theorem dL_areMasteries_204 : decode cL_areMasteries 204 = .ok (.iload_n 3, 1) := by decide +kernel
theorem dL_areMasteries_205 : decode cL_areMasteries 205 = .ok (.iload 5, 2) := by decide +kernel
theorem dL_areMasteries_207 : decode cL_areMasteries 207 = .ok (.invokestatic 136, 3) := by decide +kernel
theorem dL_areMasteries_210 : decode cL_areMasteries 210 = .ok (.if_icmp .ne 64, 3) := by decide +kernel
theorem dL_areMasteries_213 : decode cL_areMasteries 213 = .ok (.iload 6, 2) := by decide +kernel
theorem dL_areMasteries_215 : decode cL_areMasteries 215 = .ok (.ifCond .lt 59, 3) := by decide +kernel
theorem dL_areMasteries_218 : decode cL_areMasteries 218 = .ok (.iload 6, 2) := by decide +kernel
theorem dL_areMasteries_220 : decode cL_areMasteries 220 = .ok (.bipush 100, 2) := by decide +kernel
theorem dL_areMasteries_222 : decode cL_areMasteries 222 = .ok (.if_icmp .gt 52, 3) := by decide +kernel
theorem dL_areMasteries_225 : decode cL_areMasteries 225 = .ok (.iload 7, 2) := by decide +kernel
theorem dL_areMasteries_227 : decode cL_areMasteries 227 = .ok (.ifCond .gt 10, 3) := by decide +kernel
theorem dL_areMasteries_230 : decode cL_areMasteries 230 = .ok (.iload 6, 2) := by decide +kernel
theorem dL_areMasteries_232 : decode cL_areMasteries 232 = .ok (.bipush 100, 2) := by decide +kernel
theorem dL_areMasteries_234 : decode cL_areMasteries 234 = .ok (.if_icmp .ne 40, 3) := by decide +kernel
theorem dL_areMasteries_237 : decode cL_areMasteries 237 = .ok (.iload 7, 2) := by decide +kernel
theorem dL_areMasteries_239 : decode cL_areMasteries 239 = .ok (.ifCond .eq 13, 3) := by decide +kernel
theorem dL_areMasteries_242 : decode cL_areMasteries 242 = .ok (.iload 8, 2) := by decide +kernel
theorem dL_areMasteries_244 : decode cL_areMasteries 244 = .ok (.ifCond .gt 8, 3) := by decide +kernel
theorem dL_areMasteries_247 : decode cL_areMasteries 247 = .ok (.iload 6, 2) := by decide +kernel
theorem dL_areMasteries_249 : decode cL_areMasteries 249 = .ok (.ifCond .ne 25, 3) := by decide +kernel
theorem dL_areMasteries_252 : decode cL_areMasteries 252 = .ok (.iload 7, 2) := by decide +kernel
theorem dL_areMasteries_254 : decode cL_areMasteries 254 = .ok (.ifCond .eq 16, 3) := by decide +kernel
theorem dL_areMasteries_257 : decode cL_areMasteries 257 = .ok (.iload 6, 2) := by decide +kernel
theorem dL_areMasteries_259 : decode cL_areMasteries 259 = .ok (.bipush 100, 2) := by decide +kernel
theorem dL_areMasteries_261 : decode cL_areMasteries 261 = .ok (.iload 8, 2) := by decide +kernel
theorem dL_areMasteries_263 : decode cL_areMasteries 263 = .ok (.imul, 1) := by decide +kernel
theorem dL_areMasteries_264 : decode cL_areMasteries 264 = .ok (.iload 7, 2) := by decide +kernel
theorem dL_areMasteries_266 : decode cL_areMasteries 266 = .ok (.idiv, 1) := by decide +kernel
theorem dL_areMasteries_267 : decode cL_areMasteries 267 = .ok (.if_icmp .gt 7, 3) := by decide +kernel
theorem dL_areMasteries_270 : decode cL_areMasteries 270 = .ok (.iconst 1, 1) := by decide +kernel
theorem dL_areMasteries_271 : decode cL_areMasteries 271 = .ok (.goto 4, 3) := by decide +kernel
theorem dL_areMasteries_274 : decode cL_areMasteries 274 = .ok (.iconst 0, 1) := by decide +kernel
theorem dL_areMasteries_275 : decode cL_areMasteries 275 = .ok (.istore_n 2, 1) := by decide +kernel
theorem dL_areMasteries_276 : decode cL_areMasteries 276 = .ok (.iinc 5 1, 3) := by decide +kernel
theorem dL_areMasteries_279 : decode cL_areMasteries 279 = .ok (.goto (-182), 3) := by decide +kernel
theorem dL_areMasteries_282 : decode cL_areMasteries 282 = .ok (.iconst 0, 1) := by decide +kernel
theorem dL_areMasteries_283 : decode cL_areMasteries 283 = .ok (.istore 5, 2) := by decide +kernel
theorem dL_areMasteries_285 : decode cL_areMasteries 285 = .ok (.iload 5, 2) := by decide +kernel
theorem dL_areMasteries_287 : decode cL_areMasteries 287 = .ok (.aload_n 1, 1) := by decide +kernel
theorem dL_areMasteries_288 : decode cL_areMasteries 288 = .ok (.iconst 3, 1) := by decide +kernel
theorem dL_areMasteries_289 : decode cL_areMasteries 289 = .ok (.iaload, 1) := by decide +kernel
theorem dL_areMasteries_290 : decode cL_areMasteries 290 = .ok (.if_icmp .ge 103, 3) := by decide +kernel
theorem dL_areMasteries_293 : decode cL_areMasteries 293 = .ok (.iload_n 2, 1) := by decide +kernel
theorem dL_areMasteries_294 : decode cL_areMasteries 294 = .ok (.ifCond .eq 99, 3) := by decide +kernel
theorem dL_areMasteries_297 : decode cL_areMasteries 297 = .ok (.aload_n 0, 1) := by decide +kernel
theorem dL_areMasteries_298 : decode cL_areMasteries 298 = .ok (.bipush 8, 2) := by decide +kernel
theorem dL_areMasteries_300 : decode cL_areMasteries 300 = .ok (.iload_n 3, 1) := by decide +kernel
theorem dL_areMasteries_301 : decode cL_areMasteries 301 = .ok (.iload 5, 2) := by decide +kernel
theorem dL_areMasteries_303 : decode cL_areMasteries 303 = .ok (.invokestatic 136, 3) := by decide +kernel
theorem dL_areMasteries_306 : decode cL_areMasteries 306 = .ok (.istore 6, 2) := by decide +kernel
theorem dL_areMasteries_308 : decode cL_areMasteries 308 = .ok (.iload 6, 2) := by decide +kernel
theorem dL_areMasteries_310 : decode cL_areMasteries 310 = .ok (.sipush (-2005), 3) := by decide +kernel
theorem dL_areMasteries_313 : decode cL_areMasteries 313 = .ok (.if_icmp .eq 16, 3) := by decide +kernel
theorem dL_areMasteries_316 : decode cL_areMasteries 316 = .ok (.aload_n 0, 1) := by decide +kernel
theorem dL_areMasteries_317 : decode cL_areMasteries 317 = .ok (.bipush 6, 2) := by decide +kernel
theorem dL_areMasteries_319 : decode cL_areMasteries 319 = .ok (.iload 6, 2) := by decide +kernel
theorem dL_areMasteries_321 : decode cL_areMasteries 321 = .ok (.iconst 0, 1) := by decide +kernel
theorem dL_areMasteries_322 : decode cL_areMasteries 322 = .ok (.invokestatic 136, 3) := by decide +kernel
theorem dL_areMasteries_325 : decode cL_areMasteries 325 = .ok (.iload_n 3, 1) := by decide +kernel
theorem dL_areMasteries_326 : decode cL_areMasteries 326 = .ok (.if_icmp .ne 59, 3) := by decide +kernel
theorem dL_areMasteries_329 : decode cL_areMasteries 329 = .ok (.aload_n 0, 1) := by decide +kernel
theorem dL_areMasteries_330 : decode cL_areMasteries 330 = .ok (.iconst 2, 1) := by decide +kernel
theorem dL_areMasteries_331 : decode cL_areMasteries 331 = .ok (.iload_n 3, 1) := by decide +kernel
theorem dL_areMasteries_332 : decode cL_areMasteries 332 = .ok (.iload 5, 2) := by decide +kernel
theorem dL_areMasteries_334 : decode cL_areMasteries 334 = .ok (.invokestatic 136, 3) := by decide +kernel
theorem dL_areMasteries_337 : decode cL_areMasteries 337 = .ok (.bipush 45, 2) := by decide +kernel
theorem dL_areMasteries_339 : decode cL_areMasteries 339 = .ok (.if_icmp .eq 42, 3) := by decide +kernel
theorem dL_areMasteries_342 : decode cL_areMasteries 342 = .ok (.aload_n 0, 1) := by decide +kernel
theorem dL_areMasteries_343 : decode cL_areMasteries 343 = .ok (.iconst 2, 1) := by decide +kernel
theorem dL_areMasteries_344 : decode cL_areMasteries 344 = .ok (.iload_n 3, 1) := by decide +kernel
theorem dL_areMasteries_345 : decode cL_areMasteries 345 = .ok (.iload 5, 2) := by decide +kernel
theorem dL_areMasteries_347 : decode cL_areMasteries 347 = .ok (.invokestatic 136, 3) := by decide +kernel
theorem dL_areMasteries_350 : decode cL_areMasteries 350 = .ok (.bipush 100, 2) := by decide +kernel
theorem dL_areMasteries_352 : decode cL_areMasteries 352 = .ok (.if_icmp .eq 29, 3) := by decide +kernel
theorem dL_areMasteries_355 : decode cL_areMasteries 355 = .ok (.aload_n 0, 1) := by decide +kernel
