theorem dL_areCertificates_153 : decode cL_areCertificates 153 = .ok (.invokestatic 136, 3) := by decide +kernel
theorem dL_areCertificates_156 : decode cL_areCertificates 156 = .ok (.istore 7, 2) := by decide +kernel
theorem dL_areCertificates_158 : decode cL_areCertificates 158 = .ok (.iload 7, 2) := by decide +kernel
theorem dL_areCertificates_160 : decode cL_areCertificates 160 = .ok (.sipush (-2005), 3) := by decide +kernel
theorem dL_areCertificates_163 : decode cL_areCertificates 163 = .ok (.if_icmp .eq 29, 3) := by decide +kernel
theorem dL_areCertificates_166 : decode cL_areCertificates 166 = .ok (.iload 7, 2) := by decide +kernel
theorem dL_areCertificates_168 : decode cL_areCertificates 168 = .ok (.ifCond .lt 28, 3) := by decide +kernel
theorem dL_areCertificates_171 : decode cL_areCertificates 171 = .ok (.iload 7, 2) := by decide +kernel
theorem dL_areCertificates_173 : decode cL_areCertificates 173 = .ok (.aload_n 1, 1) := by decide +kernel
theorem dL_areCertificates_174 : decode cL_areCertificates 174 = .ok (.iconst 5, 1) := by decide +kernel
theorem dL_areCertificates_175 : decode cL_areCertificates 175 = .ok (.iaload, 1) := by decide +kernel
theorem dL_areCertificates_176 : decode cL_areCertificates 176 = .ok (.if_icmp .ge 20, 3) := by decide +kernel
theorem dL_areCertificates_179 : decode cL_areCertificates 179 = .ok (.aload_n 0, 1) := by decide +kernel
theorem dL_areCertificates_180 : decode cL_areCertificates 180 = .ok (.bipush 13, 2) := by decide +kernel
theorem dL_areCertificates_182 : decode cL_areCertificates 182 = .ok (.iload 7, 2) := by decide +kernel
theorem dL_areCertificates_184 : decode cL_areCertificates 184 = .ok (.iconst 0, 1) := by decide +kernel
theorem dL_areCertificates_185 : decode cL_areCertificates 185 = .ok (.invokestatic 136, 3) := by decide +kernel
theorem dL_areCertificates_188 : decode cL_areCertificates 188 = .ok (.iconst 1, 1) := by decide +kernel
theorem dL_areCertificates_189 : decode cL_areCertificates 189 = .ok (.if_icmp .ne 7, 3) := by decide +kernel
theorem dL_areCertificates_192 : decode cL_areCertificates 192 = .ok (.iconst 1, 1) := by decide +kernel
theorem dL_areCertificates_193 : decode cL_areCertificates 193 = .ok (.goto 4, 3) := by decide +kernel
theorem dL_areCertificates_196 : decode cL_areCertificates 196 = .ok (.iconst 0, 1) := by decide +kernel
theorem dL_areCertificates_197 : decode cL_areCertificates 197 = .ok (.istore 4, 2) := by decide +kernel
theorem dL_areCertificates_199 : decode cL_areCertificates 199 = .ok (.iinc 6 1, 3) := by decide +kernel
theorem dL_areCertificates_202 : decode cL_areCertificates 202 = .ok (.goto (-69), 3) := by decide +kernel
theorem dL_areCertificates_205 : decode cL_areCertificates 205 = .ok (.iinc 5 1, 3) := by decide +kernel
theorem dL_areCertificates_208 : decode cL_areCertificates 208 = .ok (.goto (-91), 3) := by decide +kernel
theorem dL_areCertificates_211 : decode cL_areCertificates 211 = .ok (.iload 4, 2) := by decide +kernel
theorem dL_areCertificates_213 : decode cL_areCertificates 213 = .ok (.ifCond .eq 40, 3) := by decide +kernel
theorem dL_areCertificates_216 : decode cL_areCertificates 216 = .ok (.aload_n 0, 1) := by decide +kernel
theorem dL_areCertificates_217 : decode cL_areCertificates 217 = .ok (.invokevirtual 158, 3) := by decide +kernel
theorem dL_areCertificates_220 : decode cL_areCertificates 220 = .ok (.iload_n 3, 1) := by decide +kernel
theorem dL_areCertificates_221 : decode cL_areCertificates 221 = .ok (.if_icmp .ne 32, 3) := by decide +kernel
theorem dL_areCertificates_224 : decode cL_areCertificates 224 = .ok (.aload_n 1, 1) := by decide +kernel
theorem dL_areCertificates_225 : decode cL_areCertificates 225 = .ok (.iconst 5, 1) := by decide +kernel
theorem dL_areCertificates_226 : decode cL_areCertificates 226 = .ok (.iaload, 1) := by decide +kernel
theorem dL_areCertificates_227 : decode cL_areCertificates 227 = .ok (.ifCond .eq 22, 3) := by decide +kernel
theorem dL_areCertificates_230 : decode cL_areCertificates 230 = .ok (.aload_n 0, 1) := by decide +kernel
theorem dL_areCertificates_231 : decode cL_areCertificates 231 = .ok (.invokevirtual 161, 3) := by decide +kernel
theorem dL_areCertificates_234 : decode cL_areCertificates 234 = .ok (.aload_n 1, 1) := by decide +kernel
theorem dL_areCertificates_235 : decode cL_areCertificates 235 = .ok (.iconst 5, 1) := by decide +kernel
theorem dL_areCertificates_236 : decode cL_areCertificates 236 = .ok (.iaload, 1) := by decide +kernel
theorem dL_areCertificates_237 : decode cL_areCertificates 237 = .ok (.iload_n 3, 1) := by decide +kernel
theorem dL_areCertificates_238 : decode cL_areCertificates 238 = .ok (.isub, 1) := by decide +kernel
theorem dL_areCertificates_239 : decode cL_areCertificates 239 = .ok (.i2f, 1) := by decide +kernel
theorem dL_areCertificates_240 : decode cL_areCertificates 240 = .ok (.aload_n 1, 1) := by decide +kernel
theorem dL_areCertificates_241 : decode cL_areCertificates 241 = .ok (.iconst 5, 1) := by decide +kernel
theorem dL_areCertificates_242 : decode cL_areCertificates 242 = .ok (.iaload, 1) := by decide +kernel
theorem dL_areCertificates_243 : decode cL_areCertificates 243 = .ok (.i2f, 1) := by decide +kernel
theorem dL_areCertificates_244 : decode cL_areCertificates 244 = .ok (.fdiv, 1) := by decide +kernel
theorem dL_areCertificates_245 : decode cL_areCertificates 245 = .ok (.fcmp .l, 1) := by decide +kernel
theorem dL_areCertificates_246 : decode cL_areCertificates 246 = .ok (.ifCond .ne 7, 3) := by decide +kernel
theorem dL_areCertificates_249 : decode cL_areCertificates 249 = .ok (.iconst 1, 1) := by decide +kernel
theorem dL_areCertificates_250 : decode cL_areCertificates 250 = .ok (.goto 4, 3) := by decide +kernel
theorem dL_areCertificates_253 : decode cL_areCertificates 253 = .ok (.iconst 0, 1) := by decide +kernel
theorem dL_areCertificates_254 : decode cL_areCertificates 254 = .ok (.ireturn, 1) := by decide +kernel
theorem dL_isMend_0 : decode cL_isMend 0 = .ok (.aload_n 0, 1) := by decide +kernel
theorem dL_isMend_1 : decode cL_isMend 1 = .ok (.invokevirtual 148, 3) := by decide +kernel
theorem dL_isMend_4 : decode cL_isMend 4 = .ok (.istore 5, 2) := by decide +kernel
theorem dL_isMend_6 : decode cL_isMend 6 = .ok (.bipush 100, 2) := by decide +kernel
theorem dL_isMend_8 : decode cL_isMend 8 = .ok (.newarray .int, 2) := by decide +kernel
theorem dL_isMend_10 : decode cL_isMend 10 = .ok (.astore 6, 2) := by decide +kernel
theorem dL_isMend_12 : decode cL_isMend 12 = .ok (.iconst 0, 1) := by decide +kernel
theorem dL_isMend_13 : decode cL_isMend 13 = .ok (.istore 7, 2) := by decide +kernel
theorem dL_isMend_15 : decode cL_isMend 15 = .ok (.iload 7, 2) := by decide +kernel
theorem dL_isMend_17 : decode cL_isMend 17 = .ok (.iload 5, 2) := by decide +kernel
theorem dL_isMend_19 : decode cL_isMend 19 = .ok (.if_icmp .ge 22, 3) := by decide +kernel
theorem dL_isMend_22 : decode cL_isMend 22 = .ok (.aload 6, 2) := by decide +kernel
theorem dL_isMend_24 : decode cL_isMend 24 = .ok (.iload 7, 2) := by decide +kernel
theorem dL_isMend_26 : decode cL_isMend 26 = .ok (.aload_n 0, 1) := by decide +kernel
theorem dL_isMend_27 : decode cL_isMend 27 = .ok (.iconst 3, 1) := by decide +kernel
theorem dL_isMend_28 : decode cL_isMend 28 = .ok (.iload 7, 2) := by decide +kernel
theorem dL_isMend_30 : decode cL_isMend 30 = .ok (.iconst 0, 1) := by decide +kernel
theorem dL_isMend_31 : decode cL_isMend 31 = .ok (.invokestatic 136, 3) := by decide +kernel
theorem dL_isMend_34 : decode cL_isMend 34 = .ok (.iastore, 1) := by decide +kernel
theorem dL_isMend_35 : decode cL_isMend 35 = .ok (.iinc 7 1, 3) := by decide +kernel
theorem dL_isMend_38 : decode cL_isMend 38 = .ok (.goto (-23), 3) := by decide +kernel
theorem dL_isMend_41 : decode cL_isMend 41 = .ok (.aload_n 0, 1) := by decide +kernel
theorem dL_isMend_42 : decode cL_isMend 42 = .ok (.iconst 0, 1) := by decide +kernel
theorem dL_isMend_43 : decode cL_isMend 43 = .ok (.aload_n 1, 1) := by decide +kernel
theorem dL_isMend_44 : decode cL_isMend 44 = .ok (.bipush 10, 2) := by decide +kernel
theorem dL_isMend_46 : decode cL_isMend 46 = .ok (.iload_n 2, 1) := by decide +kernel
theorem dL_isMend_47 : decode cL_isMend 47 = .ok (.iadd, 1) := by decide +kernel
theorem dL_isMend_48 : decode cL_isMend 48 = .ok (.iaload, 1) := by decide +kernel
theorem dL_isMend_49 : decode cL_isMend 49 = .ok (.iconst 0, 1) := by decide +kernel
theorem dL_isMend_50 : decode cL_isMend 50 = .ok (.invokestatic 136, 3) := by decide +kernel
theorem dL_isMend_53 : decode cL_isMend 53 = .ok (.istore 7, 2) := by decide +kernel
theorem dL_isMend_55 : decode cL_isMend 55 = .ok (.aload_n 0, 1) := by decide +kernel
theorem dL_isMend_56 : decode cL_isMend 56 = .ok (.bipush 9, 2) := by decide +kernel
theorem dL_isMend_58 : decode cL_isMend 58 = .ok (.iload_n 2, 1) := by decide +kernel
theorem dL_isMend_59 : decode cL_isMend 59 = .ok (.iload_n 3, 1) := by decide +kernel
theorem dL_isMend_60 : decode cL_isMend 60 = .ok (.iload 4, 2) := by decide +kernel
theorem dL_isMend_62 : decode cL_isMend 62 = .ok (.iconst 0, 1) := by decide +kernel
theorem dL_isMend_63 : decode cL_isMend 63 = .ok (.invokestatic 165, 3) := by decide +kernel
theorem dL_isMend_66 : decode cL_isMend 66 = .ok (.istore 8, 2) := by decide +kernel
theorem dL_isMend_68 : decode cL_isMend 68 = .ok (.iload 8, 2) := by decide +kernel
theorem dL_isMend_70 : decode cL_isMend 70 = .ok (.sipush (-2003), 3) := by decide +kernel
theorem dL_isMend_73 : decode cL_isMend 73 = .ok (.if_icmp .ne 5, 3) := by decide +kernel
theorem dL_isMend_76 : decode cL_isMend 76 = .ok (.iconst 1, 1) := by decide +kernel
theorem dL_isMend_77 : decode cL_isMend 77 = .ok (.ireturn, 1) := by decide +kernel
theorem dL_isMend_78 : decode cL_isMend 78 = .ok (.ldc 168, 2) := by decide +kernel
theorem dL_isMend_80 : decode cL_isMend 80 = .ok (.istore 9, 2) := by decide +kernel
theorem dL_isMend_82 : decode cL_isMend 82 = .ok (.iconst (-1), 1) := by decide +kernel
theorem dL_isMend_83 : decode cL_isMend 83 = .ok (.istore 10, 2) := by decide +kernel
theorem dL_isMend_85 : decode cL_isMend 85 = .ok (.iconst 0, 1) := by decide +kernel
theorem dL_isMend_86 : decode cL_isMend 86 = .ok (.istore 11, 2) := by decide +kernel
theorem dL_isMend_88 : decode cL_isMend 88 = .ok (.iload 8, 2) := by decide +kernel
theorem dL_isMend_90 : decode cL_isMend 90 = .ok (.ifCond .lt 69, 3) := by decide +kernel
theorem dL_isMend_93 : decode cL_isMend 93 = .ok (.iload 8, 2) := by decide +kernel
theorem dL_isMend_95 : decode cL_isMend 95 = .ok (.aload_n 0, 1) := by decide +kernel
