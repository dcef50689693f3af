theorem dL_law_1157 : decode cL_law 1157 = .ok (.invokestatic 176, 3) := by decide +kernel
theorem dL_law_1160 : decode cL_law 1160 = .ok (.iconst 2, 1) := by decide +kernel
theorem dL_law_1161 : decode cL_law 1161 = .ok (.isub, 1) := by decide +kernel
theorem dL_law_1162 : decode cL_law 1162 = .ok (.aload_n 0, 1) := by decide +kernel
theorem dL_law_1163 : decode cL_law 1163 = .ok (.iload 6, 2) := by decide +kernel
theorem dL_law_1165 : decode cL_law 1165 = .ok (.iconst 4, 1) := by decide +kernel
theorem dL_law_1166 : decode cL_law 1166 = .ok (.iadd, 1) := by decide +kernel
theorem dL_law_1167 : decode cL_law 1167 = .ok (.bipush 9, 2) := by decide +kernel
theorem dL_law_1169 : decode cL_law 1169 = .ok (.invokestatic 176, 3) := by decide +kernel
theorem dL_law_1172 : decode cL_law 1172 = .ok (.invokestatic 165, 3) := by decide +kernel
theorem dL_law_1175 : decode cL_law 1175 = .ok (.istore 12, 2) := by decide +kernel
theorem dL_law_1177 : decode cL_law 1177 = .ok (.iload 12, 2) := by decide +kernel
theorem dL_law_1179 : decode cL_law 1179 = .ok (.iload 11, 2) := by decide +kernel
theorem dL_law_1181 : decode cL_law 1181 = .ok (.bipush 45, 2) := by decide +kernel
theorem dL_law_1183 : decode cL_law 1183 = .ok (.if_icmp .eq 9, 3) := by decide +kernel
theorem dL_law_1186 : decode cL_law 1186 = .ok (.sipush (-2004), 3) := by decide +kernel
theorem dL_law_1189 : decode cL_law 1189 = .ok (.goto 18, 3) := by decide +kernel
theorem dL_law_1192 : decode cL_law 1192 = .ok (.iload 9, 2) := by decide +kernel
theorem dL_law_1194 : decode cL_law 1194 = .ok (.bipush 100, 2) := by decide +kernel
theorem dL_law_1196 : decode cL_law 1196 = .ok (.if_icmp .ne 9, 3) := by decide +kernel
theorem dL_law_1199 : decode cL_law 1199 = .ok (.sipush (-2003), 3) := by decide +kernel
theorem dL_law_1202 : decode cL_law 1202 = .ok (.goto 5, 3) := by decide +kernel
theorem dL_law_1205 : decode cL_law 1205 = .ok (.iload 9, 2) := by decide +kernel
theorem dL_law_1207 : decode cL_law 1207 = .ok (.if_icmp .ne 55, 3) := by decide +kernel
theorem dL_law_1210 : decode cL_law 1210 = .ok (.iload 12, 2) := by decide +kernel
theorem dL_law_1212 : decode cL_law 1212 = .ok (.ifCond .lt 46, 3) := by decide +kernel
theorem dL_law_1215 : decode cL_law 1215 = .ok (.aload_n 1, 1) := by decide +kernel
theorem dL_law_1216 : decode cL_law 1216 = .ok (.bipush 6, 2) := by decide +kernel
theorem dL_law_1218 : decode cL_law 1218 = .ok (.iload 9, 2) := by decide +kernel
theorem dL_law_1220 : decode cL_law 1220 = .ok (.iconst 0, 1) := by decide +kernel
theorem dL_law_1221 : decode cL_law 1221 = .ok (.invokestatic 136, 3) := by decide +kernel
theorem dL_law_1224 : decode cL_law 1224 = .ok (.iload 10, 2) := by decide +kernel
theorem dL_law_1226 : decode cL_law 1226 = .ok (.if_icmp .ne 36, 3) := by decide +kernel
theorem dL_law_1229 : decode cL_law 1229 = .ok (.aload_n 1, 1) := by decide +kernel
theorem dL_law_1230 : decode cL_law 1230 = .ok (.bipush 7, 2) := by decide +kernel
theorem dL_law_1232 : decode cL_law 1232 = .ok (.iload 9, 2) := by decide +kernel
theorem dL_law_1234 : decode cL_law 1234 = .ok (.iconst 0, 1) := by decide +kernel
theorem dL_law_1235 : decode cL_law 1235 = .ok (.invokestatic 136, 3) := by decide +kernel
theorem dL_law_1238 : decode cL_law 1238 = .ok (.aload_n 1, 1) := by decide +kernel
theorem dL_law_1239 : decode cL_law 1239 = .ok (.invokevirtual 151, 3) := by decide +kernel
theorem dL_law_1242 : decode cL_law 1242 = .ok (.if_icmp .ne 20, 3) := by decide +kernel
theorem dL_law_1245 : decode cL_law 1245 = .ok (.aload_n 1, 1) := by decide +kernel
theorem dL_law_1246 : decode cL_law 1246 = .ok (.bipush 8, 2) := by decide +kernel
theorem dL_law_1248 : decode cL_law 1248 = .ok (.iload 10, 2) := by decide +kernel
theorem dL_law_1250 : decode cL_law 1250 = .ok (.iload 8, 2) := by decide +kernel
theorem dL_law_1252 : decode cL_law 1252 = .ok (.invokestatic 136, 3) := by decide +kernel
theorem dL_law_1255 : decode cL_law 1255 = .ok (.ifCond .lt 7, 3) := by decide +kernel
theorem dL_law_1258 : decode cL_law 1258 = .ok (.iconst 1, 1) := by decide +kernel
theorem dL_law_1259 : decode cL_law 1259 = .ok (.goto 4, 3) := by decide +kernel
theorem dL_law_1262 : decode cL_law 1262 = .ok (.iconst 0, 1) := by decide +kernel
theorem dL_law_1263 : decode cL_law 1263 = .ok (.istore 4, 2) := by decide +kernel
theorem dL_law_1265 : decode cL_law 1265 = .ok (.iload 4, 2) := by decide +kernel
theorem dL_law_1267 : decode cL_law 1267 = .ok (.ifCond .eq 42, 3) := by decide +kernel
theorem dL_law_1270 : decode cL_law 1270 = .ok (.iload 5, 2) := by decide +kernel
theorem dL_law_1272 : decode cL_law 1272 = .ok (.bipush 9, 2) := by decide +kernel
theorem dL_law_1274 : decode cL_law 1274 = .ok (.irem, 1) := by decide +kernel
theorem dL_law_1275 : decode cL_law 1275 = .ok (.bipush 8, 2) := by decide +kernel
theorem dL_law_1277 : decode cL_law 1277 = .ok (.if_icmp .ne 28, 3) := by decide +kernel
theorem dL_law_1280 : decode cL_law 1280 = .ok (.aload_n 1, 1) := by decide +kernel
theorem dL_law_1281 : decode cL_law 1281 = .ok (.aload_n 2, 1) := by decide +kernel
