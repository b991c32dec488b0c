/-! ===== the law's instructions ===== -/
theorem dL_law_1136 : decode cL_law 1136 = .ok (.istore 15, 2) := by decide +kernel
theorem dL_law_1138 : decode cL_law 1138 = .ok (.iload 15, 2) := by decide +kernel
theorem dL_law_1140 : decode cL_law 1140 = .ok (.ifCond .lt 38, 3) := by decide +kernel
theorem dL_law_1143 : decode cL_law 1143 = .ok (.aload_n 2, 1) := by decide +kernel
theorem dL_law_1144 : decode cL_law 1144 = .ok (.aload 6, 2) := by decide +kernel
theorem dL_law_1146 : decode cL_law 1146 = .ok (.iload 15, 2) := by decide +kernel
theorem dL_law_1148 : decode cL_law 1148 = .ok (.iconst 0, 1) := by decide +kernel
theorem dL_law_1149 : decode cL_law 1149 = .ok (.invokestatic 31, 3) := by decide +kernel
theorem dL_law_1152 : decode cL_law 1152 = .ok (.aload_n 2, 1) := by decide +kernel
theorem dL_law_1153 : decode cL_law 1153 = .ok (.bipush 13, 2) := by decide +kernel
theorem dL_law_1155 : decode cL_law 1155 = .ok (.bipush 6, 2) := by decide +kernel
theorem dL_law_1157 : decode cL_law 1157 = .ok (.iload 13, 2) := by decide +kernel
theorem dL_law_1159 : decode cL_law 1159 = .ok (.imul, 1) := by decide +kernel
theorem dL_law_1160 : decode cL_law 1160 = .ok (.iadd, 1) := by decide +kernel
theorem dL_law_1161 : decode cL_law 1161 = .ok (.iload 15, 2) := by decide +kernel
theorem dL_law_1163 : decode cL_law 1163 = .ok (.iadd, 1) := by decide +kernel
theorem dL_law_1164 : decode cL_law 1164 = .ok (.iaload, 1) := by decide +kernel
theorem dL_law_1165 : decode cL_law 1165 = .ok (.if_icmp .eq 7, 3) := by decide +kernel
theorem dL_law_1168 : decode cL_law 1168 = .ok (.iload 15, 2) := by decide +kernel
theorem dL_law_1170 : decode cL_law 1170 = .ok (.istore 14, 2) := by decide +kernel
theorem dL_law_1172 : decode cL_law 1172 = .ok (.iinc 15 (-1), 3) := by decide +kernel
theorem dL_law_1175 : decode cL_law 1175 = .ok (.goto (-37), 3) := by decide +kernel
theorem dL_law_1178 : decode cL_law 1178 = .ok (.aload_n 1, 1) := by decide +kernel
theorem dL_law_1179 : decode cL_law 1179 = .ok (.iload 13, 2) := by decide +kernel
theorem dL_law_1181 : decode cL_law 1181 = .ok (.iconst 1, 1) := by decide +kernel
theorem dL_law_1182 : decode cL_law 1182 = .ok (.iconst 1, 1) := by decide +kernel
theorem dL_law_1183 : decode cL_law 1183 = .ok (.iconst 3, 1) := by decide +kernel
theorem dL_law_1184 : decode cL_law 1184 = .ok (.invokevirtual 69, 3) := by decide +kernel
theorem dL_law_1187 : decode cL_law 1187 = .ok (.iload 14, 2) := by decide +kernel
theorem dL_law_1189 : decode cL_law 1189 = .ok (.if_icmp .eq 5, 3) := by decide +kernel
theorem dL_law_1192 : decode cL_law 1192 = .ok (.iconst 0, 1) := by decide +kernel
theorem dL_law_1193 : decode cL_law 1193 = .ok (.ireturn, 1) := by decide +kernel
theorem dL_law_1194 : decode cL_law 1194 = .ok (.iinc 13 1, 3) := by decide +kernel
theorem dL_law_1197 : decode cL_law 1197 = .ok (.goto (-97), 3) := by decide +kernel
theorem dL_law_1200 : decode cL_law 1200 = .ok (.iinc 8 1, 3) := by decide +kernel
theorem dL_law_1203 : decode cL_law 1203 = .ok (.goto (-429), 3) := by decide +kernel
theorem dL_law_1206 : decode cL_law 1206 = .ok (.iconst 0, 1) := by decide +kernel
theorem dL_law_1207 : decode cL_law 1207 = .ok (.istore 8, 2) := by decide +kernel
theorem dL_law_1209 : decode cL_law 1209 = .ok (.iload 8, 2) := by decide +kernel
theorem dL_law_1211 : decode cL_law 1211 = .ok (.aload_n 2, 1) := by decide +kernel
theorem dL_law_1212 : decode cL_law 1212 = .ok (.iconst 1, 1) := by decide +kernel
theorem dL_law_1213 : decode cL_law 1213 = .ok (.iaload, 1) := by decide +kernel
theorem dL_law_1214 : decode cL_law 1214 = .ok (.if_icmp .ge 139, 3) := by decide +kernel
theorem dL_law_1217 : decode cL_law 1217 = .ok (.iconst 0, 1) := by decide +kernel
theorem dL_law_1218 : decode cL_law 1218 = .ok (.istore 9, 2) := by decide +kernel
theorem dL_law_1220 : decode cL_law 1220 = .ok (.iload 9, 2) := by decide +kernel
theorem dL_law_1222 : decode cL_law 1222 = .ok (.aload_n 2, 1) := by decide +kernel
theorem dL_law_1223 : decode cL_law 1223 = .ok (.bipush 9, 2) := by decide +kernel
theorem dL_law_1225 : decode cL_law 1225 = .ok (.iload 8, 2) := by decide +kernel
theorem dL_law_1227 : decode cL_law 1227 = .ok (.iadd, 1) := by decide +kernel
theorem dL_law_1228 : decode cL_law 1228 = .ok (.iaload, 1) := by decide +kernel
theorem dL_law_1229 : decode cL_law 1229 = .ok (.if_icmp .ge 118, 3) := by decide +kernel
theorem dL_law_1232 : decode cL_law 1232 = .ok (.lconst 0, 1) := by decide +kernel
theorem dL_law_1233 : decode cL_law 1233 = .ok (.lstore 10, 2) := by decide +kernel
theorem dL_law_1235 : decode cL_law 1235 = .ok (.iconst 0, 1) := by decide +kernel
theorem dL_law_1236 : decode cL_law 1236 = .ok (.istore 12, 2) := by decide +kernel
theorem dL_law_1238 : decode cL_law 1238 = .ok (.iload 12, 2) := by decide +kernel
theorem dL_law_1240 : decode cL_law 1240 = .ok (.iload 5, 2) := by decide +kernel
theorem dL_law_1242 : decode cL_law 1242 = .ok (.if_icmp .ge 83, 3) := by decide +kernel
theorem dL_law_1245 : decode cL_law 1245 = .ok (.iload 12, 2) := by decide +kernel
theorem dL_law_1247 : decode cL_law 1247 = .ok (.istore 13, 2) := by decide +kernel
theorem dL_law_1249 : decode cL_law 1249 = .ok (.iload 4, 2) := by decide +kernel
theorem dL_law_1251 : decode cL_law 1251 = .ok (.iconst 1, 1) := by decide +kernel
theorem dL_law_1252 : decode cL_law 1252 = .ok (.isub, 1) := by decide +kernel
theorem dL_law_1253 : decode cL_law 1253 = .ok (.istore 14, 2) := by decide +kernel
theorem dL_law_1255 : decode cL_law 1255 = .ok (.iload 14, 2) := by decide +kernel
theorem dL_law_1257 : decode cL_law 1257 = .ok (.ifCond .lt 28, 3) := by decide +kernel
theorem dL_law_1260 : decode cL_law 1260 = .ok (.aload 6, 2) := by decide +kernel
theorem dL_law_1262 : decode cL_law 1262 = .ok (.iload 14, 2) := by decide +kernel
theorem dL_law_1264 : decode cL_law 1264 = .ok (.iload 13, 2) := by decide +kernel
theorem dL_law_1266 : decode cL_law 1266 = .ok (.aload_n 2, 1) := by decide +kernel
theorem dL_law_1267 : decode cL_law 1267 = .ok (.iconst 0, 1) := by decide +kernel
theorem dL_law_1268 : decode cL_law 1268 = .ok (.iaload, 1) := by decide +kernel
theorem dL_law_1269 : decode cL_law 1269 = .ok (.irem, 1) := by decide +kernel
theorem dL_law_1270 : decode cL_law 1270 = .ok (.iastore, 1) := by decide +kernel
theorem dL_law_1271 : decode cL_law 1271 = .ok (.iload 13, 2) := by decide +kernel
theorem dL_law_1273 : decode cL_law 1273 = .ok (.aload_n 2, 1) := by decide +kernel
theorem dL_law_1274 : decode cL_law 1274 = .ok (.iconst 0, 1) := by decide +kernel
theorem dL_law_1275 : decode cL_law 1275 = .ok (.iaload, 1) := by decide +kernel
theorem dL_law_1276 : decode cL_law 1276 = .ok (.idiv, 1) := by decide +kernel
theorem dL_law_1277 : decode cL_law 1277 = .ok (.istore 13, 2) := by decide +kernel
theorem dL_law_1279 : decode cL_law 1279 = .ok (.iinc 14 (-1), 3) := by decide +kernel
theorem dL_law_1282 : decode cL_law 1282 = .ok (.goto (-27), 3) := by decide +kernel
theorem dL_law_1285 : decode cL_law 1285 = .ok (.lload 10, 2) := by decide +kernel
theorem dL_law_1287 : decode cL_law 1287 = .ok (.aload_n 2, 1) := by decide +kernel
theorem dL_law_1288 : decode cL_law 1288 = .ok (.aload 6, 2) := by decide +kernel
theorem dL_law_1290 : decode cL_law 1290 = .ok (.iconst 0, 1) := by decide +kernel
theorem dL_law_1291 : decode cL_law 1291 = .ok (.iconst 0, 1) := by decide +kernel
theorem dL_law_1292 : decode cL_law 1292 = .ok (.invokestatic 31, 3) := by decide +kernel
theorem dL_law_1295 : decode cL_law 1295 = .ok (.aload_n 2, 1) := by decide +kernel
theorem dL_law_1296 : decode cL_law 1296 = .ok (.bipush 13, 2) := by decide +kernel
theorem dL_law_1298 : decode cL_law 1298 = .ok (.bipush 6, 2) := by decide +kernel
theorem dL_law_1300 : decode cL_law 1300 = .ok (.iload 8, 2) := by decide +kernel
theorem dL_law_1302 : decode cL_law 1302 = .ok (.imul, 1) := by decide +kernel
theorem dL_law_1303 : decode cL_law 1303 = .ok (.iadd, 1) := by decide +kernel
theorem dL_law_1304 : decode cL_law 1304 = .ok (.iload 9, 2) := by decide +kernel
theorem dL_law_1306 : decode cL_law 1306 = .ok (.iadd, 1) := by decide +kernel
theorem dL_law_1307 : decode cL_law 1307 = .ok (.iaload, 1) := by decide +kernel
theorem dL_law_1308 : decode cL_law 1308 = .ok (.if_icmp .ne 7, 3) := by decide +kernel
theorem dL_law_1311 : decode cL_law 1311 = .ok (.lconst 1, 1) := by decide +kernel
theorem dL_law_1312 : decode cL_law 1312 = .ok (.goto 4, 3) := by decide +kernel
theorem dL_law_1315 : decode cL_law 1315 = .ok (.lconst 0, 1) := by decide +kernel
theorem dL_law_1316 : decode cL_law 1316 = .ok (.ladd, 1) := by decide +kernel
theorem dL_law_1317 : decode cL_law 1317 = .ok (.lstore 10, 2) := by decide +kernel
theorem dL_law_1319 : decode cL_law 1319 = .ok (.iinc 12 1, 3) := by decide +kernel
theorem dL_law_1322 : decode cL_law 1322 = .ok (.goto (-84), 3) := by decide +kernel
theorem dL_law_1325 : decode cL_law 1325 = .ok (.aload_n 1, 1) := by decide +kernel
theorem dL_law_1326 : decode cL_law 1326 = .ok (.iload 8, 2) := by decide +kernel
theorem dL_law_1328 : decode cL_law 1328 = .ok (.iload 9, 2) := by decide +kernel
theorem dL_law_1330 : decode cL_law 1330 = .ok (.invokevirtual 72, 3) := by decide +kernel
theorem dL_law_1333 : decode cL_law 1333 = .ok (.lload 10, 2) := by decide +kernel
theorem dL_law_1335 : decode cL_law 1335 = .ok (.lcmp, 1) := by decide +kernel
theorem dL_law_1336 : decode cL_law 1336 = .ok (.ifCond .eq 5, 3) := by decide +kernel
theorem dL_law_1339 : decode cL_law 1339 = .ok (.iconst 0, 1) := by decide +kernel
theorem dL_law_1340 : decode cL_law 1340 = .ok (.ireturn, 1) := by decide +kernel
theorem dL_law_1341 : decode cL_law 1341 = .ok (.iinc 9 1, 3) := by decide +kernel
theorem dL_law_1344 : decode cL_law 1344 = .ok (.goto (-124), 3) := by decide +kernel
theorem dL_law_1347 : decode cL_law 1347 = .ok (.iinc 8 1, 3) := by decide +kernel
theorem dL_law_1350 : decode cL_law 1350 = .ok (.goto (-141), 3) := by decide +kernel
theorem dL_law_1353 : decode cL_law 1353 = .ok (.aload_n 1, 1) := by decide +kernel
theorem dL_law_1354 : decode cL_law 1354 = .ok (.aload_n 2, 1) := by decide +kernel
theorem dL_law_1355 : decode cL_law 1355 = .ok (.iconst 1, 1) := by decide +kernel
theorem dL_law_1356 : decode cL_law 1356 = .ok (.iaload, 1) := by decide +kernel
theorem dL_law_1357 : decode cL_law 1357 = .ok (.invokevirtual 57, 3) := by decide +kernel
theorem dL_law_1360 : decode cL_law 1360 = .ok (.iconst (-1), 1) := by decide +kernel
theorem dL_law_1361 : decode cL_law 1361 = .ok (.if_icmp .ne 288, 3) := by decide +kernel
theorem dL_law_1364 : decode cL_law 1364 = .ok (.aload_n 1, 1) := by decide +kernel
theorem dL_law_1365 : decode cL_law 1365 = .ok (.iconst (-1), 1) := by decide +kernel
