theorem d_LW_law_1145 : decode (mB M_LW_law) 1145 = .ok (.iconst 1, 1) := by decide +kernel
theorem d_LW_law_1146 : decode (mB M_LW_law) 1146 = .ok (.iadd, 1) := by decide +kernel
theorem d_LW_law_1147 : decode (mB M_LW_law) 1147 = .ok (.iaload, 1) := by decide +kernel
theorem d_LW_law_1148 : decode (mB M_LW_law) 1148 = .ok (.aload_n 0, 1) := by decide +kernel
theorem d_LW_law_1149 : decode (mB M_LW_law) 1149 = .ok (.iload 4, 2) := by decide +kernel
theorem d_LW_law_1151 : decode (mB M_LW_law) 1151 = .ok (.iconst 2, 1) := by decide +kernel
theorem d_LW_law_1152 : decode (mB M_LW_law) 1152 = .ok (.iadd, 1) := by decide +kernel
theorem d_LW_law_1153 : decode (mB M_LW_law) 1153 = .ok (.iaload, 1) := by decide +kernel
theorem d_LW_law_1154 : decode (mB M_LW_law) 1154 = .ok (.aload_n 0, 1) := by decide +kernel
theorem d_LW_law_1155 : decode (mB M_LW_law) 1155 = .ok (.iload 4, 2) := by decide +kernel
theorem d_LW_law_1157 : decode (mB M_LW_law) 1157 = .ok (.iconst 3, 1) := by decide +kernel
theorem d_LW_law_1158 : decode (mB M_LW_law) 1158 = .ok (.iadd, 1) := by decide +kernel
theorem d_LW_law_1159 : decode (mB M_LW_law) 1159 = .ok (.iaload, 1) := by decide +kernel
theorem d_LW_law_1160 : decode (mB M_LW_law) 1160 = .ok (.invokevirtual 174, 3) := by decide +kernel
theorem d_LW_law_1163 : decode (mB M_LW_law) 1163 = .ok (.istore 6, 2) := by decide +kernel
theorem d_LW_law_1165 : decode (mB M_LW_law) 1165 = .ok (.aload_n 2, 1) := by decide +kernel
theorem d_LW_law_1166 : decode (mB M_LW_law) 1166 = .ok (.invokevirtual 124, 3) := by decide +kernel
theorem d_LW_law_1169 : decode (mB M_LW_law) 1169 = .ok (.iload 5, 2) := by decide +kernel
theorem d_LW_law_1171 : decode (mB M_LW_law) 1171 = .ok (.if_icmp .eq 5, 3) := by decide +kernel
theorem d_LW_law_1174 : decode (mB M_LW_law) 1174 = .ok (.iconst 0, 1) := by decide +kernel
theorem d_LW_law_1175 : decode (mB M_LW_law) 1175 = .ok (.ireturn, 1) := by decide +kernel
theorem d_LW_law_1176 : decode (mB M_LW_law) 1176 = .ok (.iload 5, 2) := by decide +kernel
theorem d_LW_law_1178 : decode (mB M_LW_law) 1178 = .ok (.ifCond .ne 15, 3) := by decide +kernel
theorem d_LW_law_1181 : decode (mB M_LW_law) 1181 = .ok (.aload_n 3, 1) := by decide +kernel
theorem d_LW_law_1182 : decode (mB M_LW_law) 1182 = .ok (.iconst 0, 1) := by decide +kernel
theorem d_LW_law_1183 : decode (mB M_LW_law) 1183 = .ok (.laload, 1) := by decide +kernel
theorem d_LW_law_1184 : decode (mB M_LW_law) 1184 = .ok (.iload 6, 2) := by decide +kernel
theorem d_LW_law_1186 : decode (mB M_LW_law) 1186 = .ok (.i2l, 1) := by decide +kernel
theorem d_LW_law_1187 : decode (mB M_LW_law) 1187 = .ok (.lcmp, 1) := by decide +kernel
theorem d_LW_law_1188 : decode (mB M_LW_law) 1188 = .ok (.ifCond .eq 5, 3) := by decide +kernel
theorem d_LW_law_1191 : decode (mB M_LW_law) 1191 = .ok (.iconst 0, 1) := by decide +kernel
theorem d_LW_law_1192 : decode (mB M_LW_law) 1192 = .ok (.ireturn, 1) := by decide +kernel
theorem d_LW_law_1193 : decode (mB M_LW_law) 1193 = .ok (.goto 971, 3) := by decide +kernel
theorem d_LW_law_1196 : decode (mB M_LW_law) 1196 = .ok (.aload_n 1, 1) := by decide +kernel
theorem d_LW_law_1197 : decode (mB M_LW_law) 1197 = .ok (.aload_n 0, 1) := by decide +kernel
theorem d_LW_law_1198 : decode (mB M_LW_law) 1198 = .ok (.iload 4, 2) := by decide +kernel
theorem d_LW_law_1200 : decode (mB M_LW_law) 1200 = .ok (.iconst 1, 1) := by decide +kernel
theorem d_LW_law_1201 : decode (mB M_LW_law) 1201 = .ok (.iadd, 1) := by decide +kernel
theorem d_LW_law_1202 : decode (mB M_LW_law) 1202 = .ok (.iaload, 1) := by decide +kernel
theorem d_LW_law_1203 : decode (mB M_LW_law) 1203 = .ok (.aload_n 3, 1) := by decide +kernel
theorem d_LW_law_1204 : decode (mB M_LW_law) 1204 = .ok (.invokestatic 175, 3) := by decide +kernel
theorem d_LW_law_1207 : decode (mB M_LW_law) 1207 = .ok (.istore 5, 2) := by decide +kernel
theorem d_LW_law_1209 : decode (mB M_LW_law) 1209 = .ok (.aload_n 2, 1) := by decide +kernel
theorem d_LW_law_1210 : decode (mB M_LW_law) 1210 = .ok (.aload_n 0, 1) := by decide +kernel
theorem d_LW_law_1211 : decode (mB M_LW_law) 1211 = .ok (.iload 4, 2) := by decide +kernel
theorem d_LW_law_1213 : decode (mB M_LW_law) 1213 = .ok (.iconst 1, 1) := by decide +kernel
theorem d_LW_law_1214 : decode (mB M_LW_law) 1214 = .ok (.iadd, 1) := by decide +kernel
theorem d_LW_law_1215 : decode (mB M_LW_law) 1215 = .ok (.iaload, 1) := by decide +kernel
theorem d_LW_law_1216 : decode (mB M_LW_law) 1216 = .ok (.invokevirtual 177, 3) := by decide +kernel
theorem d_LW_law_1219 : decode (mB M_LW_law) 1219 = .ok (.istore 6, 2) := by decide +kernel
theorem d_LW_law_1221 : decode (mB M_LW_law) 1221 = .ok (.aload_n 2, 1) := by decide +kernel
theorem d_LW_law_1222 : decode (mB M_LW_law) 1222 = .ok (.invokevirtual 124, 3) := by decide +kernel
theorem d_LW_law_1225 : decode (mB M_LW_law) 1225 = .ok (.iload 5, 2) := by decide +kernel
theorem d_LW_law_1227 : decode (mB M_LW_law) 1227 = .ok (.if_icmp .eq 5, 3) := by decide +kernel
theorem d_LW_law_1230 : decode (mB M_LW_law) 1230 = .ok (.iconst 0, 1) := by decide +kernel
theorem d_LW_law_1231 : decode (mB M_LW_law) 1231 = .ok (.ireturn, 1) := by decide +kernel
theorem d_LW_law_1232 : decode (mB M_LW_law) 1232 = .ok (.iload 5, 2) := by decide +kernel
theorem d_LW_law_1234 : decode (mB M_LW_law) 1234 = .ok (.ifCond .ne 15, 3) := by decide +kernel
theorem d_LW_law_1237 : decode (mB M_LW_law) 1237 = .ok (.aload_n 3, 1) := by decide +kernel
theorem d_LW_law_1238 : decode (mB M_LW_law) 1238 = .ok (.iconst 0, 1) := by decide +kernel
theorem d_LW_law_1239 : decode (mB M_LW_law) 1239 = .ok (.laload, 1) := by decide +kernel
theorem d_LW_law_1240 : decode (mB M_LW_law) 1240 = .ok (.iload 6, 2) := by decide +kernel
theorem d_LW_law_1242 : decode (mB M_LW_law) 1242 = .ok (.i2l, 1) := by decide +kernel
theorem d_LW_law_1243 : decode (mB M_LW_law) 1243 = .ok (.lcmp, 1) := by decide +kernel
theorem d_LW_law_1244 : decode (mB M_LW_law) 1244 = .ok (.ifCond .eq 5, 3) := by decide +kernel
theorem d_LW_law_1247 : decode (mB M_LW_law) 1247 = .ok (.iconst 0, 1) := by decide +kernel
theorem d_LW_law_1248 : decode (mB M_LW_law) 1248 = .ok (.ireturn, 1) := by decide +kernel
theorem d_LW_law_1249 : decode (mB M_LW_law) 1249 = .ok (.goto 915, 3) := by decide +kernel
theorem d_LW_law_1252 : decode (mB M_LW_law) 1252 = .ok (.aload_n 1, 1) := by decide +kernel
theorem d_LW_law_1253 : decode (mB M_LW_law) 1253 = .ok (.aload_n 0, 1) := by decide +kernel
theorem d_LW_law_1254 : decode (mB M_LW_law) 1254 = .ok (.iload 4, 2) := by decide +kernel
theorem d_LW_law_1256 : decode (mB M_LW_law) 1256 = .ok (.iconst 1, 1) := by decide +kernel
theorem d_LW_law_1257 : decode (mB M_LW_law) 1257 = .ok (.iadd, 1) := by decide +kernel
theorem d_LW_law_1258 : decode (mB M_LW_law) 1258 = .ok (.iaload, 1) := by decide +kernel
theorem d_LW_law_1259 : decode (mB M_LW_law) 1259 = .ok (.aload_n 3, 1) := by decide +kernel
theorem d_LW_law_1260 : decode (mB M_LW_law) 1260 = .ok (.invokestatic 178, 3) := by decide +kernel
theorem d_LW_law_1263 : decode (mB M_LW_law) 1263 = .ok (.istore 5, 2) := by decide +kernel
theorem d_LW_law_1265 : decode (mB M_LW_law) 1265 = .ok (.aload_n 2, 1) := by decide +kernel
theorem d_LW_law_1266 : decode (mB M_LW_law) 1266 = .ok (.aload_n 0, 1) := by decide +kernel
theorem d_LW_law_1267 : decode (mB M_LW_law) 1267 = .ok (.iload 4, 2) := by decide +kernel
theorem d_LW_law_1269 : decode (mB M_LW_law) 1269 = .ok (.iconst 1, 1) := by decide +kernel
theorem d_LW_law_1270 : decode (mB M_LW_law) 1270 = .ok (.iadd, 1) := by decide +kernel
theorem d_LW_law_1271 : decode (mB M_LW_law) 1271 = .ok (.iaload, 1) := by decide +kernel
theorem d_LW_law_1272 : decode (mB M_LW_law) 1272 = .ok (.invokevirtual 180, 3) := by decide +kernel
theorem d_LW_law_1275 : decode (mB M_LW_law) 1275 = .ok (.istore 6, 2) := by decide +kernel
theorem d_LW_law_1277 : decode (mB M_LW_law) 1277 = .ok (.aload_n 2, 1) := by decide +kernel
theorem d_LW_law_1278 : decode (mB M_LW_law) 1278 = .ok (.invokevirtual 124, 3) := by decide +kernel
theorem d_LW_law_1281 : decode (mB M_LW_law) 1281 = .ok (.iload 5, 2) := by decide +kernel
theorem d_LW_law_1283 : decode (mB M_LW_law) 1283 = .ok (.if_icmp .eq 5, 3) := by decide +kernel
theorem d_LW_law_1286 : decode (mB M_LW_law) 1286 = .ok (.iconst 0, 1) := by decide +kernel
theorem d_LW_law_1287 : decode (mB M_LW_law) 1287 = .ok (.ireturn, 1) := by decide +kernel
theorem d_LW_law_1288 : decode (mB M_LW_law) 1288 = .ok (.iload 5, 2) := by decide +kernel
theorem d_LW_law_1290 : decode (mB M_LW_law) 1290 = .ok (.ifCond .ne 15, 3) := by decide +kernel
theorem d_LW_law_1293 : decode (mB M_LW_law) 1293 = .ok (.aload_n 3, 1) := by decide +kernel
theorem d_LW_law_1294 : decode (mB M_LW_law) 1294 = .ok (.iconst 0, 1) := by decide +kernel
theorem d_LW_law_1295 : decode (mB M_LW_law) 1295 = .ok (.laload, 1) := by decide +kernel
theorem d_LW_law_1296 : decode (mB M_LW_law) 1296 = .ok (.iload 6, 2) := by decide +kernel
theorem d_LW_law_1298 : decode (mB M_LW_law) 1298 = .ok (.i2l, 1) := by decide +kernel
theorem d_LW_law_1299 : decode (mB M_LW_law) 1299 = .ok (.lcmp, 1) := by decide +kernel
theorem d_LW_law_1300 : decode (mB M_LW_law) 1300 = .ok (.ifCond .eq 5, 3) := by decide +kernel
theorem d_LW_law_1303 : decode (mB M_LW_law) 1303 = .ok (.iconst 0, 1) := by decide +kernel
theorem d_LW_law_1304 : decode (mB M_LW_law) 1304 = .ok (.ireturn, 1) := by decide +kernel
theorem d_LW_law_1305 : decode (mB M_LW_law) 1305 = .ok (.goto 859, 3) := by decide +kernel
theorem d_LW_law_1308 : decode (mB M_LW_law) 1308 = .ok (.aload_n 1, 1) := by decide +kernel
theorem d_LW_law_1309 : decode (mB M_LW_law) 1309 = .ok (.aload_n 0, 1) := by decide +kernel
theorem d_LW_law_1310 : decode (mB M_LW_law) 1310 = .ok (.iload 4, 2) := by decide +kernel
theorem d_LW_law_1312 : decode (mB M_LW_law) 1312 = .ok (.iconst 1, 1) := by decide +kernel
theorem d_LW_law_1313 : decode (mB M_LW_law) 1313 = .ok (.iadd, 1) := by decide +kernel
theorem d_LW_law_1314 : decode (mB M_LW_law) 1314 = .ok (.iaload, 1) := by decide +kernel
theorem d_LW_law_1315 : decode (mB M_LW_law) 1315 = .ok (.aload_n 0, 1) := by decide +kernel
theorem d_LW_law_1316 : decode (mB M_LW_law) 1316 = .ok (.iload 4, 2) := by decide +kernel
theorem d_LW_law_1318 : decode (mB M_LW_law) 1318 = .ok (.iconst 2, 1) := by decide +kernel
theorem d_LW_law_1319 : decode (mB M_LW_law) 1319 = .ok (.iadd, 1) := by decide +kernel
theorem d_LW_law_1320 : decode (mB M_LW_law) 1320 = .ok (.iaload, 1) := by decide +kernel
theorem d_LW_law_1321 : decode (mB M_LW_law) 1321 = .ok (.aload_n 3, 1) := by decide +kernel
theorem d_LW_law_1322 : decode (mB M_LW_law) 1322 = .ok (.invokestatic 181, 3) := by decide +kernel
theorem d_LW_law_1325 : decode (mB M_LW_law) 1325 = .ok (.istore 5, 2) := by decide +kernel
theorem d_LW_law_1327 : decode (mB M_LW_law) 1327 = .ok (.aload_n 2, 1) := by decide +kernel
theorem d_LW_law_1328 : decode (mB M_LW_law) 1328 = .ok (.aload_n 0, 1) := by decide +kernel
theorem d_LW_law_1329 : decode (mB M_LW_law) 1329 = .ok (.iload 4, 2) := by decide +kernel
theorem d_LW_law_1331 : decode (mB M_LW_law) 1331 = .ok (.iconst 1, 1) := by decide +kernel
theorem d_LW_law_1332 : decode (mB M_LW_law) 1332 = .ok (.iadd, 1) := by decide +kernel
theorem d_LW_law_1333 : decode (mB M_LW_law) 1333 = .ok (.iaload, 1) := by decide +kernel
theorem d_LW_law_1334 : decode (mB M_LW_law) 1334 = .ok (.aload_n 0, 1) := by decide +kernel
theorem d_LW_law_1335 : decode (mB M_LW_law) 1335 = .ok (.iload 4, 2) := by decide +kernel
theorem d_LW_law_1337 : decode (mB M_LW_law) 1337 = .ok (.iconst 2, 1) := by decide +kernel
theorem d_LW_law_1338 : decode (mB M_LW_law) 1338 = .ok (.iadd, 1) := by decide +kernel
theorem d_LW_law_1339 : decode (mB M_LW_law) 1339 = .ok (.iaload, 1) := by decide +kernel
theorem d_LW_law_1340 : decode (mB M_LW_law) 1340 = .ok (.invokevirtual 183, 3) := by decide +kernel
theorem d_LW_law_1343 : decode (mB M_LW_law) 1343 = .ok (.istore 6, 2) := by decide +kernel
theorem d_LW_law_1345 : decode (mB M_LW_law) 1345 = .ok (.aload_n 2, 1) := by decide +kernel
theorem d_LW_law_1346 : decode (mB M_LW_law) 1346 = .ok (.invokevirtual 124, 3) := by decide +kernel
theorem d_LW_law_1349 : decode (mB M_LW_law) 1349 = .ok (.iload 5, 2) := by decide +kernel
theorem d_LW_law_1351 : decode (mB M_LW_law) 1351 = .ok (.if_icmp .eq 5, 3) := by decide +kernel
theorem d_LW_law_1354 : decode (mB M_LW_law) 1354 = .ok (.iconst 0, 1) := by decide +kernel
theorem d_LW_law_1355 : decode (mB M_LW_law) 1355 = .ok (.ireturn, 1) := by decide +kernel
theorem d_LW_law_1356 : decode (mB M_LW_law) 1356 = .ok (.iload 5, 2) := by decide +kernel
theorem d_LW_law_1358 : decode (mB M_LW_law) 1358 = .ok (.ifCond .ne 15, 3) := by decide +kernel
theorem d_LW_law_1361 : decode (mB M_LW_law) 1361 = .ok (.aload_n 3, 1) := by decide +kernel
theorem d_LW_law_1362 : decode (mB M_LW_law) 1362 = .ok (.iconst 0, 1) := by decide +kernel
theorem d_LW_law_1363 : decode (mB M_LW_law) 1363 = .ok (.laload, 1) := by decide +kernel
theorem d_LW_law_1364 : decode (mB M_LW_law) 1364 = .ok (.iload 6, 2) := by decide +kernel
theorem d_LW_law_1366 : decode (mB M_LW_law) 1366 = .ok (.i2l, 1) := by decide +kernel
theorem d_LW_law_1367 : decode (mB M_LW_law) 1367 = .ok (.lcmp, 1) := by decide +kernel
theorem d_LW_law_1368 : decode (mB M_LW_law) 1368 = .ok (.ifCond .eq 5, 3) := by decide +kernel
theorem d_LW_law_1371 : decode (mB M_LW_law) 1371 = .ok (.iconst 0, 1) := by decide +kernel
theorem d_LW_law_1372 : decode (mB M_LW_law) 1372 = .ok (.ireturn, 1) := by decide +kernel
theorem d_LW_law_1373 : decode (mB M_LW_law) 1373 = .ok (.goto 791, 3) := by decide +kernel
theorem d_LW_law_1376 : decode (mB M_LW_law) 1376 = .ok (.aload_n 1, 1) := by decide +kernel
theorem d_LW_law_1377 : decode (mB M_LW_law) 1377 = .ok (.aload_n 0, 1) := by decide +kernel
theorem d_LW_law_1378 : decode (mB M_LW_law) 1378 = .ok (.iload 4, 2) := by decide +kernel
theorem d_LW_law_1380 : decode (mB M_LW_law) 1380 = .ok (.iconst 1, 1) := by decide +kernel
theorem d_LW_law_1381 : decode (mB M_LW_law) 1381 = .ok (.iadd, 1) := by decide +kernel
theorem d_LW_law_1382 : decode (mB M_LW_law) 1382 = .ok (.iaload, 1) := by decide +kernel
theorem d_LW_law_1383 : decode (mB M_LW_law) 1383 = .ok (.aload_n 0, 1) := by decide +kernel
theorem d_LW_law_1384 : decode (mB M_LW_law) 1384 = .ok (.iload 4, 2) := by decide +kernel
theorem d_LW_law_1386 : decode (mB M_LW_law) 1386 = .ok (.iconst 2, 1) := by decide +kernel
theorem d_LW_law_1387 : decode (mB M_LW_law) 1387 = .ok (.iadd, 1) := by decide +kernel
theorem d_LW_law_1388 : decode (mB M_LW_law) 1388 = .ok (.iaload, 1) := by decide +kernel
theorem d_LW_law_1389 : decode (mB M_LW_law) 1389 = .ok (.ifCond .eq 7, 3) := by decide +kernel
theorem d_LW_law_1392 : decode (mB M_LW_law) 1392 = .ok (.iconst 1, 1) := by decide +kernel
theorem d_LW_law_1393 : decode (mB M_LW_law) 1393 = .ok (.goto 4, 3) := by decide +kernel
theorem d_LW_law_1396 : decode (mB M_LW_law) 1396 = .ok (.iconst 0, 1) := by decide +kernel
theorem d_LW_law_1397 : decode (mB M_LW_law) 1397 = .ok (.aload_n 3, 1) := by decide +kernel
theorem d_LW_law_1398 : decode (mB M_LW_law) 1398 = .ok (.invokestatic 184, 3) := by decide +kernel
theorem d_LW_law_1401 : decode (mB M_LW_law) 1401 = .ok (.istore 5, 2) := by decide +kernel
theorem d_LW_law_1403 : decode (mB M_LW_law) 1403 = .ok (.aload_n 2, 1) := by decide +kernel
theorem d_LW_law_1404 : decode (mB M_LW_law) 1404 = .ok (.aload_n 0, 1) := by decide +kernel
theorem d_LW_law_1405 : decode (mB M_LW_law) 1405 = .ok (.iload 4, 2) := by decide +kernel
theorem d_LW_law_1407 : decode (mB M_LW_law) 1407 = .ok (.iconst 1, 1) := by decide +kernel
theorem d_LW_law_1408 : decode (mB M_LW_law) 1408 = .ok (.iadd, 1) := by decide +kernel
theorem d_LW_law_1409 : decode (mB M_LW_law) 1409 = .ok (.iaload, 1) := by decide +kernel
theorem d_LW_law_1410 : decode (mB M_LW_law) 1410 = .ok (.aload_n 0, 1) := by decide +kernel
theorem d_LW_law_1411 : decode (mB M_LW_law) 1411 = .ok (.iload 4, 2) := by decide +kernel
theorem d_LW_law_1413 : decode (mB M_LW_law) 1413 = .ok (.iconst 2, 1) := by decide +kernel
theorem d_LW_law_1414 : decode (mB M_LW_law) 1414 = .ok (.iadd, 1) := by decide +kernel
theorem d_LW_law_1415 : decode (mB M_LW_law) 1415 = .ok (.iaload, 1) := by decide +kernel
theorem d_LW_law_1416 : decode (mB M_LW_law) 1416 = .ok (.ifCond .eq 7, 3) := by decide +kernel
theorem d_LW_law_1419 : decode (mB M_LW_law) 1419 = .ok (.iconst 1, 1) := by decide +kernel
theorem d_LW_law_1420 : decode (mB M_LW_law) 1420 = .ok (.goto 4, 3) := by decide +kernel
theorem d_LW_law_1423 : decode (mB M_LW_law) 1423 = .ok (.iconst 0, 1) := by decide +kernel
theorem d_LW_law_1424 : decode (mB M_LW_law) 1424 = .ok (.invokevirtual 187, 3) := by decide +kernel
theorem d_LW_law_1427 : decode (mB M_LW_law) 1427 = .ok (.istore 6, 2) := by decide +kernel
theorem d_LW_law_1429 : decode (mB M_LW_law) 1429 = .ok (.aload_n 2, 1) := by decide +kernel
theorem d_LW_law_1430 : decode (mB M_LW_law) 1430 = .ok (.invokevirtual 124, 3) := by decide +kernel
theorem d_LW_law_1433 : decode (mB M_LW_law) 1433 = .ok (.iload 5, 2) := by decide +kernel
theorem d_LW_law_1435 : decode (mB M_LW_law) 1435 = .ok (.if_icmp .eq 5, 3) := by decide +kernel
theorem d_LW_law_1438 : decode (mB M_LW_law) 1438 = .ok (.iconst 0, 1) := by decide +kernel
theorem d_LW_law_1439 : decode (mB M_LW_law) 1439 = .ok (.ireturn, 1) := by decide +kernel
theorem d_LW_law_1440 : decode (mB M_LW_law) 1440 = .ok (.iload 5, 2) := by decide +kernel
theorem d_LW_law_1442 : decode (mB M_LW_law) 1442 = .ok (.ifCond .ne 15, 3) := by decide +kernel
theorem d_LW_law_1445 : decode (mB M_LW_law) 1445 = .ok (.aload_n 3, 1) := by decide +kernel
theorem d_LW_law_1446 : decode (mB M_LW_law) 1446 = .ok (.iconst 0, 1) := by decide +kernel
theorem d_LW_law_1447 : decode (mB M_LW_law) 1447 = .ok (.laload, 1) := by decide +kernel
theorem d_LW_law_1448 : decode (mB M_LW_law) 1448 = .ok (.iload 6, 2) := by decide +kernel
theorem d_LW_law_1450 : decode (mB M_LW_law) 1450 = .ok (.i2l, 1) := by decide +kernel
theorem d_LW_law_1451 : decode (mB M_LW_law) 1451 = .ok (.lcmp, 1) := by decide +kernel
theorem d_LW_law_1452 : decode (mB M_LW_law) 1452 = .ok (.ifCond .eq 5, 3) := by decide +kernel
theorem d_LW_law_1455 : decode (mB M_LW_law) 1455 = .ok (.iconst 0, 1) := by decide +kernel
theorem d_LW_law_1456 : decode (mB M_LW_law) 1456 = .ok (.ireturn, 1) := by decide +kernel
theorem d_LW_law_1457 : decode (mB M_LW_law) 1457 = .ok (.goto 707, 3) := by decide +kernel
theorem d_LW_law_1460 : decode (mB M_LW_law) 1460 = .ok (.aload_n 1, 1) := by decide +kernel
theorem d_LW_law_1461 : decode (mB M_LW_law) 1461 = .ok (.aload_n 0, 1) := by decide +kernel
theorem d_LW_law_1462 : decode (mB M_LW_law) 1462 = .ok (.iload 4, 2) := by decide +kernel
theorem d_LW_law_1464 : decode (mB M_LW_law) 1464 = .ok (.iconst 1, 1) := by decide +kernel
theorem d_LW_law_1465 : decode (mB M_LW_law) 1465 = .ok (.iadd, 1) := by decide +kernel
theorem d_LW_law_1466 : decode (mB M_LW_law) 1466 = .ok (.iaload, 1) := by decide +kernel
theorem d_LW_law_1467 : decode (mB M_LW_law) 1467 = .ok (.aload_n 0, 1) := by decide +kernel
theorem d_LW_law_1468 : decode (mB M_LW_law) 1468 = .ok (.iload 4, 2) := by decide +kernel
theorem d_LW_law_1470 : decode (mB M_LW_law) 1470 = .ok (.iconst 2, 1) := by decide +kernel
theorem d_LW_law_1471 : decode (mB M_LW_law) 1471 = .ok (.iadd, 1) := by decide +kernel
theorem d_LW_law_1472 : decode (mB M_LW_law) 1472 = .ok (.iaload, 1) := by decide +kernel
theorem d_LW_law_1473 : decode (mB M_LW_law) 1473 = .ok (.aload_n 3, 1) := by decide +kernel
theorem d_LW_law_1474 : decode (mB M_LW_law) 1474 = .ok (.invokestatic 188, 3) := by decide +kernel
theorem d_LW_law_1477 : decode (mB M_LW_law) 1477 = .ok (.istore 5, 2) := by decide +kernel
theorem d_LW_law_1479 : decode (mB M_LW_law) 1479 = .ok (.aload_n 2, 1) := by decide +kernel
theorem d_LW_law_1480 : decode (mB M_LW_law) 1480 = .ok (.aload_n 0, 1) := by decide +kernel
theorem d_LW_law_1481 : decode (mB M_LW_law) 1481 = .ok (.iload 4, 2) := by decide +kernel
theorem d_LW_law_1483 : decode (mB M_LW_law) 1483 = .ok (.iconst 1, 1) := by decide +kernel
theorem d_LW_law_1484 : decode (mB M_LW_law) 1484 = .ok (.iadd, 1) := by decide +kernel
theorem d_LW_law_1485 : decode (mB M_LW_law) 1485 = .ok (.iaload, 1) := by decide +kernel
theorem d_LW_law_1486 : decode (mB M_LW_law) 1486 = .ok (.aload_n 0, 1) := by decide +kernel
theorem d_LW_law_1487 : decode (mB M_LW_law) 1487 = .ok (.iload 4, 2) := by decide +kernel
theorem d_LW_law_1489 : decode (mB M_LW_law) 1489 = .ok (.iconst 2, 1) := by decide +kernel
theorem d_LW_law_1490 : decode (mB M_LW_law) 1490 = .ok (.iadd, 1) := by decide +kernel
theorem d_LW_law_1491 : decode (mB M_LW_law) 1491 = .ok (.iaload, 1) := by decide +kernel
theorem d_LW_law_1492 : decode (mB M_LW_law) 1492 = .ok (.invokevirtual 190, 3) := by decide +kernel
theorem d_LW_law_1495 : decode (mB M_LW_law) 1495 = .ok (.istore 6, 2) := by decide +kernel
theorem d_LW_law_1497 : decode (mB M_LW_law) 1497 = .ok (.aload_n 2, 1) := by decide +kernel
theorem d_LW_law_1498 : decode (mB M_LW_law) 1498 = .ok (.invokevirtual 124, 3) := by decide +kernel
theorem d_LW_law_1501 : decode (mB M_LW_law) 1501 = .ok (.iload 5, 2) := by decide +kernel
theorem d_LW_law_1503 : decode (mB M_LW_law) 1503 = .ok (.if_icmp .eq 5, 3) := by decide +kernel
theorem d_LW_law_1506 : decode (mB M_LW_law) 1506 = .ok (.iconst 0, 1) := by decide +kernel
theorem d_LW_law_1507 : decode (mB M_LW_law) 1507 = .ok (.ireturn, 1) := by decide +kernel
theorem d_LW_law_1508 : decode (mB M_LW_law) 1508 = .ok (.iload 5, 2) := by decide +kernel
theorem d_LW_law_1510 : decode (mB M_LW_law) 1510 = .ok (.ifCond .ne 15, 3) := by decide +kernel
theorem d_LW_law_1513 : decode (mB M_LW_law) 1513 = .ok (.aload_n 3, 1) := by decide +kernel
theorem d_LW_law_1514 : decode (mB M_LW_law) 1514 = .ok (.iconst 0, 1) := by decide +kernel
theorem d_LW_law_1515 : decode (mB M_LW_law) 1515 = .ok (.laload, 1) := by decide +kernel
theorem d_LW_law_1516 : decode (mB M_LW_law) 1516 = .ok (.iload 6, 2) := by decide +kernel
theorem d_LW_law_1518 : decode (mB M_LW_law) 1518 = .ok (.i2l, 1) := by decide +kernel
theorem d_LW_law_1519 : decode (mB M_LW_law) 1519 = .ok (.lcmp, 1) := by decide +kernel
theorem d_LW_law_1520 : decode (mB M_LW_law) 1520 = .ok (.ifCond .eq 5, 3) := by decide +kernel
theorem d_LW_law_1523 : decode (mB M_LW_law) 1523 = .ok (.iconst 0, 1) := by decide +kernel
theorem d_LW_law_1524 : decode (mB M_LW_law) 1524 = .ok (.ireturn, 1) := by decide +kernel
theorem d_LW_law_1525 : decode (mB M_LW_law) 1525 = .ok (.goto 639, 3) := by decide +kernel
theorem d_LW_law_1528 : decode (mB M_LW_law) 1528 = .ok (.aload_n 1, 1) := by decide +kernel
theorem d_LW_law_1529 : decode (mB M_LW_law) 1529 = .ok (.aload_n 0, 1) := by decide +kernel
theorem d_LW_law_1530 : decode (mB M_LW_law) 1530 = .ok (.iload 4, 2) := by decide +kernel
theorem d_LW_law_1532 : decode (mB M_LW_law) 1532 = .ok (.iconst 1, 1) := by decide +kernel
theorem d_LW_law_1533 : decode (mB M_LW_law) 1533 = .ok (.iadd, 1) := by decide +kernel
theorem d_LW_law_1534 : decode (mB M_LW_law) 1534 = .ok (.iaload, 1) := by decide +kernel
theorem d_LW_law_1535 : decode (mB M_LW_law) 1535 = .ok (.aload_n 0, 1) := by decide +kernel
theorem d_LW_law_1536 : decode (mB M_LW_law) 1536 = .ok (.iload 4, 2) := by decide +kernel
theorem d_LW_law_1538 : decode (mB M_LW_law) 1538 = .ok (.iconst 2, 1) := by decide +kernel
theorem d_LW_law_1539 : decode (mB M_LW_law) 1539 = .ok (.iadd, 1) := by decide +kernel
theorem d_LW_law_1540 : decode (mB M_LW_law) 1540 = .ok (.iaload, 1) := by decide +kernel
theorem d_LW_law_1541 : decode (mB M_LW_law) 1541 = .ok (.aload_n 3, 1) := by decide +kernel
theorem d_LW_law_1542 : decode (mB M_LW_law) 1542 = .ok (.invokestatic 191, 3) := by decide +kernel
theorem d_LW_law_1545 : decode (mB M_LW_law) 1545 = .ok (.istore 5, 2) := by decide +kernel
theorem d_LW_law_1547 : decode (mB M_LW_law) 1547 = .ok (.aload_n 2, 1) := by decide +kernel
theorem d_LW_law_1548 : decode (mB M_LW_law) 1548 = .ok (.aload_n 0, 1) := by decide +kernel
theorem d_LW_law_1549 : decode (mB M_LW_law) 1549 = .ok (.iload 4, 2) := by decide +kernel
theorem d_LW_law_1551 : decode (mB M_LW_law) 1551 = .ok (.iconst 1, 1) := by decide +kernel
theorem d_LW_law_1552 : decode (mB M_LW_law) 1552 = .ok (.iadd, 1) := by decide +kernel
theorem d_LW_law_1553 : decode (mB M_LW_law) 1553 = .ok (.iaload, 1) := by decide +kernel
theorem d_LW_law_1554 : decode (mB M_LW_law) 1554 = .ok (.aload_n 0, 1) := by decide +kernel
theorem d_LW_law_1555 : decode (mB M_LW_law) 1555 = .ok (.iload 4, 2) := by decide +kernel
theorem d_LW_law_1557 : decode (mB M_LW_law) 1557 = .ok (.iconst 2, 1) := by decide +kernel
theorem d_LW_law_1558 : decode (mB M_LW_law) 1558 = .ok (.iadd, 1) := by decide +kernel
theorem d_LW_law_1559 : decode (mB M_LW_law) 1559 = .ok (.iaload, 1) := by decide +kernel
theorem d_LW_law_1560 : decode (mB M_LW_law) 1560 = .ok (.invokevirtual 193, 3) := by decide +kernel
theorem d_LW_law_1563 : decode (mB M_LW_law) 1563 = .ok (.istore 6, 2) := by decide +kernel
theorem d_LW_law_1565 : decode (mB M_LW_law) 1565 = .ok (.aload_n 2, 1) := by decide +kernel
theorem d_LW_law_1566 : decode (mB M_LW_law) 1566 = .ok (.invokevirtual 124, 3) := by decide +kernel
theorem d_LW_law_1569 : decode (mB M_LW_law) 1569 = .ok (.iload 5, 2) := by decide +kernel
theorem d_LW_law_1571 : decode (mB M_LW_law) 1571 = .ok (.if_icmp .eq 5, 3) := by decide +kernel
theorem d_LW_law_1574 : decode (mB M_LW_law) 1574 = .ok (.iconst 0, 1) := by decide +kernel
theorem d_LW_law_1575 : decode (mB M_LW_law) 1575 = .ok (.ireturn, 1) := by decide +kernel
theorem d_LW_law_1576 : decode (mB M_LW_law) 1576 = .ok (.iload 5, 2) := by decide +kernel
theorem d_LW_law_1578 : decode (mB M_LW_law) 1578 = .ok (.ifCond .ne 15, 3) := by decide +kernel
theorem d_LW_law_1581 : decode (mB M_LW_law) 1581 = .ok (.aload_n 3, 1) := by decide +kernel
theorem d_LW_law_1582 : decode (mB M_LW_law) 1582 = .ok (.iconst 0, 1) := by decide +kernel
theorem d_LW_law_1583 : decode (mB M_LW_law) 1583 = .ok (.laload, 1) := by decide +kernel
theorem d_LW_law_1584 : decode (mB M_LW_law) 1584 = .ok (.iload 6, 2) := by decide +kernel
theorem d_LW_law_1586 : decode (mB M_LW_law) 1586 = .ok (.i2l, 1) := by decide +kernel
theorem d_LW_law_1587 : decode (mB M_LW_law) 1587 = .ok (.lcmp, 1) := by decide +kernel
theorem d_LW_law_1588 : decode (mB M_LW_law) 1588 = .ok (.ifCond .eq 5, 3) := by decide +kernel
theorem d_LW_law_1591 : decode (mB M_LW_law) 1591 = .ok (.iconst 0, 1) := by decide +kernel
theorem d_LW_law_1592 : decode (mB M_LW_law) 1592 = .ok (.ireturn, 1) := by decide +kernel
theorem d_LW_law_1593 : decode (mB M_LW_law) 1593 = .ok (.goto 571, 3) := by decide +kernel
theorem d_LW_law_1596 : decode (mB M_LW_law) 1596 = .ok (.aload_n 1, 1) := by decide +kernel
theorem d_LW_law_1597 : decode (mB M_LW_law) 1597 = .ok (.aload_n 0, 1) := by decide +kernel
theorem d_LW_law_1598 : decode (mB M_LW_law) 1598 = .ok (.iload 4, 2) := by decide +kernel
theorem d_LW_law_1600 : decode (mB M_LW_law) 1600 = .ok (.iconst 1, 1) := by decide +kernel
theorem d_LW_law_1601 : decode (mB M_LW_law) 1601 = .ok (.iadd, 1) := by decide +kernel
theorem d_LW_law_1602 : decode (mB M_LW_law) 1602 = .ok (.iaload, 1) := by decide +kernel
theorem d_LW_law_1603 : decode (mB M_LW_law) 1603 = .ok (.aload_n 0, 1) := by decide +kernel
theorem d_LW_law_1604 : decode (mB M_LW_law) 1604 = .ok (.iload 4, 2) := by decide +kernel
theorem d_LW_law_1606 : decode (mB M_LW_law) 1606 = .ok (.iconst 2, 1) := by decide +kernel
theorem d_LW_law_1607 : decode (mB M_LW_law) 1607 = .ok (.iadd, 1) := by decide +kernel
theorem d_LW_law_1608 : decode (mB M_LW_law) 1608 = .ok (.iaload, 1) := by decide +kernel
theorem d_LW_law_1609 : decode (mB M_LW_law) 1609 = .ok (.aload_n 3, 1) := by decide +kernel
theorem d_LW_law_1610 : decode (mB M_LW_law) 1610 = .ok (.invokestatic 194, 3) := by decide +kernel
theorem d_LW_law_1613 : decode (mB M_LW_law) 1613 = .ok (.istore 5, 2) := by decide +kernel
theorem d_LW_law_1615 : decode (mB M_LW_law) 1615 = .ok (.aload_n 2, 1) := by decide +kernel
theorem d_LW_law_1616 : decode (mB M_LW_law) 1616 = .ok (.aload_n 0, 1) := by decide +kernel
theorem d_LW_law_1617 : decode (mB M_LW_law) 1617 = .ok (.iload 4, 2) := by decide +kernel
theorem d_LW_law_1619 : decode (mB M_LW_law) 1619 = .ok (.iconst 1, 1) := by decide +kernel
theorem d_LW_law_1620 : decode (mB M_LW_law) 1620 = .ok (.iadd, 1) := by decide +kernel
theorem d_LW_law_1621 : decode (mB M_LW_law) 1621 = .ok (.iaload, 1) := by decide +kernel
theorem d_LW_law_1622 : decode (mB M_LW_law) 1622 = .ok (.aload_n 0, 1) := by decide +kernel
theorem d_LW_law_1623 : decode (mB M_LW_law) 1623 = .ok (.iload 4, 2) := by decide +kernel
theorem d_LW_law_1625 : decode (mB M_LW_law) 1625 = .ok (.iconst 2, 1) := by decide +kernel
theorem d_LW_law_1626 : decode (mB M_LW_law) 1626 = .ok (.iadd, 1) := by decide +kernel
theorem d_LW_law_1627 : decode (mB M_LW_law) 1627 = .ok (.iaload, 1) := by decide +kernel
theorem d_LW_law_1628 : decode (mB M_LW_law) 1628 = .ok (.invokevirtual 196, 3) := by decide +kernel
theorem d_LW_law_1631 : decode (mB M_LW_law) 1631 = .ok (.istore 6, 2) := by decide +kernel
theorem d_LW_law_1633 : decode (mB M_LW_law) 1633 = .ok (.aload_n 2, 1) := by decide +kernel
theorem d_LW_law_1634 : decode (mB M_LW_law) 1634 = .ok (.invokevirtual 124, 3) := by decide +kernel
theorem d_LW_law_1637 : decode (mB M_LW_law) 1637 = .ok (.iload 5, 2) := by decide +kernel
theorem d_LW_law_1639 : decode (mB M_LW_law) 1639 = .ok (.if_icmp .eq 5, 3) := by decide +kernel
theorem d_LW_law_1642 : decode (mB M_LW_law) 1642 = .ok (.iconst 0, 1) := by decide +kernel
theorem d_LW_law_1643 : decode (mB M_LW_law) 1643 = .ok (.ireturn, 1) := by decide +kernel
theorem d_LW_law_1644 : decode (mB M_LW_law) 1644 = .ok (.iload 5, 2) := by decide +kernel
theorem d_LW_law_1646 : decode (mB M_LW_law) 1646 = .ok (.ifCond .ne 15, 3) := by decide +kernel
theorem d_LW_law_1649 : decode (mB M_LW_law) 1649 = .ok (.aload_n 3, 1) := by decide +kernel
theorem d_LW_law_1650 : decode (mB M_LW_law) 1650 = .ok (.iconst 0, 1) := by decide +kernel
theorem d_LW_law_1651 : decode (mB M_LW_law) 1651 = .ok (.laload, 1) := by decide +kernel
theorem d_LW_law_1652 : decode (mB M_LW_law) 1652 = .ok (.iload 6, 2) := by decide +kernel
theorem d_LW_law_1654 : decode (mB M_LW_law) 1654 = .ok (.i2l, 1) := by decide +kernel
theorem d_LW_law_1655 : decode (mB M_LW_law) 1655 = .ok (.lcmp, 1) := by decide +kernel
theorem d_LW_law_1656 : decode (mB M_LW_law) 1656 = .ok (.ifCond .eq 5, 3) := by decide +kernel
theorem d_LW_law_1659 : decode (mB M_LW_law) 1659 = .ok (.iconst 0, 1) := by decide +kernel
theorem d_LW_law_1660 : decode (mB M_LW_law) 1660 = .ok (.ireturn, 1) := by decide +kernel
theorem d_LW_law_1661 : decode (mB M_LW_law) 1661 = .ok (.goto 503, 3) := by decide +kernel
theorem d_LW_law_1664 : decode (mB M_LW_law) 1664 = .ok (.aload_n 1, 1) := by decide +kernel
theorem d_LW_law_1665 : decode (mB M_LW_law) 1665 = .ok (.aload_n 0, 1) := by decide +kernel
