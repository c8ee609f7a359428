theorem dL_law_1032 : decode cL_law 1032 = .ok (.aload_n 1, 1) := by decide +kernel
theorem dL_law_1033 : decode cL_law 1033 = .ok (.aload_n 0, 1) := by decide +kernel
theorem dL_law_1034 : decode cL_law 1034 = .ok (.iload 5, 2) := by decide +kernel
theorem dL_law_1036 : decode cL_law 1036 = .ok (.iconst 1, 1) := by decide +kernel
theorem dL_law_1037 : decode cL_law 1037 = .ok (.iadd, 1) := by decide +kernel
theorem dL_law_1038 : decode cL_law 1038 = .ok (.iaload, 1) := by decide +kernel
theorem dL_law_1039 : decode cL_law 1039 = .ok (.aload_n 0, 1) := by decide +kernel
theorem dL_law_1040 : decode cL_law 1040 = .ok (.iload 5, 2) := by decide +kernel
theorem dL_law_1042 : decode cL_law 1042 = .ok (.iconst 2, 1) := by decide +kernel
theorem dL_law_1043 : decode cL_law 1043 = .ok (.iadd, 1) := by decide +kernel
theorem dL_law_1044 : decode cL_law 1044 = .ok (.iaload, 1) := by decide +kernel
theorem dL_law_1045 : decode cL_law 1045 = .ok (.aload_n 3, 1) := by decide +kernel
theorem dL_law_1046 : decode cL_law 1046 = .ok (.invokestatic 220, 3) := by decide +kernel
theorem dL_law_1049 : decode cL_law 1049 = .ok (.istore 6, 2) := by decide +kernel
theorem dL_law_1051 : decode cL_law 1051 = .ok (.aload_n 2, 1) := by decide +kernel
theorem dL_law_1052 : decode cL_law 1052 = .ok (.aload_n 0, 1) := by decide +kernel
theorem dL_law_1053 : decode cL_law 1053 = .ok (.iload 5, 2) := by decide +kernel
theorem dL_law_1055 : decode cL_law 1055 = .ok (.iconst 1, 1) := by decide +kernel
theorem dL_law_1056 : decode cL_law 1056 = .ok (.iadd, 1) := by decide +kernel
theorem dL_law_1057 : decode cL_law 1057 = .ok (.iaload, 1) := by decide +kernel
theorem dL_law_1058 : decode cL_law 1058 = .ok (.aload_n 0, 1) := by decide +kernel
theorem dL_law_1059 : decode cL_law 1059 = .ok (.iload 5, 2) := by decide +kernel
theorem dL_law_1061 : decode cL_law 1061 = .ok (.iconst 2, 1) := by decide +kernel
theorem dL_law_1062 : decode cL_law 1062 = .ok (.iadd, 1) := by decide +kernel
theorem dL_law_1063 : decode cL_law 1063 = .ok (.iaload, 1) := by decide +kernel
theorem dL_law_1064 : decode cL_law 1064 = .ok (.invokevirtual 222, 3) := by decide +kernel
theorem dL_law_1067 : decode cL_law 1067 = .ok (.istore 7, 2) := by decide +kernel
theorem dL_law_1069 : decode cL_law 1069 = .ok (.aload_n 2, 1) := by decide +kernel
theorem dL_law_1070 : decode cL_law 1070 = .ok (.invokevirtual 183, 3) := by decide +kernel
theorem dL_law_1073 : decode cL_law 1073 = .ok (.iload 6, 2) := by decide +kernel
theorem dL_law_1075 : decode cL_law 1075 = .ok (.if_icmp .eq 5, 3) := by decide +kernel
theorem dL_law_1080 : decode cL_law 1080 = .ok (.iload 6, 2) := by decide +kernel
theorem dL_law_1082 : decode cL_law 1082 = .ok (.ifCond .ne 15, 3) := by decide +kernel
theorem dL_law_1097 : decode cL_law 1097 = .ok (.goto 2332, 3) := by decide +kernel
theorem dL_law_1100 : decode cL_law 1100 = .ok (.aload_n 1, 1) := by decide +kernel
theorem dL_law_1101 : decode cL_law 1101 = .ok (.aload_n 0, 1) := by decide +kernel
theorem dL_law_1102 : decode cL_law 1102 = .ok (.iload 5, 2) := by decide +kernel
theorem dL_law_1104 : decode cL_law 1104 = .ok (.iconst 1, 1) := by decide +kernel
theorem dL_law_1105 : decode cL_law 1105 = .ok (.iadd, 1) := by decide +kernel
theorem dL_law_1106 : decode cL_law 1106 = .ok (.iaload, 1) := by decide +kernel
theorem dL_law_1107 : decode cL_law 1107 = .ok (.aload_n 3, 1) := by decide +kernel
theorem dL_law_1108 : decode cL_law 1108 = .ok (.invokestatic 223, 3) := by decide +kernel
theorem dL_law_1111 : decode cL_law 1111 = .ok (.istore 6, 2) := by decide +kernel
theorem dL_law_1113 : decode cL_law 1113 = .ok (.aload_n 2, 1) := by decide +kernel
theorem dL_law_1114 : decode cL_law 1114 = .ok (.aload_n 0, 1) := by decide +kernel
theorem dL_law_1115 : decode cL_law 1115 = .ok (.iload 5, 2) := by decide +kernel
theorem dL_law_1117 : decode cL_law 1117 = .ok (.iconst 1, 1) := by decide +kernel
theorem dL_law_1118 : decode cL_law 1118 = .ok (.iadd, 1) := by decide +kernel
theorem dL_law_1119 : decode cL_law 1119 = .ok (.iaload, 1) := by decide +kernel
theorem dL_law_1120 : decode cL_law 1120 = .ok (.invokevirtual 225, 3) := by decide +kernel
theorem dL_law_1123 : decode cL_law 1123 = .ok (.istore 7, 2) := by decide +kernel
theorem dL_law_1125 : decode cL_law 1125 = .ok (.aload_n 2, 1) := by decide +kernel
theorem dL_law_1126 : decode cL_law 1126 = .ok (.invokevirtual 183, 3) := by decide +kernel
theorem dL_law_1129 : decode cL_law 1129 = .ok (.iload 6, 2) := by decide +kernel
theorem dL_law_1131 : decode cL_law 1131 = .ok (.if_icmp .eq 5, 3) := by decide +kernel
theorem dL_law_1136 : decode cL_law 1136 = .ok (.iload 6, 2) := by decide +kernel
theorem dL_law_1138 : decode cL_law 1138 = .ok (.ifCond .ne 15, 3) := by decide +kernel
theorem dL_law_1153 : decode cL_law 1153 = .ok (.goto 2276, 3) := by decide +kernel
theorem dL_law_1156 : decode cL_law 1156 = .ok (.aload_n 1, 1) := by decide +kernel
theorem dL_law_1157 : decode cL_law 1157 = .ok (.aload_n 0, 1) := by decide +kernel
theorem dL_law_1158 : decode cL_law 1158 = .ok (.iload 5, 2) := by decide +kernel
theorem dL_law_1160 : decode cL_law 1160 = .ok (.iconst 1, 1) := by decide +kernel
theorem dL_law_1161 : decode cL_law 1161 = .ok (.iadd, 1) := by decide +kernel
theorem dL_law_1162 : decode cL_law 1162 = .ok (.iaload, 1) := by decide +kernel
theorem dL_law_1163 : decode cL_law 1163 = .ok (.aload_n 3, 1) := by decide +kernel
theorem dL_law_1164 : decode cL_law 1164 = .ok (.invokestatic 226, 3) := by decide +kernel
theorem dL_law_1167 : decode cL_law 1167 = .ok (.istore 6, 2) := by decide +kernel
theorem dL_law_1169 : decode cL_law 1169 = .ok (.aload_n 2, 1) := by decide +kernel
theorem dL_law_1170 : decode cL_law 1170 = .ok (.aload_n 0, 1) := by decide +kernel
theorem dL_law_1171 : decode cL_law 1171 = .ok (.iload 5, 2) := by decide +kernel
theorem dL_law_1173 : decode cL_law 1173 = .ok (.iconst 1, 1) := by decide +kernel
theorem dL_law_1174 : decode cL_law 1174 = .ok (.iadd, 1) := by decide +kernel
theorem dL_law_1175 : decode cL_law 1175 = .ok (.iaload, 1) := by decide +kernel
theorem dL_law_1176 : decode cL_law 1176 = .ok (.invokevirtual 228, 3) := by decide +kernel
theorem dL_law_1179 : decode cL_law 1179 = .ok (.istore 7, 2) := by decide +kernel
theorem dL_law_1181 : decode cL_law 1181 = .ok (.aload_n 2, 1) := by decide +kernel
theorem dL_law_1182 : decode cL_law 1182 = .ok (.invokevirtual 183, 3) := by decide +kernel
theorem dL_law_1185 : decode cL_law 1185 = .ok (.iload 6, 2) := by decide +kernel
theorem dL_law_1187 : decode cL_law 1187 = .ok (.if_icmp .eq 5, 3) := by decide +kernel
theorem dL_law_1192 : decode cL_law 1192 = .ok (.iload 6, 2) := by decide +kernel
theorem dL_law_1194 : decode cL_law 1194 = .ok (.ifCond .ne 15, 3) := by decide +kernel
theorem dL_law_1209 : decode cL_law 1209 = .ok (.goto 2220, 3) := by decide +kernel
theorem dL_law_1212 : decode cL_law 1212 = .ok (.aload_n 1, 1) := by decide +kernel
theorem dL_law_1213 : decode cL_law 1213 = .ok (.aload_n 0, 1) := by decide +kernel
theorem dL_law_1214 : decode cL_law 1214 = .ok (.iload 5, 2) := by decide +kernel
theorem dL_law_1216 : decode cL_law 1216 = .ok (.iconst 1, 1) := by decide +kernel
theorem dL_law_1217 : decode cL_law 1217 = .ok (.iadd, 1) := by decide +kernel
theorem dL_law_1218 : decode cL_law 1218 = .ok (.iaload, 1) := by decide +kernel
theorem dL_law_1219 : decode cL_law 1219 = .ok (.aload_n 0, 1) := by decide +kernel
theorem dL_law_1220 : decode cL_law 1220 = .ok (.iload 5, 2) := by decide +kernel
theorem dL_law_1222 : decode cL_law 1222 = .ok (.iconst 2, 1) := by decide +kernel
theorem dL_law_1223 : decode cL_law 1223 = .ok (.iadd, 1) := by decide +kernel
theorem dL_law_1224 : decode cL_law 1224 = .ok (.iaload, 1) := by decide +kernel
theorem dL_law_1225 : decode cL_law 1225 = .ok (.aload_n 3, 1) := by decide +kernel
theorem dL_law_1226 : decode cL_law 1226 = .ok (.invokestatic 229, 3) := by decide +kernel
theorem dL_law_1229 : decode cL_law 1229 = .ok (.istore 6, 2) := by decide +kernel
theorem dL_law_1231 : decode cL_law 1231 = .ok (.aload_n 2, 1) := by decide +kernel
theorem dL_law_1232 : decode cL_law 1232 = .ok (.aload_n 0, 1) := by decide +kernel
theorem dL_law_1233 : decode cL_law 1233 = .ok (.iload 5, 2) := by decide +kernel
theorem dL_law_1235 : decode cL_law 1235 = .ok (.iconst 1, 1) := by decide +kernel
theorem dL_law_1236 : decode cL_law 1236 = .ok (.iadd, 1) := by decide +kernel
theorem dL_law_1237 : decode cL_law 1237 = .ok (.iaload, 1) := by decide +kernel
theorem dL_law_1238 : decode cL_law 1238 = .ok (.aload_n 0, 1) := by decide +kernel
theorem dL_law_1239 : decode cL_law 1239 = .ok (.iload 5, 2) := by decide +kernel
theorem dL_law_1241 : decode cL_law 1241 = .ok (.iconst 2, 1) := by decide +kernel
theorem dL_law_1242 : decode cL_law 1242 = .ok (.iadd, 1) := by decide +kernel
theorem dL_law_1243 : decode cL_law 1243 = .ok (.iaload, 1) := by decide +kernel
theorem dL_law_1244 : decode cL_law 1244 = .ok (.invokevirtual 231, 3) := by decide +kernel
theorem dL_law_1247 : decode cL_law 1247 = .ok (.istore 7, 2) := by decide +kernel
theorem dL_law_1249 : decode cL_law 1249 = .ok (.aload_n 2, 1) := by decide +kernel
theorem dL_law_1250 : decode cL_law 1250 = .ok (.invokevirtual 183, 3) := by decide +kernel
theorem dL_law_1253 : decode cL_law 1253 = .ok (.iload 6, 2) := by decide +kernel
theorem dL_law_1255 : decode cL_law 1255 = .ok (.if_icmp .eq 5, 3) := by decide +kernel
theorem dL_law_1260 : decode cL_law 1260 = .ok (.iload 6, 2) := by decide +kernel
theorem dL_law_1262 : decode cL_law 1262 = .ok (.ifCond .ne 15, 3) := by decide +kernel
theorem dL_law_1277 : decode cL_law 1277 = .ok (.goto 2152, 3) := by decide +kernel
theorem dL_law_1280 : decode cL_law 1280 = .ok (.aload_n 1, 1) := by decide +kernel
theorem dL_law_1281 : decode cL_law 1281 = .ok (.aload_n 0, 1) := by decide +kernel
theorem dL_law_1282 : decode cL_law 1282 = .ok (.iload 5, 2) := by decide +kernel
theorem dL_law_1284 : decode cL_law 1284 = .ok (.iconst 1, 1) := by decide +kernel
theorem dL_law_1285 : decode cL_law 1285 = .ok (.iadd, 1) := by decide +kernel
theorem dL_law_1286 : decode cL_law 1286 = .ok (.iaload, 1) := by decide +kernel
theorem dL_law_1287 : decode cL_law 1287 = .ok (.aload_n 3, 1) := by decide +kernel
theorem dL_law_1288 : decode cL_law 1288 = .ok (.invokestatic 232, 3) := by decide +kernel
theorem dL_law_1291 : decode cL_law 1291 = .ok (.istore 6, 2) := by decide +kernel
theorem dL_law_1293 : decode cL_law 1293 = .ok (.aload_n 2, 1) := by decide +kernel
theorem dL_law_1294 : decode cL_law 1294 = .ok (.aload_n 0, 1) := by decide +kernel
theorem dL_law_1295 : decode cL_law 1295 = .ok (.iload 5, 2) := by decide +kernel
theorem dL_law_1297 : decode cL_law 1297 = .ok (.iconst 1, 1) := by decide +kernel
theorem dL_law_1298 : decode cL_law 1298 = .ok (.iadd, 1) := by decide +kernel
theorem dL_law_1299 : decode cL_law 1299 = .ok (.iaload, 1) := by decide +kernel
theorem dL_law_1300 : decode cL_law 1300 = .ok (.invokevirtual 234, 3) := by decide +kernel
theorem dL_law_1303 : decode cL_law 1303 = .ok (.istore 7, 2) := by decide +kernel
theorem dL_law_1305 : decode cL_law 1305 = .ok (.aload_n 2, 1) := by decide +kernel
theorem dL_law_1306 : decode cL_law 1306 = .ok (.invokevirtual 183, 3) := by decide +kernel
theorem dL_law_1309 : decode cL_law 1309 = .ok (.iload 6, 2) := by decide +kernel
theorem dL_law_1311 : decode cL_law 1311 = .ok (.if_icmp .eq 5, 3) := by decide +kernel
theorem dL_law_1316 : decode cL_law 1316 = .ok (.iload 6, 2) := by decide +kernel
theorem dL_law_1318 : decode cL_law 1318 = .ok (.ifCond .ne 15, 3) := by decide +kernel
theorem dL_law_1333 : decode cL_law 1333 = .ok (.goto 2096, 3) := by decide +kernel
theorem dL_law_1336 : decode cL_law 1336 = .ok (.aload_n 1, 1) := by decide +kernel
theorem dL_law_1337 : decode cL_law 1337 = .ok (.aload_n 0, 1) := by decide +kernel
theorem dL_law_1338 : decode cL_law 1338 = .ok (.iload 5, 2) := by decide +kernel
theorem dL_law_1340 : decode cL_law 1340 = .ok (.iconst 1, 1) := by decide +kernel
theorem dL_law_1341 : decode cL_law 1341 = .ok (.iadd, 1) := by decide +kernel
theorem dL_law_1342 : decode cL_law 1342 = .ok (.iaload, 1) := by decide +kernel
theorem dL_law_1343 : decode cL_law 1343 = .ok (.aload_n 3, 1) := by decide +kernel
theorem dL_law_1344 : decode cL_law 1344 = .ok (.invokestatic 235, 3) := by decide +kernel
theorem dL_law_1347 : decode cL_law 1347 = .ok (.istore 6, 2) := by decide +kernel
theorem dL_law_1349 : decode cL_law 1349 = .ok (.aload_n 2, 1) := by decide +kernel
theorem dL_law_1350 : decode cL_law 1350 = .ok (.aload_n 0, 1) := by decide +kernel
theorem dL_law_1351 : decode cL_law 1351 = .ok (.iload 5, 2) := by decide +kernel
theorem dL_law_1353 : decode cL_law 1353 = .ok (.iconst 1, 1) := by decide +kernel
theorem dL_law_1354 : decode cL_law 1354 = .ok (.iadd, 1) := by decide +kernel
theorem dL_law_1355 : decode cL_law 1355 = .ok (.iaload, 1) := by decide +kernel
theorem dL_law_1356 : decode cL_law 1356 = .ok (.invokevirtual 237, 3) := by decide +kernel
theorem dL_law_1359 : decode cL_law 1359 = .ok (.istore 7, 2) := by decide +kernel
theorem dL_law_1361 : decode cL_law 1361 = .ok (.aload_n 2, 1) := by decide +kernel
theorem dL_law_1362 : decode cL_law 1362 = .ok (.invokevirtual 183, 3) := by decide +kernel
theorem dL_law_1365 : decode cL_law 1365 = .ok (.iload 6, 2) := by decide +kernel
theorem dL_law_1367 : decode cL_law 1367 = .ok (.if_icmp .eq 5, 3) := by decide +kernel
theorem dL_law_1372 : decode cL_law 1372 = .ok (.iload 6, 2) := by decide +kernel
theorem dL_law_1374 : decode cL_law 1374 = .ok (.ifCond .ne 15, 3) := by decide +kernel
theorem dL_law_1389 : decode cL_law 1389 = .ok (.goto 2040, 3) := by decide +kernel
theorem dL_law_1392 : decode cL_law 1392 = .ok (.aload_n 1, 1) := by decide +kernel
theorem dL_law_1393 : decode cL_law 1393 = .ok (.aload_n 0, 1) := by decide +kernel
theorem dL_law_1394 : decode cL_law 1394 = .ok (.iload 5, 2) := by decide +kernel
theorem dL_law_1396 : decode cL_law 1396 = .ok (.iconst 1, 1) := by decide +kernel
theorem dL_law_1397 : decode cL_law 1397 = .ok (.iadd, 1) := by decide +kernel
theorem dL_law_1398 : decode cL_law 1398 = .ok (.iaload, 1) := by decide +kernel
theorem dL_law_1399 : decode cL_law 1399 = .ok (.aload_n 0, 1) := by decide +kernel
theorem dL_law_1400 : decode cL_law 1400 = .ok (.iload 5, 2) := by decide +kernel
theorem dL_law_1402 : decode cL_law 1402 = .ok (.iconst 2, 1) := by decide +kernel
theorem dL_law_1403 : decode cL_law 1403 = .ok (.iadd, 1) := by decide +kernel
theorem dL_law_1404 : decode cL_law 1404 = .ok (.iaload, 1) := by decide +kernel
theorem dL_law_1405 : decode cL_law 1405 = .ok (.aload_n 3, 1) := by decide +kernel
theorem dL_law_1406 : decode cL_law 1406 = .ok (.invokestatic 238, 3) := by decide +kernel
theorem dL_law_1409 : decode cL_law 1409 = .ok (.istore 6, 2) := by decide +kernel
theorem dL_law_1411 : decode cL_law 1411 = .ok (.aload_n 2, 1) := by decide +kernel
theorem dL_law_1412 : decode cL_law 1412 = .ok (.aload_n 0, 1) := by decide +kernel
theorem dL_law_1413 : decode cL_law 1413 = .ok (.iload 5, 2) := by decide +kernel
theorem dL_law_1415 : decode cL_law 1415 = .ok (.iconst 1, 1) := by decide +kernel
theorem dL_law_1416 : decode cL_law 1416 = .ok (.iadd, 1) := by decide +kernel
theorem dL_law_1417 : decode cL_law 1417 = .ok (.iaload, 1) := by decide +kernel
theorem dL_law_1418 : decode cL_law 1418 = .ok (.aload_n 0, 1) := by decide +kernel
theorem dL_law_1419 : decode cL_law 1419 = .ok (.iload 5, 2) := by decide +kernel
theorem dL_law_1421 : decode cL_law 1421 = .ok (.iconst 2, 1) := by decide +kernel
theorem dL_law_1422 : decode cL_law 1422 = .ok (.iadd, 1) := by decide +kernel
theorem dL_law_1423 : decode cL_law 1423 = .ok (.iaload, 1) := by decide +kernel
theorem dL_law_1424 : decode cL_law 1424 = .ok (.invokevirtual 240, 3) := by decide +kernel
theorem dL_law_1427 : decode cL_law 1427 = .ok (.istore 7, 2) := by decide +kernel
theorem dL_law_1429 : decode cL_law 1429 = .ok (.aload_n 2, 1) := by decide +kernel
theorem dL_law_1430 : decode cL_law 1430 = .ok (.invokevirtual 183, 3) := by decide +kernel
theorem dL_law_1433 : decode cL_law 1433 = .ok (.iload 6, 2) := by decide +kernel
theorem dL_law_1435 : decode cL_law 1435 = .ok (.if_icmp .eq 5, 3) := by decide +kernel
theorem dL_law_1440 : decode cL_law 1440 = .ok (.iload 6, 2) := by decide +kernel
theorem dL_law_1442 : decode cL_law 1442 = .ok (.ifCond .ne 15, 3) := by decide +kernel
theorem dL_law_1457 : decode cL_law 1457 = .ok (.goto 1972, 3) := by decide +kernel
theorem dL_law_1551 : decode cL_law 1551 = .ok (.aload_n 1, 1) := by decide +kernel
theorem dL_law_1552 : decode cL_law 1552 = .ok (.aload_n 0, 1) := by decide +kernel
theorem dL_law_1553 : decode cL_law 1553 = .ok (.iload 5, 2) := by decide +kernel
theorem dL_law_1555 : decode cL_law 1555 = .ok (.iconst 1, 1) := by decide +kernel
theorem dL_law_1556 : decode cL_law 1556 = .ok (.iadd, 1) := by decide +kernel
theorem dL_law_1557 : decode cL_law 1557 = .ok (.iaload, 1) := by decide +kernel
theorem dL_law_1558 : decode cL_law 1558 = .ok (.aload_n 0, 1) := by decide +kernel
theorem dL_law_1559 : decode cL_law 1559 = .ok (.iload 5, 2) := by decide +kernel
theorem dL_law_1561 : decode cL_law 1561 = .ok (.iconst 2, 1) := by decide +kernel
theorem dL_law_1562 : decode cL_law 1562 = .ok (.iadd, 1) := by decide +kernel
theorem dL_law_1563 : decode cL_law 1563 = .ok (.iaload, 1) := by decide +kernel
theorem dL_law_1564 : decode cL_law 1564 = .ok (.aload_n 3, 1) := by decide +kernel
theorem dL_law_1565 : decode cL_law 1565 = .ok (.invokestatic 245, 3) := by decide +kernel
theorem dL_law_1568 : decode cL_law 1568 = .ok (.istore 6, 2) := by decide +kernel
theorem dL_law_1570 : decode cL_law 1570 = .ok (.aload_n 2, 1) := by decide +kernel
theorem dL_law_1571 : decode cL_law 1571 = .ok (.aload_n 0, 1) := by decide +kernel
theorem dL_law_1572 : decode cL_law 1572 = .ok (.iload 5, 2) := by decide +kernel
theorem dL_law_1574 : decode cL_law 1574 = .ok (.iconst 1, 1) := by decide +kernel
theorem dL_law_1575 : decode cL_law 1575 = .ok (.iadd, 1) := by decide +kernel
theorem dL_law_1576 : decode cL_law 1576 = .ok (.iaload, 1) := by decide +kernel
theorem dL_law_1577 : decode cL_law 1577 = .ok (.aload_n 0, 1) := by decide +kernel
theorem dL_law_1578 : decode cL_law 1578 = .ok (.iload 5, 2) := by decide +kernel
theorem dL_law_1580 : decode cL_law 1580 = .ok (.iconst 2, 1) := by decide +kernel
theorem dL_law_1581 : decode cL_law 1581 = .ok (.iadd, 1) := by decide +kernel
theorem dL_law_1582 : decode cL_law 1582 = .ok (.iaload, 1) := by decide +kernel
theorem dL_law_1583 : decode cL_law 1583 = .ok (.invokevirtual 247, 3) := by decide +kernel
theorem dL_law_1586 : decode cL_law 1586 = .ok (.istore 7, 2) := by decide +kernel
theorem dL_law_1588 : decode cL_law 1588 = .ok (.aload_n 2, 1) := by decide +kernel
theorem dL_law_1589 : decode cL_law 1589 = .ok (.invokevirtual 183, 3) := by decide +kernel
theorem dL_law_1592 : decode cL_law 1592 = .ok (.iload 6, 2) := by decide +kernel
theorem dL_law_1594 : decode cL_law 1594 = .ok (.if_icmp .eq 5, 3) := by decide +kernel
theorem dL_law_1599 : decode cL_law 1599 = .ok (.iload 6, 2) := by decide +kernel
theorem dL_law_1601 : decode cL_law 1601 = .ok (.ifCond .ne 15, 3) := by decide +kernel
theorem dL_law_1616 : decode cL_law 1616 = .ok (.goto 1813, 3) := by decide +kernel
theorem dL_law_1619 : decode cL_law 1619 = .ok (.aload_n 1, 1) := by decide +kernel
theorem dL_law_1620 : decode cL_law 1620 = .ok (.aload_n 0, 1) := by decide +kernel
theorem dL_law_1621 : decode cL_law 1621 = .ok (.iload 5, 2) := by decide +kernel
theorem dL_law_1623 : decode cL_law 1623 = .ok (.iconst 1, 1) := by decide +kernel
theorem dL_law_1624 : decode cL_law 1624 = .ok (.iadd, 1) := by decide +kernel
theorem dL_law_1625 : decode cL_law 1625 = .ok (.iaload, 1) := by decide +kernel
theorem dL_law_1626 : decode cL_law 1626 = .ok (.aload_n 3, 1) := by decide +kernel
theorem dL_law_1627 : decode cL_law 1627 = .ok (.invokestatic 248, 3) := by decide +kernel
theorem dL_law_1630 : decode cL_law 1630 = .ok (.istore 6, 2) := by decide +kernel
theorem dL_law_1632 : decode cL_law 1632 = .ok (.aload_n 2, 1) := by decide +kernel
theorem dL_law_1633 : decode cL_law 1633 = .ok (.aload_n 0, 1) := by decide +kernel
theorem dL_law_1634 : decode cL_law 1634 = .ok (.iload 5, 2) := by decide +kernel
theorem dL_law_1636 : decode cL_law 1636 = .ok (.iconst 1, 1) := by decide +kernel
theorem dL_law_1637 : decode cL_law 1637 = .ok (.iadd, 1) := by decide +kernel
theorem dL_law_1638 : decode cL_law 1638 = .ok (.iaload, 1) := by decide +kernel
theorem dL_law_1639 : decode cL_law 1639 = .ok (.invokevirtual 250, 3) := by decide +kernel
theorem dL_law_1642 : decode cL_law 1642 = .ok (.istore 7, 2) := by decide +kernel
theorem dL_law_1644 : decode cL_law 1644 = .ok (.aload_n 2, 1) := by decide +kernel
theorem dL_law_1645 : decode cL_law 1645 = .ok (.invokevirtual 183, 3) := by decide +kernel
theorem dL_law_1648 : decode cL_law 1648 = .ok (.iload 6, 2) := by decide +kernel
theorem dL_law_1650 : decode cL_law 1650 = .ok (.if_icmp .eq 5, 3) := by decide +kernel
theorem dL_law_1655 : decode cL_law 1655 = .ok (.iload 6, 2) := by decide +kernel
theorem dL_law_1657 : decode cL_law 1657 = .ok (.ifCond .ne 15, 3) := by decide +kernel
theorem dL_law_1672 : decode cL_law 1672 = .ok (.goto 1757, 3) := by decide +kernel
set_option maxHeartbeats 4000000 in
set_option maxRecDepth 100000 in
theorem law_11 {p : Program} {l : Launch} {e : Env} {s : State} {m : MethodId} {below : List Frame} {meth : Method} {c : Code} {Q : State → Prop} {b : Nat} {xs : Nat → Int32} {D : va_G} {e0 : kE} {A : Nat → Prop} (hst : l.stackTraces = false) (hx : p.tables.exec = Jvm.exec) (hb : c.code = cL_law) (hml : c.maxLocals = 9) (hts : ∀ w ∈ lw_tbl, w.before #[Value.ref b] s = true) (hown : s.vm.findClass RL = some m.cls) (hX : va_X b 5 xs s s.heap) (hbl : b < s.heap.size) (hbA : ¬ A b) {xa x1 x2 x3 x4 x5 g1 g2 g3 g4 h1 h2 h3 h4 h5 ma m1 m2 m3 m4 m5 m6 m7 m8 o1 o2 : Nat} {z1 z2 z3 z4 : ClassId}  {H : Heap} {locs : List Loc} {ls : Array Slot} (hh : kH D kStr e0 A s H (lwW e0 xa x1 x2 x3 x4 x5 g1 g2 g3 g4 h1 h2 h3 h4 h5 ma m1 m2 m3 m4 m5 m6 m7 m8 o1 o2 z1 z2 z3 z4) (lwT z1 z2 z3 z4) locs) (hl : lv_has ls 9 (lwL b xa ma o1 o2)) (kk : lwK p l e s m below meth c Q b A) : W p l e room_1 s m #[Value.ref b] below meth c H locs 100 10000 Q (F0 m 1032 ls []) := by
  have hh : kH D kStr e0 A s H [(xa, .inr (11, [.ref x1, .int 0, .ref x2, .int 0, .ref x3, .ref x4, .ref x5, .int 0])), (ma, .inr (16, [.int 0, .ref m1, .ref m2, .ref m3, .ref m4, .ref m5, .ref m6, .ref m7, .ref m8, .int 0, .int 0])), (m2, .inr (4, [.int 0, .ref e0.1, .int 0])), (o1, .inl (z3, 1, .inr (.inl (fun _ => 0))))] [(z3, .long)] _ := hh.sub [0, 5, 7, 14] [2] rfl rfl rfl
  have hl : lv_has ls 9 [(5, .int 0), (4, .ref o2), (3, .ref o1), (2, .ref ma), (1, .ref xa), (0, .ref b)] := hl
  refine lv_aload_n hx hb dL_law_1032 rfl (lv_at hl 4 rfl) ?_
  refine lv_aload_n hx hb dL_law_1033 rfl (lv_at hl 5 rfl) ?_
  refine lv_iload hx hb dL_law_1034 (lv_at hl 0 rfl) ?_
  refine lv_iconst (v := 1) hx hb dL_law_1036 (by decide) ?_
  refine lv_iadd hx hb dL_law_1037 ?_
  refine W.eq (g2 := F0 m 1038 ls [.int 1, .ref b, .ref xa]) (by first | rfl | decide) ?_
  refine va_sld hx hb hX hbl hbA hh.2.2.2.1 (by unfold vp_in; decide) dL_law_1038 ?_
  refine W.eq (g2 := F0 m 1039 ls [.int (xs 1), .ref xa]) rfl ?_
  refine lv_aload_n hx hb dL_law_1039 rfl (lv_at hl 5 rfl) ?_
  refine lv_iload hx hb dL_law_1040 (lv_at hl 0 rfl) ?_
  refine lv_iconst (v := 2) hx hb dL_law_1042 (by decide) ?_
  refine lv_iadd hx hb dL_law_1043 ?_
  refine W.eq (g2 := F0 m 1044 ls [.int 2, .ref b, .int (xs 1), .ref xa]) (by first | rfl | decide) ?_
  refine va_sld hx hb hX hbl hbA hh.2.2.2.1 (by unfold vp_in; decide) dL_law_1044 ?_
  refine W.eq (g2 := F0 m 1045 ls [.int (xs 2), .int (xs 1), .ref xa]) rfl ?_
  refine lv_aload_n hx hb dL_law_1045 rfl (lv_at hl 2 rfl) ?_
  refine k_callSX (wr := [(ma, .inr (16, [.int 0, .ref m1, .ref m2, .ref m3, .ref m4, .ref m5, .ref m6, .ref m7, .ref m8, .int 0, .int 0])), (m2, .inr (4, [.int 0, .ref e0.1, .int 0]))]) (rest := []) (own := RL) ⟨hx, hb, hml, hown, hts⟩ (c_L_dither l hst D e0 xa x1 x2 x3 x4 x5 ((xs 1)) ((xs 2)) o1 z3 ((fun _ => 0)) ) (vx_cwSW 4 hts gl_S_c_L_dither rfl rfl rfl (by decide +kernel) ⟨Nat.le_of_ble_eq_true rfl, Nat.le_of_ble_eq_true rfl⟩) hh [0, 3] [1, 2] [0] rfl rfl rfl rfl (by decide) rfl rfl hl rfl (Nat.le_of_ble_eq_true rfl) dL_law_1046 ⟨Nat.le_of_ble_eq_true rfl, (Nat.le_of_ble_eq_true rfl)⟩ (fun _ _ _ _ _ h => h.elim) (fun v w ty1 H locs hp hh => ?_)
  obtain ⟨rfl, rfl, rfl⟩ := hp
  have hh : kH D kStr e0 A s H [(ma, .inr (16, [.int 0, .ref m1, .ref m2, .ref m3, .ref m4, .ref m5, .ref m6, .ref m7, .ref m8, .int 0, .int 0])), (m2, .inr (4, [.int 0, .ref e0.1, .int 0])), (o1, .inl (z3, 1, .inr (.inl (fun _ => 0))))] [(z3, .long), (z3, .long)] _ := hh
  refine W.eq (g2 := F0 m 1049 ls [.int 1]) (by first | rfl | decide) ?_
  refine lv_istore (lv' := [(6, .int 1), (5, .int 0), (4, .ref o2), (3, .ref o1), (2, .ref ma), (1, .ref xa), (0, .ref b)]) hx hb dL_law_1049 hl (by decide) rfl (fun ls hl => ?_)
  refine lv_aload_n hx hb dL_law_1051 rfl (lv_at hl 4 rfl) ?_
  refine lv_aload_n hx hb dL_law_1052 rfl (lv_at hl 6 rfl) ?_
  refine lv_iload hx hb dL_law_1053 (lv_at hl 1 rfl) ?_
  refine lv_iconst (v := 1) hx hb dL_law_1055 (by decide) ?_
  refine lv_iadd hx hb dL_law_1056 ?_
  refine W.eq (g2 := F0 m 1057 ls [.int 1, .ref b, .ref ma]) (by first | rfl | decide) ?_
  refine va_sld hx hb hX hbl hbA hh.2.2.2.1 (by unfold vp_in; decide) dL_law_1057 ?_
  refine W.eq (g2 := F0 m 1058 ls [.int (xs 1), .ref ma]) rfl ?_
  refine lv_aload_n hx hb dL_law_1058 rfl (lv_at hl 6 rfl) ?_
  refine lv_iload hx hb dL_law_1059 (lv_at hl 1 rfl) ?_
  refine lv_iconst (v := 2) hx hb dL_law_1061 (by decide) ?_
  refine lv_iadd hx hb dL_law_1062 ?_
  refine W.eq (g2 := F0 m 1063 ls [.int 2, .ref b, .int (xs 1), .ref ma]) (by first | rfl | decide) ?_
  refine va_sld hx hb hX hbl hbA hh.2.2.2.1 (by unfold vp_in; decide) dL_law_1063 ?_
  refine W.eq (g2 := F0 m 1064 ls [.int (xs 2), .int (xs 1), .ref ma]) rfl ?_
  refine k_callV (C := RX11) (T := TX11) (N := 11) (ci := 16) (q0 := 0) (wr := [(o1, .inl (z3, 1, .inr (.inl (fun _ => 0))))]) (rest := []) (own := RL) ⟨hx, hb, hml, hown, hts⟩ (c_X11_dither l hst D e0 ma 0 m1 m2 m3 m4 m5 m6 m7 m8 ((xs 1)) ((xs 2)) ) (cwV 2 hts gl_V_c_X11_dither rfl rfl rfl (by decide +kernel) ⟨Nat.le_of_ble_eq_true rfl, Nat.le_of_ble_eq_true rfl⟩) hh rfl rfl [0, 1] [2] [] rfl rfl rfl rfl (by decide) rfl rfl hl rfl (Nat.le_of_ble_eq_true rfl) dL_law_1064 ⟨Nat.le_of_ble_eq_true rfl, (Nat.le_of_ble_eq_true rfl)⟩ (fun _ _ _ _ _ h => h.elim) (fun v w ty1 H locs hp hh => ?_)
  obtain ⟨rfl, rfl, rfl⟩ := hp
  have hh : kH D kStr e0 A s H [(o1, .inl (z3, 1, .inr (.inl (fun _ => 0)))), (ma, .inr (16, [.int 1, .ref m1, .ref m2, .ref m3, .ref m4, .ref m5, .ref m6, .ref m7, .ref m8, .int 0, .int 0]))] [(z3, .long), (z3, .long)] _ := hh
  refine W.eq (g2 := F0 m 1067 ls [.int 0]) (by first | rfl | decide) ?_
  refine lv_istore (lv' := [(7, .int 0), (6, .int 1), (5, .int 0), (4, .ref o2), (3, .ref o1), (2, .ref ma), (1, .ref xa), (0, .ref b)]) hx hb dL_law_1067 hl (by decide) rfl (fun ls hl => ?_)
  refine lv_aload_n hx hb dL_law_1069 rfl (lv_at hl 5 rfl) ?_
  refine k_callV (C := RX11) (T := TX11) (N := 11) (ci := 16) (q0 := 1) (wr := [(o1, .inl (z3, 1, .inr (.inl (fun _ => 0))))]) (rest := []) (own := RL) ⟨hx, hb, hml, hown, hts⟩ (c_X11_thrown l hst D e0 ma 1 m1 m2 m3 m4 m5 m6 m7 m8 ) (cwV 0 hts gl_V_c_X11_thrown rfl rfl rfl (by decide +kernel) ⟨Nat.le_of_ble_eq_true rfl, Nat.le_of_ble_eq_true rfl⟩) hh rfl rfl [1] [0] [] rfl rfl rfl rfl (by decide) rfl rfl hl rfl (Nat.le_of_ble_eq_true rfl) dL_law_1070 ⟨Nat.le_of_ble_eq_true rfl, (Nat.le_of_ble_eq_true rfl)⟩ (fun _ _ _ _ _ h => h.elim) (fun v w ty1 H locs hp hh => ?_)
  obtain ⟨rfl, rfl, rfl⟩ := hp
  have hh : kH D kStr e0 A s H [(o1, .inl (z3, 1, .inr (.inl (fun _ => 0)))), (ma, .inr (16, [.int 1, .ref m1, .ref m2, .ref m3, .ref m4, .ref m5, .ref m6, .ref m7, .ref m8, .int 0, .int 0]))] [(z3, .long), (z3, .long)] _ := hh
  refine W.eq (g2 := F0 m 1073 ls [.int 1]) (by first | rfl | decide) ?_
  refine lv_iload hx hb dL_law_1073 (lv_at hl 1 rfl) ?_
  refine lv_icmp_eq (tgt := 1080) hx hb dL_law_1075 (by decide) (fun _ => ?_) (fun c_1075 => absurd (by decide) c_1075)
  refine lv_iload hx hb dL_law_1080 (lv_at hl 1 rfl) ?_
  refine lv_if_ne (tgt := 1097) hx hb dL_law_1082 (by decide) (fun _ => ?_) (fun c_1082 => absurd c_1082 (by decide))
  refine lv_goto (tgt := 3429) hx hb dL_law_1097 (by decide) ?_
  refine W.widen (k := 1000) (n := 100000) (Nat.le_of_ble_eq_true rfl) (Nat.le_of_ble_eq_true rfl) ?_
  exact kk _ _ _ hh.2.2.2.1 (lv_sub hl [7, 2] rfl)
set_option maxHeartbeats 4000000 in
set_option maxRecDepth 100000 in
theorem law_12 {p : Program} {l : Launch} {e : Env} {s : State} {m : MethodId} {below : List Frame} {meth : Method} {c : Code} {Q : State → Prop} {b : Nat} {xs : Nat → Int32} {D : va_G} {e0 : kE} {A : Nat → Prop} (hst : l.stackTraces = false) (hx : p.tables.exec = Jvm.exec) (hb : c.code = cL_law) (hml : c.maxLocals = 9) (hts : ∀ w ∈ lw_tbl, w.before #[Value.ref b] s = true) (hown : s.vm.findClass RL = some m.cls) (hX : va_X b 5 xs s s.heap) (hbl : b < s.heap.size) (hbA : ¬ A b) {xa x1 x2 x3 x4 x5 g1 g2 g3 g4 h1 h2 h3 h4 h5 ma m1 m2 m3 m4 m5 m6 m7 m8 o1 o2 : Nat} {z1 z2 z3 z4 : ClassId}  {H : Heap} {locs : List Loc} {ls : Array Slot} (hh : kH D kStr e0 A s H (lwW e0 xa x1 x2 x3 x4 x5 g1 g2 g3 g4 h1 h2 h3 h4 h5 ma m1 m2 m3 m4 m5 m6 m7 m8 o1 o2 z1 z2 z3 z4) (lwT z1 z2 z3 z4) locs) (hl : lv_has ls 9 (lwL b xa ma o1 o2)) (kk : lwK p l e s m below meth c Q b A) : W p l e room_1 s m #[Value.ref b] below meth c H locs 100 10000 Q (F0 m 1100 ls []) := by
  have hh : kH D kStr e0 A s H [(xa, .inr (11, [.ref x1, .int 0, .ref x2, .int 0, .ref x3, .ref x4, .ref x5, .int 0])), (ma, .inr (16, [.int 0, .ref m1, .ref m2, .ref m3, .ref m4, .ref m5, .ref m6, .ref m7, .ref m8, .int 0, .int 0])), (m2, .inr (4, [.int 0, .ref e0.1, .int 0])), (o1, .inl (z3, 1, .inr (.inl (fun _ => 0))))] [(z3, .long)] _ := hh.sub [0, 5, 7, 14] [2] rfl rfl rfl
  have hl : lv_has ls 9 [(5, .int 0), (4, .ref o2), (3, .ref o1), (2, .ref ma), (1, .ref xa), (0, .ref b)] := hl
  refine lv_aload_n hx hb dL_law_1100 rfl (lv_at hl 4 rfl) ?_
  refine lv_aload_n hx hb dL_law_1101 rfl (lv_at hl 5 rfl) ?_
  refine lv_iload hx hb dL_law_1102 (lv_at hl 0 rfl) ?_
  refine lv_iconst (v := 1) hx hb dL_law_1104 (by decide) ?_
  refine lv_iadd hx hb dL_law_1105 ?_
  refine W.eq (g2 := F0 m 1106 ls [.int 1, .ref b, .ref xa]) (by first | rfl | decide) ?_
  refine va_sld hx hb hX hbl hbA hh.2.2.2.1 (by unfold vp_in; decide) dL_law_1106 ?_
  refine W.eq (g2 := F0 m 1107 ls [.int (xs 1), .ref xa]) rfl ?_
  refine lv_aload_n hx hb dL_law_1107 rfl (lv_at hl 2 rfl) ?_
  refine k_callSX (wr := [(ma, .inr (16, [.int 0, .ref m1, .ref m2, .ref m3, .ref m4, .ref m5, .ref m6, .ref m7, .ref m8, .int 0, .int 0])), (m2, .inr (4, [.int 0, .ref e0.1, .int 0]))]) (rest := []) (own := RL) ⟨hx, hb, hml, hown, hts⟩ (c_L_kindOf l hst D e0 xa x1 x2 x3 x4 x5 ((xs 1)) o1 z3 ((fun _ => 0)) ) (vx_cwSW 3 hts gl_S_c_L_kindOf rfl rfl rfl (by decide +kernel) ⟨Nat.le_of_ble_eq_true rfl, Nat.le_of_ble_eq_true rfl⟩) hh [0, 3] [1, 2] [0] rfl rfl rfl rfl (by decide) rfl rfl hl rfl (Nat.le_of_ble_eq_true rfl) dL_law_1108 ⟨Nat.le_of_ble_eq_true rfl, (Nat.le_of_ble_eq_true rfl)⟩ (fun _ _ _ _ _ h => h.elim) (fun v w ty1 H locs hp hh => ?_)
  obtain ⟨rfl, rfl, rfl⟩ := hp
  have hh : kH D kStr e0 A s H [(ma, .inr (16, [.int 0, .ref m1, .ref m2, .ref m3, .ref m4, .ref m5, .ref m6, .ref m7, .ref m8, .int 0, .int 0])), (m2, .inr (4, [.int 0, .ref e0.1, .int 0])), (o1, .inl (z3, 1, .inr (.inl (fun _ => 0))))] [(z3, .long), (z3, .long)] _ := hh
  refine W.eq (g2 := F0 m 1111 ls [.int 1]) (by first | rfl | decide) ?_
  refine lv_istore (lv' := [(6, .int 1), (5, .int 0), (4, .ref o2), (3, .ref o1), (2, .ref ma), (1, .ref xa), (0, .ref b)]) hx hb dL_law_1111 hl (by decide) rfl (fun ls hl => ?_)
  refine lv_aload_n hx hb dL_law_1113 rfl (lv_at hl 4 rfl) ?_
  refine lv_aload_n hx hb dL_law_1114 rfl (lv_at hl 6 rfl) ?_
  refine lv_iload hx hb dL_law_1115 (lv_at hl 1 rfl) ?_
  refine lv_iconst (v := 1) hx hb dL_law_1117 (by decide) ?_
  refine lv_iadd hx hb dL_law_1118 ?_
  refine W.eq (g2 := F0 m 1119 ls [.int 1, .ref b, .ref ma]) (by first | rfl | decide) ?_
  refine va_sld hx hb hX hbl hbA hh.2.2.2.1 (by unfold vp_in; decide) dL_law_1119 ?_
  refine W.eq (g2 := F0 m 1120 ls [.int (xs 1), .ref ma]) rfl ?_
  refine k_callV (C := RX11) (T := TX11) (N := 11) (ci := 16) (q0 := 0) (wr := [(o1, .inl (z3, 1, .inr (.inl (fun _ => 0))))]) (rest := []) (own := RL) ⟨hx, hb, hml, hown, hts⟩ (c_X11_kindOf l hst D e0 ma 0 m1 m2 m3 m4 m5 m6 m7 m8 ((xs 1)) ) (cwV 1 hts gl_V_c_X11_kindOf rfl rfl rfl (by decide +kernel) ⟨Nat.le_of_ble_eq_true rfl, Nat.le_of_ble_eq_true rfl⟩) hh rfl rfl [0, 1] [2] [] rfl rfl rfl rfl (by decide) rfl rfl hl rfl (Nat.le_of_ble_eq_true rfl) dL_law_1120 ⟨Nat.le_of_ble_eq_true rfl, (Nat.le_of_ble_eq_true rfl)⟩ (fun _ _ _ _ _ h => h.elim) (fun v w ty1 H locs hp hh => ?_)
  obtain ⟨rfl, rfl, rfl⟩ := hp
  have hh : kH D kStr e0 A s H [(o1, .inl (z3, 1, .inr (.inl (fun _ => 0)))), (ma, .inr (16, [.int 1, .ref m1, .ref m2, .ref m3, .ref m4, .ref m5, .ref m6, .ref m7, .ref m8, .int 0, .int 0]))] [(z3, .long), (z3, .long)] _ := hh
  refine W.eq (g2 := F0 m 1123 ls [.int 32]) (by first | rfl | decide) ?_
  refine lv_istore (lv' := [(7, .int 32), (6, .int 1), (5, .int 0), (4, .ref o2), (3, .ref o1), (2, .ref ma), (1, .ref xa), (0, .ref b)]) hx hb dL_law_1123 hl (by decide) rfl (fun ls hl => ?_)
  refine lv_aload_n hx hb dL_law_1125 rfl (lv_at hl 5 rfl) ?_
  refine k_callV (C := RX11) (T := TX11) (N := 11) (ci := 16) (q0 := 1) (wr := [(o1, .inl (z3, 1, .inr (.inl (fun _ => 0))))]) (rest := []) (own := RL) ⟨hx, hb, hml, hown, hts⟩ (c_X11_thrown l hst D e0 ma 1 m1 m2 m3 m4 m5 m6 m7 m8 ) (cwV 0 hts gl_V_c_X11_thrown rfl rfl rfl (by decide +kernel) ⟨Nat.le_of_ble_eq_true rfl, Nat.le_of_ble_eq_true rfl⟩) hh rfl rfl [1] [0] [] rfl rfl rfl rfl (by decide) rfl rfl hl rfl (Nat.le_of_ble_eq_true rfl) dL_law_1126 ⟨Nat.le_of_ble_eq_true rfl, (Nat.le_of_ble_eq_true rfl)⟩ (fun _ _ _ _ _ h => h.elim) (fun v w ty1 H locs hp hh => ?_)
  obtain ⟨rfl, rfl, rfl⟩ := hp
  have hh : kH D kStr e0 A s H [(o1, .inl (z3, 1, .inr (.inl (fun _ => 0)))), (ma, .inr (16, [.int 1, .ref m1, .ref m2, .ref m3, .ref m4, .ref m5, .ref m6, .ref m7, .ref m8, .int 0, .int 0]))] [(z3, .long), (z3, .long)] _ := hh
  refine W.eq (g2 := F0 m 1129 ls [.int 1]) (by first | rfl | decide) ?_
  refine lv_iload hx hb dL_law_1129 (lv_at hl 1 rfl) ?_
  refine lv_icmp_eq (tgt := 1136) hx hb dL_law_1131 (by decide) (fun _ => ?_) (fun c_1131 => absurd (by decide) c_1131)
  refine lv_iload hx hb dL_law_1136 (lv_at hl 1 rfl) ?_
  refine lv_if_ne (tgt := 1153) hx hb dL_law_1138 (by decide) (fun _ => ?_) (fun c_1138 => absurd c_1138 (by decide))
  refine lv_goto (tgt := 3429) hx hb dL_law_1153 (by decide) ?_
  refine W.widen (k := 1000) (n := 100000) (Nat.le_of_ble_eq_true rfl) (Nat.le_of_ble_eq_true rfl) ?_
  exact kk _ _ _ hh.2.2.2.1 (lv_sub hl [7, 2] rfl)
set_option maxHeartbeats 4000000 in
set_option maxRecDepth 100000 in
theorem law_13 {p : Program} {l : Launch} {e : Env} {s : State} {m : MethodId} {below : List Frame} {meth : Method} {c : Code} {Q : State → Prop} {b : Nat} {xs : Nat → Int32} {D : va_G} {e0 : kE} {A : Nat → Prop} (hst : l.stackTraces = false) (hx : p.tables.exec = Jvm.exec) (hb : c.code = cL_law) (hml : c.maxLocals = 9) (hts : ∀ w ∈ lw_tbl, w.before #[Value.ref b] s = true) (hown : s.vm.findClass RL = some m.cls) (hX : va_X b 5 xs s s.heap) (hbl : b < s.heap.size) (hbA : ¬ A b) {xa x1 x2 x3 x4 x5 g1 g2 g3 g4 h1 h2 h3 h4 h5 ma m1 m2 m3 m4 m5 m6 m7 m8 o1 o2 : Nat} {z1 z2 z3 z4 : ClassId}  {H : Heap} {locs : List Loc} {ls : Array Slot} (hh : kH D kStr e0 A s H (lwW e0 xa x1 x2 x3 x4 x5 g1 g2 g3 g4 h1 h2 h3 h4 h5 ma m1 m2 m3 m4 m5 m6 m7 m8 o1 o2 z1 z2 z3 z4) (lwT z1 z2 z3 z4) locs) (hl : lv_has ls 9 (lwL b xa ma o1 o2)) (kk : lwK p l e s m below meth c Q b A) : W p l e room_1 s m #[Value.ref b] below meth c H locs 100 10000 Q (F0 m 1156 ls []) := by
  have hh : kH D kStr e0 A s H [(xa, .inr (11, [.ref x1, .int 0, .ref x2, .int 0, .ref x3, .ref x4, .ref x5, .int 0])), (ma, .inr (16, [.int 0, .ref m1, .ref m2, .ref m3, .ref m4, .ref m5, .ref m6, .ref m7, .ref m8, .int 0, .int 0])), (m2, .inr (4, [.int 0, .ref e0.1, .int 0])), (o1, .inl (z3, 1, .inr (.inl (fun _ => 0))))] [(z3, .long)] _ := hh.sub [0, 5, 7, 14] [2] rfl rfl rfl
  have hl : lv_has ls 9 [(5, .int 0), (4, .ref o2), (3, .ref o1), (2, .ref ma), (1, .ref xa), (0, .ref b)] := hl
  refine lv_aload_n hx hb dL_law_1156 rfl (lv_at hl 4 rfl) ?_
  refine lv_aload_n hx hb dL_law_1157 rfl (lv_at hl 5 rfl) ?_
  refine lv_iload hx hb dL_law_1158 (lv_at hl 0 rfl) ?_
  refine lv_iconst (v := 1) hx hb dL_law_1160 (by decide) ?_
  refine lv_iadd hx hb dL_law_1161 ?_
  refine W.eq (g2 := F0 m 1162 ls [.int 1, .ref b, .ref xa]) (by first | rfl | decide) ?_
  refine va_sld hx hb hX hbl hbA hh.2.2.2.1 (by unfold vp_in; decide) dL_law_1162 ?_
  refine W.eq (g2 := F0 m 1163 ls [.int (xs 1), .ref xa]) rfl ?_
  refine lv_aload_n hx hb dL_law_1163 rfl (lv_at hl 2 rfl) ?_
  refine k_callSX (wr := [(ma, .inr (16, [.int 0, .ref m1, .ref m2, .ref m3, .ref m4, .ref m5, .ref m6, .ref m7, .ref m8, .int 0, .int 0])), (m2, .inr (4, [.int 0, .ref e0.1, .int 0]))]) (rest := []) (own := RL) ⟨hx, hb, hml, hown, hts⟩ (c_L_lengthOf l hst D e0 xa x1 x2 x3 x4 x5 ((xs 1)) o1 z3 ((fun _ => 0)) ) (vx_cwSW 3 hts gl_S_c_L_lengthOf rfl rfl rfl (by decide +kernel) ⟨Nat.le_of_ble_eq_true rfl, Nat.le_of_ble_eq_true rfl⟩) hh [0, 3] [1, 2] [0] rfl rfl rfl rfl (by decide) rfl rfl hl rfl (Nat.le_of_ble_eq_true rfl) dL_law_1164 ⟨Nat.le_of_ble_eq_true rfl, (Nat.le_of_ble_eq_true rfl)⟩ (fun _ _ _ _ _ h => h.elim) (fun v w ty1 H locs hp hh => ?_)
  obtain ⟨rfl, rfl, rfl⟩ := hp
  have hh : kH D kStr e0 A s H [(ma, .inr (16, [.int 0, .ref m1, .ref m2, .ref m3, .ref m4, .ref m5, .ref m6, .ref m7, .ref m8, .int 0, .int 0])), (m2, .inr (4, [.int 0, .ref e0.1, .int 0])), (o1, .inl (z3, 1, .inr (.inl (fun _ => 0))))] [(z3, .long), (z3, .long)] _ := hh
  refine W.eq (g2 := F0 m 1167 ls [.int 1]) (by first | rfl | decide) ?_
  refine lv_istore (lv' := [(6, .int 1), (5, .int 0), (4, .ref o2), (3, .ref o1), (2, .ref ma), (1, .ref xa), (0, .ref b)]) hx hb dL_law_1167 hl (by decide) rfl (fun ls hl => ?_)
  refine lv_aload_n hx hb dL_law_1169 rfl (lv_at hl 4 rfl) ?_
  refine lv_aload_n hx hb dL_law_1170 rfl (lv_at hl 6 rfl) ?_
  refine lv_iload hx hb dL_law_1171 (lv_at hl 1 rfl) ?_
  refine lv_iconst (v := 1) hx hb dL_law_1173 (by decide) ?_
  refine lv_iadd hx hb dL_law_1174 ?_
  refine W.eq (g2 := F0 m 1175 ls [.int 1, .ref b, .ref ma]) (by first | rfl | decide) ?_
  refine va_sld hx hb hX hbl hbA hh.2.2.2.1 (by unfold vp_in; decide) dL_law_1175 ?_
  refine W.eq (g2 := F0 m 1176 ls [.int (xs 1), .ref ma]) rfl ?_
  refine k_callV (C := RX11) (T := TX11) (N := 11) (ci := 16) (q0 := 0) (wr := [(o1, .inl (z3, 1, .inr (.inl (fun _ => 0))))]) (rest := []) (own := RL) ⟨hx, hb, hml, hown, hts⟩ (c_X11_lengthOf l hst D e0 ma 0 m1 m2 m3 m4 m5 m6 m7 m8 ((xs 1)) ) (cwV 1 hts gl_V_c_X11_lengthOf rfl rfl rfl (by decide +kernel) ⟨Nat.le_of_ble_eq_true rfl, Nat.le_of_ble_eq_true rfl⟩) hh rfl rfl [0, 1] [2] [] rfl rfl rfl rfl (by decide) rfl rfl hl rfl (Nat.le_of_ble_eq_true rfl) dL_law_1176 ⟨Nat.le_of_ble_eq_true rfl, (Nat.le_of_ble_eq_true rfl)⟩ (fun _ _ _ _ _ h => h.elim) (fun v w ty1 H locs hp hh => ?_)
  obtain ⟨rfl, rfl, rfl⟩ := hp
  have hh : kH D kStr e0 A s H [(o1, .inl (z3, 1, .inr (.inl (fun _ => 0)))), (ma, .inr (16, [.int 1, .ref m1, .ref m2, .ref m3, .ref m4, .ref m5, .ref m6, .ref m7, .ref m8, .int 0, .int 0]))] [(z3, .long), (z3, .long)] _ := hh
  refine W.eq (g2 := F0 m 1179 ls [.int 0]) (by first | rfl | decide) ?_
  refine lv_istore (lv' := [(7, .int 0), (6, .int 1), (5, .int 0), (4, .ref o2), (3, .ref o1), (2, .ref ma), (1, .ref xa), (0, .ref b)]) hx hb dL_law_1179 hl (by decide) rfl (fun ls hl => ?_)
  refine lv_aload_n hx hb dL_law_1181 rfl (lv_at hl 5 rfl) ?_
  refine k_callV (C := RX11) (T := TX11) (N := 11) (ci := 16) (q0 := 1) (wr := [(o1, .inl (z3, 1, .inr (.inl (fun _ => 0))))]) (rest := []) (own := RL) ⟨hx, hb, hml, hown, hts⟩ (c_X11_thrown l hst D e0 ma 1 m1 m2 m3 m4 m5 m6 m7 m8 ) (cwV 0 hts gl_V_c_X11_thrown rfl rfl rfl (by decide +kernel) ⟨Nat.le_of_ble_eq_true rfl, Nat.le_of_ble_eq_true rfl⟩) hh rfl rfl [1] [0] [] rfl rfl rfl rfl (by decide) rfl rfl hl rfl (Nat.le_of_ble_eq_true rfl) dL_law_1182 ⟨Nat.le_of_ble_eq_true rfl, (Nat.le_of_ble_eq_true rfl)⟩ (fun _ _ _ _ _ h => h.elim) (fun v w ty1 H locs hp hh => ?_)
  obtain ⟨rfl, rfl, rfl⟩ := hp
  have hh : kH D kStr e0 A s H [(o1, .inl (z3, 1, .inr (.inl (fun _ => 0)))), (ma, .inr (16, [.int 1, .ref m1, .ref m2, .ref m3, .ref m4, .ref m5, .ref m6, .ref m7, .ref m8, .int 0, .int 0]))] [(z3, .long), (z3, .long)] _ := hh
  refine W.eq (g2 := F0 m 1185 ls [.int 1]) (by first | rfl | decide) ?_
  refine lv_iload hx hb dL_law_1185 (lv_at hl 1 rfl) ?_
  refine lv_icmp_eq (tgt := 1192) hx hb dL_law_1187 (by decide) (fun _ => ?_) (fun c_1187 => absurd (by decide) c_1187)
  refine lv_iload hx hb dL_law_1192 (lv_at hl 1 rfl) ?_
  refine lv_if_ne (tgt := 1209) hx hb dL_law_1194 (by decide) (fun _ => ?_) (fun c_1194 => absurd c_1194 (by decide))
  refine lv_goto (tgt := 3429) hx hb dL_law_1209 (by decide) ?_
  refine W.widen (k := 1000) (n := 100000) (Nat.le_of_ble_eq_true rfl) (Nat.le_of_ble_eq_true rfl) ?_
  exact kk _ _ _ hh.2.2.2.1 (lv_sub hl [7, 2] rfl)
set_option maxHeartbeats 4000000 in
set_option maxRecDepth 100000 in
theorem law_14 {p : Program} {l : Launch} {e : Env} {s : State} {m : MethodId} {below : List Frame} {meth : Method} {c : Code} {Q : State → Prop} {b : Nat} {xs : Nat → Int32} {D : va_G} {e0 : kE} {A : Nat → Prop} (hst : l.stackTraces = false) (hx : p.tables.exec = Jvm.exec) (hb : c.code = cL_law) (hml : c.maxLocals = 9) (hts : ∀ w ∈ lw_tbl, w.before #[Value.ref b] s = true) (hown : s.vm.findClass RL = some m.cls) (hX : va_X b 5 xs s s.heap) (hbl : b < s.heap.size) (hbA : ¬ A b) {xa x1 x2 x3 x4 x5 g1 g2 g3 g4 h1 h2 h3 h4 h5 ma m1 m2 m3 m4 m5 m6 m7 m8 o1 o2 : Nat} {z1 z2 z3 z4 : ClassId}  {H : Heap} {locs : List Loc} {ls : Array Slot} (hh : kH D kStr e0 A s H (lwW e0 xa x1 x2 x3 x4 x5 g1 g2 g3 g4 h1 h2 h3 h4 h5 ma m1 m2 m3 m4 m5 m6 m7 m8 o1 o2 z1 z2 z3 z4) (lwT z1 z2 z3 z4) locs) (hl : lv_has ls 9 (lwL b xa ma o1 o2)) (kk : lwK p l e s m below meth c Q b A) : W p l e room_1 s m #[Value.ref b] below meth c H locs 100 10000 Q (F0 m 1212 ls []) := by
  have hh : kH D kStr e0 A s H [(xa, .inr (11, [.ref x1, .int 0, .ref x2, .int 0, .ref x3, .ref x4, .ref x5, .int 0])), (ma, .inr (16, [.int 0, .ref m1, .ref m2, .ref m3, .ref m4, .ref m5, .ref m6, .ref m7, .ref m8, .int 0, .int 0])), (m2, .inr (4, [.int 0, .ref e0.1, .int 0])), (o1, .inl (z3, 1, .inr (.inl (fun _ => 0))))] [(z3, .long)] _ := hh.sub [0, 5, 7, 14] [2] rfl rfl rfl
  have hl : lv_has ls 9 [(5, .int 0), (4, .ref o2), (3, .ref o1), (2, .ref ma), (1, .ref xa), (0, .ref b)] := hl
  refine lv_aload_n hx hb dL_law_1212 rfl (lv_at hl 4 rfl) ?_
  refine lv_aload_n hx hb dL_law_1213 rfl (lv_at hl 5 rfl) ?_
  refine lv_iload hx hb dL_law_1214 (lv_at hl 0 rfl) ?_
  refine lv_iconst (v := 1) hx hb dL_law_1216 (by decide) ?_
  refine lv_iadd hx hb dL_law_1217 ?_
  refine W.eq (g2 := F0 m 1218 ls [.int 1, .ref b, .ref xa]) (by first | rfl | decide) ?_
  refine va_sld hx hb hX hbl hbA hh.2.2.2.1 (by unfold vp_in; decide) dL_law_1218 ?_
  refine W.eq (g2 := F0 m 1219 ls [.int (xs 1), .ref xa]) rfl ?_
  refine lv_aload_n hx hb dL_law_1219 rfl (lv_at hl 5 rfl) ?_
  refine lv_iload hx hb dL_law_1220 (lv_at hl 0 rfl) ?_
  refine lv_iconst (v := 2) hx hb dL_law_1222 (by decide) ?_
  refine lv_iadd hx hb dL_law_1223 ?_
  refine W.eq (g2 := F0 m 1224 ls [.int 2, .ref b, .int (xs 1), .ref xa]) (by first | rfl | decide) ?_
  refine va_sld hx hb hX hbl hbA hh.2.2.2.1 (by unfold vp_in; decide) dL_law_1224 ?_
  refine W.eq (g2 := F0 m 1225 ls [.int (xs 2), .int (xs 1), .ref xa]) rfl ?_
  refine lv_aload_n hx hb dL_law_1225 rfl (lv_at hl 2 rfl) ?_
  refine k_callSX (wr := [(ma, .inr (16, [.int 0, .ref m1, .ref m2, .ref m3, .ref m4, .ref m5, .ref m6, .ref m7, .ref m8, .int 0, .int 0])), (m2, .inr (4, [.int 0, .ref e0.1, .int 0]))]) (rest := []) (own := RL) ⟨hx, hb, hml, hown, hts⟩ (c_L_sampleOf l hst D e0 xa x1 x2 x3 x4 x5 ((xs 1)) ((xs 2)) o1 z3 ((fun _ => 0)) ) (vx_cwSW 4 hts gl_S_c_L_sampleOf rfl rfl rfl (by decide +kernel) ⟨Nat.le_of_ble_eq_true rfl, Nat.le_of_ble_eq_true rfl⟩) hh [0, 3] [1, 2] [0] rfl rfl rfl rfl (by decide) rfl rfl hl rfl (Nat.le_of_ble_eq_true rfl) dL_law_1226 ⟨Nat.le_of_ble_eq_true rfl, (Nat.le_of_ble_eq_true rfl)⟩ (fun _ _ _ _ _ h => h.elim) (fun v w ty1 H locs hp hh => ?_)
  obtain ⟨rfl, rfl, rfl⟩ := hp
  have hh : kH D kStr e0 A s H [(ma, .inr (16, [.int 0, .ref m1, .ref m2, .ref m3, .ref m4, .ref m5, .ref m6, .ref m7, .ref m8, .int 0, .int 0])), (m2, .inr (4, [.int 0, .ref e0.1, .int 0])), (o1, .inl (z3, 1, .inr (.inl (fun _ => 0))))] [(z3, .long), (z3, .long)] _ := hh
  refine W.eq (g2 := F0 m 1229 ls [.int 1]) (by first | rfl | decide) ?_
  refine lv_istore (lv' := [(6, .int 1), (5, .int 0), (4, .ref o2), (3, .ref o1), (2, .ref ma), (1, .ref xa), (0, .ref b)]) hx hb dL_law_1229 hl (by decide) rfl (fun ls hl => ?_)
  refine lv_aload_n hx hb dL_law_1231 rfl (lv_at hl 4 rfl) ?_
  refine lv_aload_n hx hb dL_law_1232 rfl (lv_at hl 6 rfl) ?_
  refine lv_iload hx hb dL_law_1233 (lv_at hl 1 rfl) ?_
  refine lv_iconst (v := 1) hx hb dL_law_1235 (by decide) ?_
  refine lv_iadd hx hb dL_law_1236 ?_
  refine W.eq (g2 := F0 m 1237 ls [.int 1, .ref b, .ref ma]) (by first | rfl | decide) ?_
  refine va_sld hx hb hX hbl hbA hh.2.2.2.1 (by unfold vp_in; decide) dL_law_1237 ?_
  refine W.eq (g2 := F0 m 1238 ls [.int (xs 1), .ref ma]) rfl ?_
  refine lv_aload_n hx hb dL_law_1238 rfl (lv_at hl 6 rfl) ?_
  refine lv_iload hx hb dL_law_1239 (lv_at hl 1 rfl) ?_
  refine lv_iconst (v := 2) hx hb dL_law_1241 (by decide) ?_
  refine lv_iadd hx hb dL_law_1242 ?_
  refine W.eq (g2 := F0 m 1243 ls [.int 2, .ref b, .int (xs 1), .ref ma]) (by first | rfl | decide) ?_
  refine va_sld hx hb hX hbl hbA hh.2.2.2.1 (by unfold vp_in; decide) dL_law_1243 ?_
  refine W.eq (g2 := F0 m 1244 ls [.int (xs 2), .int (xs 1), .ref ma]) rfl ?_
  refine k_callV (C := RX11) (T := TX11) (N := 11) (ci := 16) (q0 := 0) (wr := [(o1, .inl (z3, 1, .inr (.inl (fun _ => 0))))]) (rest := []) (own := RL) ⟨hx, hb, hml, hown, hts⟩ (c_X11_sampleOf l hst D e0 ma 0 m1 m2 m3 m4 m5 m6 m7 m8 ((xs 1)) ((xs 2)) ) (cwV 2 hts gl_V_c_X11_sampleOf rfl rfl rfl (by decide +kernel) ⟨Nat.le_of_ble_eq_true rfl, Nat.le_of_ble_eq_true rfl⟩) hh rfl rfl [0, 1] [2] [] rfl rfl rfl rfl (by decide) rfl rfl hl rfl (Nat.le_of_ble_eq_true rfl) dL_law_1244 ⟨Nat.le_of_ble_eq_true rfl, (Nat.le_of_ble_eq_true rfl)⟩ (fun _ _ _ _ _ h => h.elim) (fun v w ty1 H locs hp hh => ?_)
  obtain ⟨rfl, rfl, rfl⟩ := hp
  have hh : kH D kStr e0 A s H [(o1, .inl (z3, 1, .inr (.inl (fun _ => 0)))), (ma, .inr (16, [.int 1, .ref m1, .ref m2, .ref m3, .ref m4, .ref m5, .ref m6, .ref m7, .ref m8, .int 0, .int 0]))] [(z3, .long), (z3, .long)] _ := hh
  refine W.eq (g2 := F0 m 1247 ls [.int 0]) (by first | rfl | decide) ?_
  refine lv_istore (lv' := [(7, .int 0), (6, .int 1), (5, .int 0), (4, .ref o2), (3, .ref o1), (2, .ref ma), (1, .ref xa), (0, .ref b)]) hx hb dL_law_1247 hl (by decide) rfl (fun ls hl => ?_)
  refine lv_aload_n hx hb dL_law_1249 rfl (lv_at hl 5 rfl) ?_
  refine k_callV (C := RX11) (T := TX11) (N := 11) (ci := 16) (q0 := 1) (wr := [(o1, .inl (z3, 1, .inr (.inl (fun _ => 0))))]) (rest := []) (own := RL) ⟨hx, hb, hml, hown, hts⟩ (c_X11_thrown l hst D e0 ma 1 m1 m2 m3 m4 m5 m6 m7 m8 ) (cwV 0 hts gl_V_c_X11_thrown rfl rfl rfl (by decide +kernel) ⟨Nat.le_of_ble_eq_true rfl, Nat.le_of_ble_eq_true rfl⟩) hh rfl rfl [1] [0] [] rfl rfl rfl rfl (by decide) rfl rfl hl rfl (Nat.le_of_ble_eq_true rfl) dL_law_1250 ⟨Nat.le_of_ble_eq_true rfl, (Nat.le_of_ble_eq_true rfl)⟩ (fun _ _ _ _ _ h => h.elim) (fun v w ty1 H locs hp hh => ?_)
  obtain ⟨rfl, rfl, rfl⟩ := hp
  have hh : kH D kStr e0 A s H [(o1, .inl (z3, 1, .inr (.inl (fun _ => 0)))), (ma, .inr (16, [.int 1, .ref m1, .ref m2, .ref m3, .ref m4, .ref m5, .ref m6, .ref m7, .ref m8, .int 0, .int 0]))] [(z3, .long), (z3, .long)] _ := hh
  refine W.eq (g2 := F0 m 1253 ls [.int 1]) (by first | rfl | decide) ?_
  refine lv_iload hx hb dL_law_1253 (lv_at hl 1 rfl) ?_
  refine lv_icmp_eq (tgt := 1260) hx hb dL_law_1255 (by decide) (fun _ => ?_) (fun c_1255 => absurd (by decide) c_1255)
  refine lv_iload hx hb dL_law_1260 (lv_at hl 1 rfl) ?_
  refine lv_if_ne (tgt := 1277) hx hb dL_law_1262 (by decide) (fun _ => ?_) (fun c_1262 => absurd c_1262 (by decide))
  refine lv_goto (tgt := 3429) hx hb dL_law_1277 (by decide) ?_
  refine W.widen (k := 1000) (n := 100000) (Nat.le_of_ble_eq_true rfl) (Nat.le_of_ble_eq_true rfl) ?_
  exact kk _ _ _ hh.2.2.2.1 (lv_sub hl [7, 2] rfl)
set_option maxHeartbeats 4000000 in
set_option maxRecDepth 100000 in
theorem law_15 {p : Program} {l : Launch} {e : Env} {s : State} {m : MethodId} {below : List Frame} {meth : Method} {c : Code} {Q : State → Prop} {b : Nat} {xs : Nat → Int32} {D : va_G} {e0 : kE} {A : Nat → Prop} (hst : l.stackTraces = false) (hx : p.tables.exec = Jvm.exec) (hb : c.code = cL_law) (hml : c.maxLocals = 9) (hts : ∀ w ∈ lw_tbl, w.before #[Value.ref b] s = true) (hown : s.vm.findClass RL = some m.cls) (hX : va_X b 5 xs s s.heap) (hbl : b < s.heap.size) (hbA : ¬ A b) {xa x1 x2 x3 x4 x5 g1 g2 g3 g4 h1 h2 h3 h4 h5 ma m1 m2 m3 m4 m5 m6 m7 m8 o1 o2 : Nat} {z1 z2 z3 z4 : ClassId}  {H : Heap} {locs : List Loc} {ls : Array Slot} (hh : kH D kStr e0 A s H (lwW e0 xa x1 x2 x3 x4 x5 g1 g2 g3 g4 h1 h2 h3 h4 h5 ma m1 m2 m3 m4 m5 m6 m7 m8 o1 o2 z1 z2 z3 z4) (lwT z1 z2 z3 z4) locs) (hl : lv_has ls 9 (lwL b xa ma o1 o2)) (kk : lwK p l e s m below meth c Q b A) : W p l e room_1 s m #[Value.ref b] below meth c H locs 100 10000 Q (F0 m 1280 ls []) := by
  have hh : kH D kStr e0 A s H [(xa, .inr (11, [.ref x1, .int 0, .ref x2, .int 0, .ref x3, .ref x4, .ref x5, .int 0])), (ma, .inr (16, [.int 0, .ref m1, .ref m2, .ref m3, .ref m4, .ref m5, .ref m6, .ref m7, .ref m8, .int 0, .int 0])), (m2, .inr (4, [.int 0, .ref e0.1, .int 0])), (o1, .inl (z3, 1, .inr (.inl (fun _ => 0))))] [(z3, .long)] _ := hh.sub [0, 5, 7, 14] [2] rfl rfl rfl
  have hl : lv_has ls 9 [(5, .int 0), (4, .ref o2), (3, .ref o1), (2, .ref ma), (1, .ref xa), (0, .ref b)] := hl
  refine lv_aload_n hx hb dL_law_1280 rfl (lv_at hl 4 rfl) ?_
  refine lv_aload_n hx hb dL_law_1281 rfl (lv_at hl 5 rfl) ?_
  refine lv_iload hx hb dL_law_1282 (lv_at hl 0 rfl) ?_
  refine lv_iconst (v := 1) hx hb dL_law_1284 (by decide) ?_
  refine lv_iadd hx hb dL_law_1285 ?_
  refine W.eq (g2 := F0 m 1286 ls [.int 1, .ref b, .ref xa]) (by first | rfl | decide) ?_
  refine va_sld hx hb hX hbl hbA hh.2.2.2.1 (by unfold vp_in; decide) dL_law_1286 ?_
  refine W.eq (g2 := F0 m 1287 ls [.int (xs 1), .ref xa]) rfl ?_
  refine lv_aload_n hx hb dL_law_1287 rfl (lv_at hl 2 rfl) ?_
  refine k_callSX (wr := [(ma, .inr (16, [.int 0, .ref m1, .ref m2, .ref m3, .ref m4, .ref m5, .ref m6, .ref m7, .ref m8, .int 0, .int 0])), (m2, .inr (4, [.int 0, .ref e0.1, .int 0]))]) (rest := []) (own := RL) ⟨hx, hb, hml, hown, hts⟩ (c_L_loudness l hst D e0 xa x1 x2 x3 x4 x5 ((xs 1)) o1 z3 ((fun _ => 0)) ) (vx_cwSW 3 hts gl_S_c_L_loudness rfl rfl rfl (by decide +kernel) ⟨Nat.le_of_ble_eq_true rfl, Nat.le_of_ble_eq_true rfl⟩) hh [0, 3] [1, 2] [0] rfl rfl rfl rfl (by decide) rfl rfl hl rfl (Nat.le_of_ble_eq_true rfl) dL_law_1288 ⟨Nat.le_of_ble_eq_true rfl, (Nat.le_of_ble_eq_true rfl)⟩ (fun _ _ _ _ _ h => h.elim) (fun v w ty1 H locs hp hh => ?_)
  obtain ⟨rfl, rfl, rfl⟩ := hp
  have hh : kH D kStr e0 A s H [(ma, .inr (16, [.int 0, .ref m1, .ref m2, .ref m3, .ref m4, .ref m5, .ref m6, .ref m7, .ref m8, .int 0, .int 0])), (m2, .inr (4, [.int 0, .ref e0.1, .int 0])), (o1, .inl (z3, 1, .inr (.inl (fun _ => 0))))] [(z3, .long), (z3, .long)] _ := hh
  refine W.eq (g2 := F0 m 1291 ls [.int 1]) (by first | rfl | decide) ?_
  refine lv_istore (lv' := [(6, .int 1), (5, .int 0), (4, .ref o2), (3, .ref o1), (2, .ref ma), (1, .ref xa), (0, .ref b)]) hx hb dL_law_1291 hl (by decide) rfl (fun ls hl => ?_)
  refine lv_aload_n hx hb dL_law_1293 rfl (lv_at hl 4 rfl) ?_
  refine lv_aload_n hx hb dL_law_1294 rfl (lv_at hl 6 rfl) ?_
  refine lv_iload hx hb dL_law_1295 (lv_at hl 1 rfl) ?_
  refine lv_iconst (v := 1) hx hb dL_law_1297 (by decide) ?_
  refine lv_iadd hx hb dL_law_1298 ?_
  refine W.eq (g2 := F0 m 1299 ls [.int 1, .ref b, .ref ma]) (by first | rfl | decide) ?_
  refine va_sld hx hb hX hbl hbA hh.2.2.2.1 (by unfold vp_in; decide) dL_law_1299 ?_
  refine W.eq (g2 := F0 m 1300 ls [.int (xs 1), .ref ma]) rfl ?_
  refine k_callV (C := RX11) (T := TX11) (N := 11) (ci := 16) (q0 := 0) (wr := [(o1, .inl (z3, 1, .inr (.inl (fun _ => 0))))]) (rest := []) (own := RL) ⟨hx, hb, hml, hown, hts⟩ (c_X11_loudness l hst D e0 ma 0 m1 m2 m3 m4 m5 m6 m7 m8 ((xs 1)) ) (cwV 1 hts gl_V_c_X11_loudness rfl rfl rfl (by decide +kernel) ⟨Nat.le_of_ble_eq_true rfl, Nat.le_of_ble_eq_true rfl⟩) hh rfl rfl [0, 1] [2] [] rfl rfl rfl rfl (by decide) rfl rfl hl rfl (Nat.le_of_ble_eq_true rfl) dL_law_1300 ⟨Nat.le_of_ble_eq_true rfl, (Nat.le_of_ble_eq_true rfl)⟩ (fun _ _ _ _ _ h => h.elim) (fun v w ty1 H locs hp hh => ?_)
  obtain ⟨rfl, rfl, rfl⟩ := hp
  have hh : kH D kStr e0 A s H [(o1, .inl (z3, 1, .inr (.inl (fun _ => 0)))), (ma, .inr (16, [.int 1, .ref m1, .ref m2, .ref m3, .ref m4, .ref m5, .ref m6, .ref m7, .ref m8, .int 0, .int 0]))] [(z3, .long), (z3, .long)] _ := hh
  refine W.eq (g2 := F0 m 1303 ls [.int 0]) (by first | rfl | decide) ?_
  refine lv_istore (lv' := [(7, .int 0), (6, .int 1), (5, .int 0), (4, .ref o2), (3, .ref o1), (2, .ref ma), (1, .ref xa), (0, .ref b)]) hx hb dL_law_1303 hl (by decide) rfl (fun ls hl => ?_)
  refine lv_aload_n hx hb dL_law_1305 rfl (lv_at hl 5 rfl) ?_
  refine k_callV (C := RX11) (T := TX11) (N := 11) (ci := 16) (q0 := 1) (wr := [(o1, .inl (z3, 1, .inr (.inl (fun _ => 0))))]) (rest := []) (own := RL) ⟨hx, hb, hml, hown, hts⟩ (c_X11_thrown l hst D e0 ma 1 m1 m2 m3 m4 m5 m6 m7 m8 ) (cwV 0 hts gl_V_c_X11_thrown rfl rfl rfl (by decide +kernel) ⟨Nat.le_of_ble_eq_true rfl, Nat.le_of_ble_eq_true rfl⟩) hh rfl rfl [1] [0] [] rfl rfl rfl rfl (by decide) rfl rfl hl rfl (Nat.le_of_ble_eq_true rfl) dL_law_1306 ⟨Nat.le_of_ble_eq_true rfl, (Nat.le_of_ble_eq_true rfl)⟩ (fun _ _ _ _ _ h => h.elim) (fun v w ty1 H locs hp hh => ?_)
  obtain ⟨rfl, rfl, rfl⟩ := hp
  have hh : kH D kStr e0 A s H [(o1, .inl (z3, 1, .inr (.inl (fun _ => 0)))), (ma, .inr (16, [.int 1, .ref m1, .ref m2, .ref m3, .ref m4, .ref m5, .ref m6, .ref m7, .ref m8, .int 0, .int 0]))] [(z3, .long), (z3, .long)] _ := hh
  refine W.eq (g2 := F0 m 1309 ls [.int 1]) (by first | rfl | decide) ?_
  refine lv_iload hx hb dL_law_1309 (lv_at hl 1 rfl) ?_
  refine lv_icmp_eq (tgt := 1316) hx hb dL_law_1311 (by decide) (fun _ => ?_) (fun c_1311 => absurd (by decide) c_1311)
  refine lv_iload hx hb dL_law_1316 (lv_at hl 1 rfl) ?_
  refine lv_if_ne (tgt := 1333) hx hb dL_law_1318 (by decide) (fun _ => ?_) (fun c_1318 => absurd c_1318 (by decide))
  refine lv_goto (tgt := 3429) hx hb dL_law_1333 (by decide) ?_
  refine W.widen (k := 1000) (n := 100000) (Nat.le_of_ble_eq_true rfl) (Nat.le_of_ble_eq_true rfl) ?_
  exact kk _ _ _ hh.2.2.2.1 (lv_sub hl [7, 2] rfl)
set_option maxHeartbeats 4000000 in
set_option maxRecDepth 100000 in
theorem law_16 {p : Program} {l : Launch} {e : Env} {s : State} {m : MethodId} {below : List Frame} {meth : Method} {c : Code} {Q : State → Prop} {b : Nat} {xs : Nat → Int32} {D : va_G} {e0 : kE} {A : Nat → Prop} (hst : l.stackTraces = false) (hx : p.tables.exec = Jvm.exec) (hb : c.code = cL_law) (hml : c.maxLocals = 9) (hts : ∀ w ∈ lw_tbl, w.before #[Value.ref b] s = true) (hown : s.vm.findClass RL = some m.cls) (hX : va_X b 5 xs s s.heap) (hbl : b < s.heap.size) (hbA : ¬ A b) {xa x1 x2 x3 x4 x5 g1 g2 g3 g4 h1 h2 h3 h4 h5 ma m1 m2 m3 m4 m5 m6 m7 m8 o1 o2 : Nat} {z1 z2 z3 z4 : ClassId}  {H : Heap} {locs : List Loc} {ls : Array Slot} (hh : kH D kStr e0 A s H (lwW e0 xa x1 x2 x3 x4 x5 g1 g2 g3 g4 h1 h2 h3 h4 h5 ma m1 m2 m3 m4 m5 m6 m7 m8 o1 o2 z1 z2 z3 z4) (lwT z1 z2 z3 z4) locs) (hl : lv_has ls 9 (lwL b xa ma o1 o2)) (kk : lwK p l e s m below meth c Q b A) : W p l e room_1 s m #[Value.ref b] below meth c H locs 100 10000 Q (F0 m 1336 ls []) := by
  have hh : kH D kStr e0 A s H [(xa, .inr (11, [.ref x1, .int 0, .ref x2, .int 0, .ref x3, .ref x4, .ref x5, .int 0])), (ma, .inr (16, [.int 0, .ref m1, .ref m2, .ref m3, .ref m4, .ref m5, .ref m6, .ref m7, .ref m8, .int 0, .int 0])), (m2, .inr (4, [.int 0, .ref e0.1, .int 0])), (o1, .inl (z3, 1, .inr (.inl (fun _ => 0))))] [(z3, .long)] _ := hh.sub [0, 5, 7, 14] [2] rfl rfl rfl
  have hl : lv_has ls 9 [(5, .int 0), (4, .ref o2), (3, .ref o1), (2, .ref ma), (1, .ref xa), (0, .ref b)] := hl
  refine lv_aload_n hx hb dL_law_1336 rfl (lv_at hl 4 rfl) ?_
  refine lv_aload_n hx hb dL_law_1337 rfl (lv_at hl 5 rfl) ?_
  refine lv_iload hx hb dL_law_1338 (lv_at hl 0 rfl) ?_
  refine lv_iconst (v := 1) hx hb dL_law_1340 (by decide) ?_
  refine lv_iadd hx hb dL_law_1341 ?_
  refine W.eq (g2 := F0 m 1342 ls [.int 1, .ref b, .ref xa]) (by first | rfl | decide) ?_
  refine va_sld hx hb hX hbl hbA hh.2.2.2.1 (by unfold vp_in; decide) dL_law_1342 ?_
  refine W.eq (g2 := F0 m 1343 ls [.int (xs 1), .ref xa]) rfl ?_
  refine lv_aload_n hx hb dL_law_1343 rfl (lv_at hl 2 rfl) ?_
  refine k_callSX (wr := [(ma, .inr (16, [.int 0, .ref m1, .ref m2, .ref m3, .ref m4, .ref m5, .ref m6, .ref m7, .ref m8, .int 0, .int 0])), (m2, .inr (4, [.int 0, .ref e0.1, .int 0]))]) (rest := []) (own := RL) ⟨hx, hb, hml, hown, hts⟩ (c_L_peak l hst D e0 xa x1 x2 x3 x4 x5 ((xs 1)) o1 z3 ((fun _ => 0)) ) (vx_cwSW 3 hts gl_S_c_L_peak rfl rfl rfl (by decide +kernel) ⟨Nat.le_of_ble_eq_true rfl, Nat.le_of_ble_eq_true rfl⟩) hh [0, 3] [1, 2] [0] rfl rfl rfl rfl (by decide) rfl rfl hl rfl (Nat.le_of_ble_eq_true rfl) dL_law_1344 ⟨Nat.le_of_ble_eq_true rfl, (Nat.le_of_ble_eq_true rfl)⟩ (fun _ _ _ _ _ h => h.elim) (fun v w ty1 H locs hp hh => ?_)
  obtain ⟨rfl, rfl, rfl⟩ := hp
  have hh : kH D kStr e0 A s H [(ma, .inr (16, [.int 0, .ref m1, .ref m2, .ref m3, .ref m4, .ref m5, .ref m6, .ref m7, .ref m8, .int 0, .int 0])), (m2, .inr (4, [.int 0, .ref e0.1, .int 0])), (o1, .inl (z3, 1, .inr (.inl (fun _ => 0))))] [(z3, .long), (z3, .long)] _ := hh
  refine W.eq (g2 := F0 m 1347 ls [.int 1]) (by first | rfl | decide) ?_
  refine lv_istore (lv' := [(6, .int 1), (5, .int 0), (4, .ref o2), (3, .ref o1), (2, .ref ma), (1, .ref xa), (0, .ref b)]) hx hb dL_law_1347 hl (by decide) rfl (fun ls hl => ?_)
  refine lv_aload_n hx hb dL_law_1349 rfl (lv_at hl 4 rfl) ?_
  refine lv_aload_n hx hb dL_law_1350 rfl (lv_at hl 6 rfl) ?_
  refine lv_iload hx hb dL_law_1351 (lv_at hl 1 rfl) ?_
  refine lv_iconst (v := 1) hx hb dL_law_1353 (by decide) ?_
  refine lv_iadd hx hb dL_law_1354 ?_
  refine W.eq (g2 := F0 m 1355 ls [.int 1, .ref b, .ref ma]) (by first | rfl | decide) ?_
  refine va_sld hx hb hX hbl hbA hh.2.2.2.1 (by unfold vp_in; decide) dL_law_1355 ?_
  refine W.eq (g2 := F0 m 1356 ls [.int (xs 1), .ref ma]) rfl ?_
  refine k_callV (C := RX11) (T := TX11) (N := 11) (ci := 16) (q0 := 0) (wr := [(o1, .inl (z3, 1, .inr (.inl (fun _ => 0))))]) (rest := []) (own := RL) ⟨hx, hb, hml, hown, hts⟩ (c_X11_peak l hst D e0 ma 0 m1 m2 m3 m4 m5 m6 m7 m8 ((xs 1)) ) (cwV 1 hts gl_V_c_X11_peak rfl rfl rfl (by decide +kernel) ⟨Nat.le_of_ble_eq_true rfl, Nat.le_of_ble_eq_true rfl⟩) hh rfl rfl [0, 1] [2] [] rfl rfl rfl rfl (by decide) rfl rfl hl rfl (Nat.le_of_ble_eq_true rfl) dL_law_1356 ⟨Nat.le_of_ble_eq_true rfl, (Nat.le_of_ble_eq_true rfl)⟩ (fun _ _ _ _ _ h => h.elim) (fun v w ty1 H locs hp hh => ?_)
  obtain ⟨rfl, rfl, rfl⟩ := hp
  have hh : kH D kStr e0 A s H [(o1, .inl (z3, 1, .inr (.inl (fun _ => 0)))), (ma, .inr (16, [.int 1, .ref m1, .ref m2, .ref m3, .ref m4, .ref m5, .ref m6, .ref m7, .ref m8, .int 0, .int 0]))] [(z3, .long), (z3, .long)] _ := hh
  refine W.eq (g2 := F0 m 1359 ls [.int 0]) (by first | rfl | decide) ?_
  refine lv_istore (lv' := [(7, .int 0), (6, .int 1), (5, .int 0), (4, .ref o2), (3, .ref o1), (2, .ref ma), (1, .ref xa), (0, .ref b)]) hx hb dL_law_1359 hl (by decide) rfl (fun ls hl => ?_)
  refine lv_aload_n hx hb dL_law_1361 rfl (lv_at hl 5 rfl) ?_
  refine k_callV (C := RX11) (T := TX11) (N := 11) (ci := 16) (q0 := 1) (wr := [(o1, .inl (z3, 1, .inr (.inl (fun _ => 0))))]) (rest := []) (own := RL) ⟨hx, hb, hml, hown, hts⟩ (c_X11_thrown l hst D e0 ma 1 m1 m2 m3 m4 m5 m6 m7 m8 ) (cwV 0 hts gl_V_c_X11_thrown rfl rfl rfl (by decide +kernel) ⟨Nat.le_of_ble_eq_true rfl, Nat.le_of_ble_eq_true rfl⟩) hh rfl rfl [1] [0] [] rfl rfl rfl rfl (by decide) rfl rfl hl rfl (Nat.le_of_ble_eq_true rfl) dL_law_1362 ⟨Nat.le_of_ble_eq_true rfl, (Nat.le_of_ble_eq_true rfl)⟩ (fun _ _ _ _ _ h => h.elim) (fun v w ty1 H locs hp hh => ?_)
  obtain ⟨rfl, rfl, rfl⟩ := hp
  have hh : kH D kStr e0 A s H [(o1, .inl (z3, 1, .inr (.inl (fun _ => 0)))), (ma, .inr (16, [.int 1, .ref m1, .ref m2, .ref m3, .ref m4, .ref m5, .ref m6, .ref m7, .ref m8, .int 0, .int 0]))] [(z3, .long), (z3, .long)] _ := hh
  refine W.eq (g2 := F0 m 1365 ls [.int 1]) (by first | rfl | decide) ?_
  refine lv_iload hx hb dL_law_1365 (lv_at hl 1 rfl) ?_
  refine lv_icmp_eq (tgt := 1372) hx hb dL_law_1367 (by decide) (fun _ => ?_) (fun c_1367 => absurd (by decide) c_1367)
  refine lv_iload hx hb dL_law_1372 (lv_at hl 1 rfl) ?_
  refine lv_if_ne (tgt := 1389) hx hb dL_law_1374 (by decide) (fun _ => ?_) (fun c_1374 => absurd c_1374 (by decide))
  refine lv_goto (tgt := 3429) hx hb dL_law_1389 (by decide) ?_
  refine W.widen (k := 1000) (n := 100000) (Nat.le_of_ble_eq_true rfl) (Nat.le_of_ble_eq_true rfl) ?_
  exact kk _ _ _ hh.2.2.2.1 (lv_sub hl [7, 2] rfl)
set_option maxHeartbeats 4000000 in
set_option maxRecDepth 100000 in
theorem law_17 {p : Program} {l : Launch} {e : Env} {s : State} {m : MethodId} {below : List Frame} {meth : Method} {c : Code} {Q : State → Prop} {b : Nat} {xs : Nat → Int32} {D : va_G} {e0 : kE} {A : Nat → Prop} (hst : l.stackTraces = false) (hx : p.tables.exec = Jvm.exec) (hb : c.code = cL_law) (hml : c.maxLocals = 9) (hts : ∀ w ∈ lw_tbl, w.before #[Value.ref b] s = true) (hown : s.vm.findClass RL = some m.cls) (hX : va_X b 5 xs s s.heap) (hbl : b < s.heap.size) (hbA : ¬ A b) {xa x1 x2 x3 x4 x5 g1 g2 g3 g4 h1 h2 h3 h4 h5 ma m1 m2 m3 m4 m5 m6 m7 m8 o1 o2 : Nat} {z1 z2 z3 z4 : ClassId}  {H : Heap} {locs : List Loc} {ls : Array Slot} (hh : kH D kStr e0 A s H (lwW e0 xa x1 x2 x3 x4 x5 g1 g2 g3 g4 h1 h2 h3 h4 h5 ma m1 m2 m3 m4 m5 m6 m7 m8 o1 o2 z1 z2 z3 z4) (lwT z1 z2 z3 z4) locs) (hl : lv_has ls 9 (lwL b xa ma o1 o2)) (kk : lwK p l e s m below meth c Q b A) : W p l e room_1 s m #[Value.ref b] below meth c H locs 100 10000 Q (F0 m 1392 ls []) := by
  have hh : kH D kStr e0 A s H [(xa, .inr (11, [.ref x1, .int 0, .ref x2, .int 0, .ref x3, .ref x4, .ref x5, .int 0])), (ma, .inr (16, [.int 0, .ref m1, .ref m2, .ref m3, .ref m4, .ref m5, .ref m6, .ref m7, .ref m8, .int 0, .int 0])), (m2, .inr (4, [.int 0, .ref e0.1, .int 0])), (o1, .inl (z3, 1, .inr (.inl (fun _ => 0))))] [(z3, .long)] _ := hh.sub [0, 5, 7, 14] [2] rfl rfl rfl
  have hl : lv_has ls 9 [(5, .int 0), (4, .ref o2), (3, .ref o1), (2, .ref ma), (1, .ref xa), (0, .ref b)] := hl
  refine lv_aload_n hx hb dL_law_1392 rfl (lv_at hl 4 rfl) ?_
  refine lv_aload_n hx hb dL_law_1393 rfl (lv_at hl 5 rfl) ?_
  refine lv_iload hx hb dL_law_1394 (lv_at hl 0 rfl) ?_
  refine lv_iconst (v := 1) hx hb dL_law_1396 (by decide) ?_
  refine lv_iadd hx hb dL_law_1397 ?_
  refine W.eq (g2 := F0 m 1398 ls [.int 1, .ref b, .ref xa]) (by first | rfl | decide) ?_
  refine va_sld hx hb hX hbl hbA hh.2.2.2.1 (by unfold vp_in; decide) dL_law_1398 ?_
  refine W.eq (g2 := F0 m 1399 ls [.int (xs 1), .ref xa]) rfl ?_
  refine lv_aload_n hx hb dL_law_1399 rfl (lv_at hl 5 rfl) ?_
  refine lv_iload hx hb dL_law_1400 (lv_at hl 0 rfl) ?_
  refine lv_iconst (v := 2) hx hb dL_law_1402 (by decide) ?_
  refine lv_iadd hx hb dL_law_1403 ?_
  refine W.eq (g2 := F0 m 1404 ls [.int 2, .ref b, .int (xs 1), .ref xa]) (by first | rfl | decide) ?_
  refine va_sld hx hb hX hbl hbA hh.2.2.2.1 (by unfold vp_in; decide) dL_law_1404 ?_
  refine W.eq (g2 := F0 m 1405 ls [.int (xs 2), .int (xs 1), .ref xa]) rfl ?_
  refine lv_aload_n hx hb dL_law_1405 rfl (lv_at hl 2 rfl) ?_
  refine k_callSX (wr := [(ma, .inr (16, [.int 0, .ref m1, .ref m2, .ref m3, .ref m4, .ref m5, .ref m6, .ref m7, .ref m8, .int 0, .int 0])), (m2, .inr (4, [.int 0, .ref e0.1, .int 0]))]) (rest := []) (own := RL) ⟨hx, hb, hml, hown, hts⟩ (c_L_add l hst D e0 xa x1 x2 x3 x4 x5 ((xs 1)) ((xs 2)) o1 z3 ((fun _ => 0)) ) (vx_cwSW 4 hts gl_S_c_L_add rfl rfl rfl (by decide +kernel) ⟨Nat.le_of_ble_eq_true rfl, Nat.le_of_ble_eq_true rfl⟩) hh [0, 3] [1, 2] [0] rfl rfl rfl rfl (by decide) rfl rfl hl rfl (Nat.le_of_ble_eq_true rfl) dL_law_1406 ⟨Nat.le_of_ble_eq_true rfl, (Nat.le_of_ble_eq_true rfl)⟩ (fun _ _ _ _ _ h => h.elim) (fun v w ty1 H locs hp hh => ?_)
  obtain ⟨rfl, rfl, rfl⟩ := hp
  have hh : kH D kStr e0 A s H [(ma, .inr (16, [.int 0, .ref m1, .ref m2, .ref m3, .ref m4, .ref m5, .ref m6, .ref m7, .ref m8, .int 0, .int 0])), (m2, .inr (4, [.int 0, .ref e0.1, .int 0])), (o1, .inl (z3, 1, .inr (.inl (fun _ => 0))))] [(z3, .long), (z3, .long)] _ := hh
  refine W.eq (g2 := F0 m 1409 ls [.int 1]) (by first | rfl | decide) ?_
  refine lv_istore (lv' := [(6, .int 1), (5, .int 0), (4, .ref o2), (3, .ref o1), (2, .ref ma), (1, .ref xa), (0, .ref b)]) hx hb dL_law_1409 hl (by decide) rfl (fun ls hl => ?_)
  refine lv_aload_n hx hb dL_law_1411 rfl (lv_at hl 4 rfl) ?_
  refine lv_aload_n hx hb dL_law_1412 rfl (lv_at hl 6 rfl) ?_
  refine lv_iload hx hb dL_law_1413 (lv_at hl 1 rfl) ?_
  refine lv_iconst (v := 1) hx hb dL_law_1415 (by decide) ?_
  refine lv_iadd hx hb dL_law_1416 ?_
  refine W.eq (g2 := F0 m 1417 ls [.int 1, .ref b, .ref ma]) (by first | rfl | decide) ?_
  refine va_sld hx hb hX hbl hbA hh.2.2.2.1 (by unfold vp_in; decide) dL_law_1417 ?_
  refine W.eq (g2 := F0 m 1418 ls [.int (xs 1), .ref ma]) rfl ?_
  refine lv_aload_n hx hb dL_law_1418 rfl (lv_at hl 6 rfl) ?_
  refine lv_iload hx hb dL_law_1419 (lv_at hl 1 rfl) ?_
  refine lv_iconst (v := 2) hx hb dL_law_1421 (by decide) ?_
  refine lv_iadd hx hb dL_law_1422 ?_
  refine W.eq (g2 := F0 m 1423 ls [.int 2, .ref b, .int (xs 1), .ref ma]) (by first | rfl | decide) ?_
  refine va_sld hx hb hX hbl hbA hh.2.2.2.1 (by unfold vp_in; decide) dL_law_1423 ?_
  refine W.eq (g2 := F0 m 1424 ls [.int (xs 2), .int (xs 1), .ref ma]) rfl ?_
  refine k_callV (C := RX11) (T := TX11) (N := 11) (ci := 16) (q0 := 0) (wr := [(o1, .inl (z3, 1, .inr (.inl (fun _ => 0))))]) (rest := []) (own := RL) ⟨hx, hb, hml, hown, hts⟩ (c_X11_add l hst D e0 ma 0 m1 m2 m3 m4 m5 m6 m7 m8 ((xs 1)) ((xs 2)) ) (cwV 2 hts gl_V_c_X11_add rfl rfl rfl (by decide +kernel) ⟨Nat.le_of_ble_eq_true rfl, Nat.le_of_ble_eq_true rfl⟩) hh rfl rfl [0, 1] [2] [] rfl rfl rfl rfl (by decide) rfl rfl hl rfl (Nat.le_of_ble_eq_true rfl) dL_law_1424 ⟨Nat.le_of_ble_eq_true rfl, (Nat.le_of_ble_eq_true rfl)⟩ (fun _ _ _ _ _ h => h.elim) (fun v w ty1 H locs hp hh => ?_)
  obtain ⟨rfl, rfl, rfl⟩ := hp
  have hh : kH D kStr e0 A s H [(o1, .inl (z3, 1, .inr (.inl (fun _ => 0)))), (ma, .inr (16, [.int 1, .ref m1, .ref m2, .ref m3, .ref m4, .ref m5, .ref m6, .ref m7, .ref m8, .int 0, .int 0]))] [(z3, .long), (z3, .long)] _ := hh
  refine W.eq (g2 := F0 m 1427 ls [.int 0]) (by first | rfl | decide) ?_
  refine lv_istore (lv' := [(7, .int 0), (6, .int 1), (5, .int 0), (4, .ref o2), (3, .ref o1), (2, .ref ma), (1, .ref xa), (0, .ref b)]) hx hb dL_law_1427 hl (by decide) rfl (fun ls hl => ?_)
  refine lv_aload_n hx hb dL_law_1429 rfl (lv_at hl 5 rfl) ?_
  refine k_callV (C := RX11) (T := TX11) (N := 11) (ci := 16) (q0 := 1) (wr := [(o1, .inl (z3, 1, .inr (.inl (fun _ => 0))))]) (rest := []) (own := RL) ⟨hx, hb, hml, hown, hts⟩ (c_X11_thrown l hst D e0 ma 1 m1 m2 m3 m4 m5 m6 m7 m8 ) (cwV 0 hts gl_V_c_X11_thrown rfl rfl rfl (by decide +kernel) ⟨Nat.le_of_ble_eq_true rfl, Nat.le_of_ble_eq_true rfl⟩) hh rfl rfl [1] [0] [] rfl rfl rfl rfl (by decide) rfl rfl hl rfl (Nat.le_of_ble_eq_true rfl) dL_law_1430 ⟨Nat.le_of_ble_eq_true rfl, (Nat.le_of_ble_eq_true rfl)⟩ (fun _ _ _ _ _ h => h.elim) (fun v w ty1 H locs hp hh => ?_)
  obtain ⟨rfl, rfl, rfl⟩ := hp
  have hh : kH D kStr e0 A s H [(o1, .inl (z3, 1, .inr (.inl (fun _ => 0)))), (ma, .inr (16, [.int 1, .ref m1, .ref m2, .ref m3, .ref m4, .ref m5, .ref m6, .ref m7, .ref m8, .int 0, .int 0]))] [(z3, .long), (z3, .long)] _ := hh
  refine W.eq (g2 := F0 m 1433 ls [.int 1]) (by first | rfl | decide) ?_
  refine lv_iload hx hb dL_law_1433 (lv_at hl 1 rfl) ?_
  refine lv_icmp_eq (tgt := 1440) hx hb dL_law_1435 (by decide) (fun _ => ?_) (fun c_1435 => absurd (by decide) c_1435)
  refine lv_iload hx hb dL_law_1440 (lv_at hl 1 rfl) ?_
  refine lv_if_ne (tgt := 1457) hx hb dL_law_1442 (by decide) (fun _ => ?_) (fun c_1442 => absurd c_1442 (by decide))
  refine lv_goto (tgt := 3429) hx hb dL_law_1457 (by decide) ?_
  refine W.widen (k := 1000) (n := 100000) (Nat.le_of_ble_eq_true rfl) (Nat.le_of_ble_eq_true rfl) ?_
  exact kk _ _ _ hh.2.2.2.1 (lv_sub hl [7, 2] rfl)
set_option maxHeartbeats 4000000 in
set_option maxRecDepth 100000 in
theorem law_19 {p : Program} {l : Launch} {e : Env} {s : State} {m : MethodId} {below : List Frame} {meth : Method} {c : Code} {Q : State → Prop} {b : Nat} {xs : Nat → Int32} {D : va_G} {e0 : kE} {A : Nat → Prop} (hst : l.stackTraces = false) (hx : p.tables.exec = Jvm.exec) (hb : c.code = cL_law) (hml : c.maxLocals = 9) (hts : ∀ w ∈ lw_tbl, w.before #[Value.ref b] s = true) (hown : s.vm.findClass RL = some m.cls) (hX : va_X b 5 xs s s.heap) (hbl : b < s.heap.size) (hbA : ¬ A b) {xa x1 x2 x3 x4 x5 g1 g2 g3 g4 h1 h2 h3 h4 h5 ma m1 m2 m3 m4 m5 m6 m7 m8 o1 o2 : Nat} {z1 z2 z3 z4 : ClassId}  {H : Heap} {locs : List Loc} {ls : Array Slot} (hh : kH D kStr e0 A s H (lwW e0 xa x1 x2 x3 x4 x5 g1 g2 g3 g4 h1 h2 h3 h4 h5 ma m1 m2 m3 m4 m5 m6 m7 m8 o1 o2 z1 z2 z3 z4) (lwT z1 z2 z3 z4) locs) (hl : lv_has ls 9 (lwL b xa ma o1 o2)) (kk : lwK p l e s m below meth c Q b A) : W p l e room_1 s m #[Value.ref b] below meth c H locs 100 10000 Q (F0 m 1551 ls []) := by
  have hh : kH D kStr e0 A s H [(xa, .inr (11, [.ref x1, .int 0, .ref x2, .int 0, .ref x3, .ref x4, .ref x5, .int 0])), (x3, .inr (9, [.ref g1, .int 0, .ref g2, .int 0, .ref g3, .ref g4])), (ma, .inr (16, [.int 0, .ref m1, .ref m2, .ref m3, .ref m4, .ref m5, .ref m6, .ref m7, .ref m8, .int 0, .int 0])), (m3, .inr (4, [.int 0, .ref e0.1, .int 0])), (o1, .inl (z3, 1, .inr (.inl (fun _ => 0))))] [(z3, .long)] _ := hh.sub [0, 1, 5, 8, 14] [2] rfl rfl rfl
  have hl : lv_has ls 9 [(5, .int 0), (4, .ref o2), (3, .ref o1), (2, .ref ma), (1, .ref xa), (0, .ref b)] := hl
  refine lv_aload_n hx hb dL_law_1551 rfl (lv_at hl 4 rfl) ?_
  refine lv_aload_n hx hb dL_law_1552 rfl (lv_at hl 5 rfl) ?_
  refine lv_iload hx hb dL_law_1553 (lv_at hl 0 rfl) ?_
  refine lv_iconst (v := 1) hx hb dL_law_1555 (by decide) ?_
  refine lv_iadd hx hb dL_law_1556 ?_
  refine W.eq (g2 := F0 m 1557 ls [.int 1, .ref b, .ref xa]) (by first | rfl | decide) ?_
  refine va_sld hx hb hX hbl hbA hh.2.2.2.1 (by unfold vp_in; decide) dL_law_1557 ?_
  refine W.eq (g2 := F0 m 1558 ls [.int (xs 1), .ref xa]) rfl ?_
  refine lv_aload_n hx hb dL_law_1558 rfl (lv_at hl 5 rfl) ?_
  refine lv_iload hx hb dL_law_1559 (lv_at hl 0 rfl) ?_
  refine lv_iconst (v := 2) hx hb dL_law_1561 (by decide) ?_
  refine lv_iadd hx hb dL_law_1562 ?_
  refine W.eq (g2 := F0 m 1563 ls [.int 2, .ref b, .int (xs 1), .ref xa]) (by first | rfl | decide) ?_
  refine va_sld hx hb hX hbl hbA hh.2.2.2.1 (by unfold vp_in; decide) dL_law_1563 ?_
  refine W.eq (g2 := F0 m 1564 ls [.int (xs 2), .int (xs 1), .ref xa]) rfl ?_
  refine lv_aload_n hx hb dL_law_1564 rfl (lv_at hl 2 rfl) ?_
  refine k_callSX (wr := [(ma, .inr (16, [.int 0, .ref m1, .ref m2, .ref m3, .ref m4, .ref m5, .ref m6, .ref m7, .ref m8, .int 0, .int 0])), (m3, .inr (4, [.int 0, .ref e0.1, .int 0]))]) (rest := []) (own := RL) ⟨hx, hb, hml, hown, hts⟩ (c_L_replace l hst D e0 xa x1 x2 x3 x4 x5 g1 g2 g3 g4 ((xs 1)) ((xs 2)) o1 z3 ((fun _ => 0)) ) (vx_cwSW 4 hts gl_S_c_L_replace rfl rfl rfl (by decide +kernel) ⟨Nat.le_of_ble_eq_true rfl, Nat.le_of_ble_eq_true rfl⟩) hh [0, 1, 4] [2, 3] [0] rfl rfl rfl rfl (by decide) rfl rfl hl rfl (Nat.le_of_ble_eq_true rfl) dL_law_1565 ⟨Nat.le_of_ble_eq_true rfl, (Nat.le_of_ble_eq_true rfl)⟩ (fun _ _ _ _ _ h => h.elim) (fun v w ty1 H locs hp hh => ?_)
  obtain ⟨rfl, rfl, rfl⟩ := hp
  have hh : kH D kStr e0 A s H [(ma, .inr (16, [.int 0, .ref m1, .ref m2, .ref m3, .ref m4, .ref m5, .ref m6, .ref m7, .ref m8, .int 0, .int 0])), (m3, .inr (4, [.int 0, .ref e0.1, .int 0])), (o1, .inl (z3, 1, .inr (.inl (fun _ => 0))))] [(z3, .long), (z3, .long)] _ := hh
  refine W.eq (g2 := F0 m 1568 ls [.int 1]) (by first | rfl | decide) ?_
  refine lv_istore (lv' := [(6, .int 1), (5, .int 0), (4, .ref o2), (3, .ref o1), (2, .ref ma), (1, .ref xa), (0, .ref b)]) hx hb dL_law_1568 hl (by decide) rfl (fun ls hl => ?_)
  refine lv_aload_n hx hb dL_law_1570 rfl (lv_at hl 4 rfl) ?_
  refine lv_aload_n hx hb dL_law_1571 rfl (lv_at hl 6 rfl) ?_
  refine lv_iload hx hb dL_law_1572 (lv_at hl 1 rfl) ?_
  refine lv_iconst (v := 1) hx hb dL_law_1574 (by decide) ?_
  refine lv_iadd hx hb dL_law_1575 ?_
  refine W.eq (g2 := F0 m 1576 ls [.int 1, .ref b, .ref ma]) (by first | rfl | decide) ?_
  refine va_sld hx hb hX hbl hbA hh.2.2.2.1 (by unfold vp_in; decide) dL_law_1576 ?_
  refine W.eq (g2 := F0 m 1577 ls [.int (xs 1), .ref ma]) rfl ?_
  refine lv_aload_n hx hb dL_law_1577 rfl (lv_at hl 6 rfl) ?_
  refine lv_iload hx hb dL_law_1578 (lv_at hl 1 rfl) ?_
  refine lv_iconst (v := 2) hx hb dL_law_1580 (by decide) ?_
  refine lv_iadd hx hb dL_law_1581 ?_
  refine W.eq (g2 := F0 m 1582 ls [.int 2, .ref b, .int (xs 1), .ref ma]) (by first | rfl | decide) ?_
  refine va_sld hx hb hX hbl hbA hh.2.2.2.1 (by unfold vp_in; decide) dL_law_1582 ?_
  refine W.eq (g2 := F0 m 1583 ls [.int (xs 2), .int (xs 1), .ref ma]) rfl ?_
  refine k_callV (C := RX11) (T := TX11) (N := 11) (ci := 16) (q0 := 0) (wr := [(o1, .inl (z3, 1, .inr (.inl (fun _ => 0))))]) (rest := []) (own := RL) ⟨hx, hb, hml, hown, hts⟩ (c_X11_replace l hst D e0 ma 0 m1 m2 m3 m4 m5 m6 m7 m8 ((xs 1)) ((xs 2)) ) (cwV 2 hts gl_V_c_X11_replace rfl rfl rfl (by decide +kernel) ⟨Nat.le_of_ble_eq_true rfl, Nat.le_of_ble_eq_true rfl⟩) hh rfl rfl [0, 1] [2] [] rfl rfl rfl rfl (by decide) rfl rfl hl rfl (Nat.le_of_ble_eq_true rfl) dL_law_1583 ⟨Nat.le_of_ble_eq_true rfl, (Nat.le_of_ble_eq_true rfl)⟩ (fun _ _ _ _ _ h => h.elim) (fun v w ty1 H locs hp hh => ?_)
  obtain ⟨rfl, rfl, rfl⟩ := hp
  have hh : kH D kStr e0 A s H [(o1, .inl (z3, 1, .inr (.inl (fun _ => 0)))), (ma, .inr (16, [.int 1, .ref m1, .ref m2, .ref m3, .ref m4, .ref m5, .ref m6, .ref m7, .ref m8, .int 0, .int 0]))] [(z3, .long), (z3, .long)] _ := hh
  refine W.eq (g2 := F0 m 1586 ls [.int 0]) (by first | rfl | decide) ?_
  refine lv_istore (lv' := [(7, .int 0), (6, .int 1), (5, .int 0), (4, .ref o2), (3, .ref o1), (2, .ref ma), (1, .ref xa), (0, .ref b)]) hx hb dL_law_1586 hl (by decide) rfl (fun ls hl => ?_)
  refine lv_aload_n hx hb dL_law_1588 rfl (lv_at hl 5 rfl) ?_
  refine k_callV (C := RX11) (T := TX11) (N := 11) (ci := 16) (q0 := 1) (wr := [(o1, .inl (z3, 1, .inr (.inl (fun _ => 0))))]) (rest := []) (own := RL) ⟨hx, hb, hml, hown, hts⟩ (c_X11_thrown l hst D e0 ma 1 m1 m2 m3 m4 m5 m6 m7 m8 ) (cwV 0 hts gl_V_c_X11_thrown rfl rfl rfl (by decide +kernel) ⟨Nat.le_of_ble_eq_true rfl, Nat.le_of_ble_eq_true rfl⟩) hh rfl rfl [1] [0] [] rfl rfl rfl rfl (by decide) rfl rfl hl rfl (Nat.le_of_ble_eq_true rfl) dL_law_1589 ⟨Nat.le_of_ble_eq_true rfl, (Nat.le_of_ble_eq_true rfl)⟩ (fun _ _ _ _ _ h => h.elim) (fun v w ty1 H locs hp hh => ?_)
  obtain ⟨rfl, rfl, rfl⟩ := hp
  have hh : kH D kStr e0 A s H [(o1, .inl (z3, 1, .inr (.inl (fun _ => 0)))), (ma, .inr (16, [.int 1, .ref m1, .ref m2, .ref m3, .ref m4, .ref m5, .ref m6, .ref m7, .ref m8, .int 0, .int 0]))] [(z3, .long), (z3, .long)] _ := hh
  refine W.eq (g2 := F0 m 1592 ls [.int 1]) (by first | rfl | decide) ?_
  refine lv_iload hx hb dL_law_1592 (lv_at hl 1 rfl) ?_
  refine lv_icmp_eq (tgt := 1599) hx hb dL_law_1594 (by decide) (fun _ => ?_) (fun c_1594 => absurd (by decide) c_1594)
  refine lv_iload hx hb dL_law_1599 (lv_at hl 1 rfl) ?_
  refine lv_if_ne (tgt := 1616) hx hb dL_law_1601 (by decide) (fun _ => ?_) (fun c_1601 => absurd c_1601 (by decide))
  refine lv_goto (tgt := 3429) hx hb dL_law_1616 (by decide) ?_
  refine W.widen (k := 1000) (n := 100000) (Nat.le_of_ble_eq_true rfl) (Nat.le_of_ble_eq_true rfl) ?_
  exact kk _ _ _ hh.2.2.2.1 (lv_sub hl [7, 2] rfl)
set_option maxHeartbeats 4000000 in
set_option maxRecDepth 100000 in
theorem law_20 {p : Program} {l : Launch} {e : Env} {s : State} {m : MethodId} {below : List Frame} {meth : Method} {c : Code} {Q : State → Prop} {b : Nat} {xs : Nat → Int32} {D : va_G} {e0 : kE} {A : Nat → Prop} (hst : l.stackTraces = false) (hx : p.tables.exec = Jvm.exec) (hb : c.code = cL_law) (hml : c.maxLocals = 9) (hts : ∀ w ∈ lw_tbl, w.before #[Value.ref b] s = true) (hown : s.vm.findClass RL = some m.cls) (hX : va_X b 5 xs s s.heap) (hbl : b < s.heap.size) (hbA : ¬ A b) {xa x1 x2 x3 x4 x5 g1 g2 g3 g4 h1 h2 h3 h4 h5 ma m1 m2 m3 m4 m5 m6 m7 m8 o1 o2 : Nat} {z1 z2 z3 z4 : ClassId}  {H : Heap} {locs : List Loc} {ls : Array Slot} (hh : kH D kStr e0 A s H (lwW e0 xa x1 x2 x3 x4 x5 g1 g2 g3 g4 h1 h2 h3 h4 h5 ma m1 m2 m3 m4 m5 m6 m7 m8 o1 o2 z1 z2 z3 z4) (lwT z1 z2 z3 z4) locs) (hl : lv_has ls 9 (lwL b xa ma o1 o2)) (kk : lwK p l e s m below meth c Q b A) : W p l e room_1 s m #[Value.ref b] below meth c H locs 100 10000 Q (F0 m 1619 ls []) := by
  have hh : kH D kStr e0 A s H [(xa, .inr (11, [.ref x1, .int 0, .ref x2, .int 0, .ref x3, .ref x4, .ref x5, .int 0])), (x3, .inr (9, [.ref g1, .int 0, .ref g2, .int 0, .ref g3, .ref g4])), (ma, .inr (16, [.int 0, .ref m1, .ref m2, .ref m3, .ref m4, .ref m5, .ref m6, .ref m7, .ref m8, .int 0, .int 0])), (m3, .inr (4, [.int 0, .ref e0.1, .int 0])), (o1, .inl (z3, 1, .inr (.inl (fun _ => 0))))] [(z3, .long)] _ := hh.sub [0, 1, 5, 8, 14] [2] rfl rfl rfl
  have hl : lv_has ls 9 [(5, .int 0), (4, .ref o2), (3, .ref o1), (2, .ref ma), (1, .ref xa), (0, .ref b)] := hl
  refine lv_aload_n hx hb dL_law_1619 rfl (lv_at hl 4 rfl) ?_
  refine lv_aload_n hx hb dL_law_1620 rfl (lv_at hl 5 rfl) ?_
  refine lv_iload hx hb dL_law_1621 (lv_at hl 0 rfl) ?_
  refine lv_iconst (v := 1) hx hb dL_law_1623 (by decide) ?_
  refine lv_iadd hx hb dL_law_1624 ?_
  refine W.eq (g2 := F0 m 1625 ls [.int 1, .ref b, .ref xa]) (by first | rfl | decide) ?_
  refine va_sld hx hb hX hbl hbA hh.2.2.2.1 (by unfold vp_in; decide) dL_law_1625 ?_
  refine W.eq (g2 := F0 m 1626 ls [.int (xs 1), .ref xa]) rfl ?_
  refine lv_aload_n hx hb dL_law_1626 rfl (lv_at hl 2 rfl) ?_
  refine k_callSX (wr := [(ma, .inr (16, [.int 0, .ref m1, .ref m2, .ref m3, .ref m4, .ref m5, .ref m6, .ref m7, .ref m8, .int 0, .int 0])), (m3, .inr (4, [.int 0, .ref e0.1, .int 0]))]) (rest := []) (own := RL) ⟨hx, hb, hml, hown, hts⟩ (c_L_startOf l hst D e0 xa x1 x2 x3 x4 x5 g1 g2 g3 g4 ((xs 1)) o1 z3 ((fun _ => 0)) ) (vx_cwSW 3 hts gl_S_c_L_startOf rfl rfl rfl (by decide +kernel) ⟨Nat.le_of_ble_eq_true rfl, Nat.le_of_ble_eq_true rfl⟩) hh [0, 1, 4] [2, 3] [0] rfl rfl rfl rfl (by decide) rfl rfl hl rfl (Nat.le_of_ble_eq_true rfl) dL_law_1627 ⟨Nat.le_of_ble_eq_true rfl, (Nat.le_of_ble_eq_true rfl)⟩ (fun _ _ _ _ _ h => h.elim) (fun v w ty1 H locs hp hh => ?_)
  obtain ⟨rfl, rfl, rfl⟩ := hp
  have hh : kH D kStr e0 A s H [(ma, .inr (16, [.int 0, .ref m1, .ref m2, .ref m3, .ref m4, .ref m5, .ref m6, .ref m7, .ref m8, .int 0, .int 0])), (m3, .inr (4, [.int 0, .ref e0.1, .int 0])), (o1, .inl (z3, 1, .inr (.inl (fun _ => 0))))] [(z3, .long), (z3, .long)] _ := hh
  refine W.eq (g2 := F0 m 1630 ls [.int 1]) (by first | rfl | decide) ?_
  refine lv_istore (lv' := [(6, .int 1), (5, .int 0), (4, .ref o2), (3, .ref o1), (2, .ref ma), (1, .ref xa), (0, .ref b)]) hx hb dL_law_1630 hl (by decide) rfl (fun ls hl => ?_)
  refine lv_aload_n hx hb dL_law_1632 rfl (lv_at hl 4 rfl) ?_
  refine lv_aload_n hx hb dL_law_1633 rfl (lv_at hl 6 rfl) ?_
  refine lv_iload hx hb dL_law_1634 (lv_at hl 1 rfl) ?_
  refine lv_iconst (v := 1) hx hb dL_law_1636 (by decide) ?_
  refine lv_iadd hx hb dL_law_1637 ?_
  refine W.eq (g2 := F0 m 1638 ls [.int 1, .ref b, .ref ma]) (by first | rfl | decide) ?_
  refine va_sld hx hb hX hbl hbA hh.2.2.2.1 (by unfold vp_in; decide) dL_law_1638 ?_
  refine W.eq (g2 := F0 m 1639 ls [.int (xs 1), .ref ma]) rfl ?_
  refine k_callV (C := RX11) (T := TX11) (N := 11) (ci := 16) (q0 := 0) (wr := [(o1, .inl (z3, 1, .inr (.inl (fun _ => 0))))]) (rest := []) (own := RL) ⟨hx, hb, hml, hown, hts⟩ (c_X11_startOf l hst D e0 ma 0 m1 m2 m3 m4 m5 m6 m7 m8 ((xs 1)) ) (cwV 1 hts gl_V_c_X11_startOf rfl rfl rfl (by decide +kernel) ⟨Nat.le_of_ble_eq_true rfl, Nat.le_of_ble_eq_true rfl⟩) hh rfl rfl [0, 1] [2] [] rfl rfl rfl rfl (by decide) rfl rfl hl rfl (Nat.le_of_ble_eq_true rfl) dL_law_1639 ⟨Nat.le_of_ble_eq_true rfl, (Nat.le_of_ble_eq_true rfl)⟩ (fun _ _ _ _ _ h => h.elim) (fun v w ty1 H locs hp hh => ?_)
  obtain ⟨rfl, rfl, rfl⟩ := hp
  have hh : kH D kStr e0 A s H [(o1, .inl (z3, 1, .inr (.inl (fun _ => 0)))), (ma, .inr (16, [.int 1, .ref m1, .ref m2, .ref m3, .ref m4, .ref m5, .ref m6, .ref m7, .ref m8, .int 0, .int 0]))] [(z3, .long), (z3, .long)] _ := hh
  refine W.eq (g2 := F0 m 1642 ls [.int 0]) (by first | rfl | decide) ?_
  refine lv_istore (lv' := [(7, .int 0), (6, .int 1), (5, .int 0), (4, .ref o2), (3, .ref o1), (2, .ref ma), (1, .ref xa), (0, .ref b)]) hx hb dL_law_1642 hl (by decide) rfl (fun ls hl => ?_)
  refine lv_aload_n hx hb dL_law_1644 rfl (lv_at hl 5 rfl) ?_
  refine k_callV (C := RX11) (T := TX11) (N := 11) (ci := 16) (q0 := 1) (wr := [(o1, .inl (z3, 1, .inr (.inl (fun _ => 0))))]) (rest := []) (own := RL) ⟨hx, hb, hml, hown, hts⟩ (c_X11_thrown l hst D e0 ma 1 m1 m2 m3 m4 m5 m6 m7 m8 ) (cwV 0 hts gl_V_c_X11_thrown rfl rfl rfl (by decide +kernel) ⟨Nat.le_of_ble_eq_true rfl, Nat.le_of_ble_eq_true rfl⟩) hh rfl rfl [1] [0] [] rfl rfl rfl rfl (by decide) rfl rfl hl rfl (Nat.le_of_ble_eq_true rfl) dL_law_1645 ⟨Nat.le_of_ble_eq_true rfl, (Nat.le_of_ble_eq_true rfl)⟩ (fun _ _ _ _ _ h => h.elim) (fun v w ty1 H locs hp hh => ?_)
  obtain ⟨rfl, rfl, rfl⟩ := hp
  have hh : kH D kStr e0 A s H [(o1, .inl (z3, 1, .inr (.inl (fun _ => 0)))), (ma, .inr (16, [.int 1, .ref m1, .ref m2, .ref m3, .ref m4, .ref m5, .ref m6, .ref m7, .ref m8, .int 0, .int 0]))] [(z3, .long), (z3, .long)] _ := hh
  refine W.eq (g2 := F0 m 1648 ls [.int 1]) (by first | rfl | decide) ?_
  refine lv_iload hx hb dL_law_1648 (lv_at hl 1 rfl) ?_
  refine lv_icmp_eq (tgt := 1655) hx hb dL_law_1650 (by decide) (fun _ => ?_) (fun c_1650 => absurd (by decide) c_1650)
  refine lv_iload hx hb dL_law_1655 (lv_at hl 1 rfl) ?_
  refine lv_if_ne (tgt := 1672) hx hb dL_law_1657 (by decide) (fun _ => ?_) (fun c_1657 => absurd c_1657 (by decide))
  refine lv_goto (tgt := 3429) hx hb dL_law_1672 (by decide) ?_
  refine W.widen (k := 1000) (n := 100000) (Nat.le_of_ble_eq_true rfl) (Nat.le_of_ble_eq_true rfl) ?_
  exact kk _ _ _ hh.2.2.2.1 (lv_sub hl [7, 2] rfl)
