theorem dL_law_1056 : decode cL_law 1056 = .ok (.iload 17, 2) := by decide +kernel
theorem dL_law_1058 : decode cL_law 1058 = .ok (.iaload, 1) := by decide +kernel
theorem dL_law_1059 : decode cL_law 1059 = .ok (.i2l, 1) := by decide +kernel
theorem dL_law_1060 : decode cL_law 1060 = .ok (.ladd, 1) := by decide +kernel
theorem dL_law_1061 : decode cL_law 1061 = .ok (.lastore, 1) := by decide +kernel
theorem dL_law_1062 : decode cL_law 1062 = .ok (.aload 6, 2) := by decide +kernel
theorem dL_law_1064 : decode cL_law 1064 = .ok (.iload 17, 2) := by decide +kernel
theorem dL_law_1066 : decode cL_law 1066 = .ok (.iaload, 1) := by decide +kernel
theorem dL_law_1067 : decode cL_law 1067 = .ok (.aload 5, 2) := by decide +kernel
theorem dL_law_1069 : decode cL_law 1069 = .ok (.iload 17, 2) := by decide +kernel
theorem dL_law_1071 : decode cL_law 1071 = .ok (.iaload, 1) := by decide +kernel
theorem dL_law_1072 : decode cL_law 1072 = .ok (.if_icmp .ne 7, 3) := by decide +kernel
theorem dL_law_1075 : decode cL_law 1075 = .ok (.iconst 1, 1) := by decide +kernel
theorem dL_law_1076 : decode cL_law 1076 = .ok (.goto 4, 3) := by decide +kernel
theorem dL_law_1079 : decode cL_law 1079 = .ok (.iconst 0, 1) := by decide +kernel
theorem dL_law_1080 : decode cL_law 1080 = .ok (.istore 22, 2) := by decide +kernel
theorem dL_law_1082 : decode cL_law 1082 = .ok (.aload 5, 2) := by decide +kernel
theorem dL_law_1084 : decode cL_law 1084 = .ok (.iload 17, 2) := by decide +kernel
theorem dL_law_1086 : decode cL_law 1086 = .ok (.dup2, 1) := by decide +kernel
theorem dL_law_1087 : decode cL_law 1087 = .ok (.iaload, 1) := by decide +kernel
theorem dL_law_1088 : decode cL_law 1088 = .ok (.aload 6, 2) := by decide +kernel
theorem dL_law_1090 : decode cL_law 1090 = .ok (.iload 17, 2) := by decide +kernel
theorem dL_law_1092 : decode cL_law 1092 = .ok (.iaload, 1) := by decide +kernel
theorem dL_law_1093 : decode cL_law 1093 = .ok (.isub, 1) := by decide +kernel
theorem dL_law_1094 : decode cL_law 1094 = .ok (.iastore, 1) := by decide +kernel
theorem dL_law_1095 : decode cL_law 1095 = .ok (.aload 6, 2) := by decide +kernel
theorem dL_law_1097 : decode cL_law 1097 = .ok (.iload 17, 2) := by decide +kernel
theorem dL_law_1099 : decode cL_law 1099 = .ok (.iconst 0, 1) := by decide +kernel
theorem dL_law_1100 : decode cL_law 1100 = .ok (.iastore, 1) := by decide +kernel
theorem dL_law_1101 : decode cL_law 1101 = .ok (.iload 21, 2) := by decide +kernel
theorem dL_law_1103 : decode cL_law 1103 = .ok (.iload 22, 2) := by decide +kernel
theorem dL_law_1105 : decode cL_law 1105 = .ok (.ifCond .eq 19, 3) := by decide +kernel
theorem dL_law_1108 : decode cL_law 1108 = .ok (.aload 4, 2) := by decide +kernel
theorem dL_law_1110 : decode cL_law 1110 = .ok (.aload 5, 2) := by decide +kernel
theorem dL_law_1112 : decode cL_law 1112 = .ok (.aload 10, 2) := by decide +kernel
theorem dL_law_1114 : decode cL_law 1114 = .ok (.aload 11, 2) := by decide +kernel
theorem dL_law_1116 : decode cL_law 1116 = .ok (.iload 17, 2) := by decide +kernel
theorem dL_law_1118 : decode cL_law 1118 = .ok (.invokestatic 33, 3) := by decide +kernel
theorem dL_law_1121 : decode cL_law 1121 = .ok (.goto 4, 3) := by decide +kernel
theorem dL_law_1124 : decode cL_law 1124 = .ok (.iconst 0, 1) := by decide +kernel
theorem dL_law_1125 : decode cL_law 1125 = .ok (.iadd, 1) := by decide +kernel
theorem dL_law_1126 : decode cL_law 1126 = .ok (.istore 21, 2) := by decide +kernel
theorem dL_law_1128 : decode cL_law 1128 = .ok (.aload_n 1, 1) := by decide +kernel
theorem dL_law_1129 : decode cL_law 1129 = .ok (.iconst 3, 1) := by decide +kernel
theorem dL_law_1130 : decode cL_law 1130 = .ok (.iload 17, 2) := by decide +kernel
theorem dL_law_1132 : decode cL_law 1132 = .ok (.iconst 0, 1) := by decide +kernel
theorem dL_law_1133 : decode cL_law 1133 = .ok (.invokestatic 81, 3) := by decide +kernel
theorem dL_law_1136 : decode cL_law 1136 = .ok (.iload 21, 2) := by decide +kernel
theorem dL_law_1138 : decode cL_law 1138 = .ok (.if_icmp .ne 7, 3) := by decide +kernel
theorem dL_law_1141 : decode cL_law 1141 = .ok (.iconst 1, 1) := by decide +kernel
theorem dL_law_1142 : decode cL_law 1142 = .ok (.goto 4, 3) := by decide +kernel
theorem dL_law_1145 : decode cL_law 1145 = .ok (.iconst 0, 1) := by decide +kernel
theorem dL_law_1146 : decode cL_law 1146 = .ok (.istore 12, 2) := by decide +kernel
theorem dL_law_1148 : decode cL_law 1148 = .ok (.goto 842, 3) := by decide +kernel
theorem dL_law_1151 : decode cL_law 1151 = .ok (.iload 15, 2) := by decide +kernel
theorem dL_law_1153 : decode cL_law 1153 = .ok (.bipush 13, 2) := by decide +kernel
theorem dL_law_1155 : decode cL_law 1155 = .ok (.if_icmp .ge 179, 3) := by decide +kernel
theorem dL_law_1158 : decode cL_law 1158 = .ok (.iconst 0, 1) := by decide +kernel
theorem dL_law_1159 : decode cL_law 1159 = .ok (.istore 20, 2) := by decide +kernel
theorem dL_law_1161 : decode cL_law 1161 = .ok (.iconst 0, 1) := by decide +kernel
theorem dL_law_1162 : decode cL_law 1162 = .ok (.istore 21, 2) := by decide +kernel
theorem dL_law_1164 : decode cL_law 1164 = .ok (.iload 21, 2) := by decide +kernel
theorem dL_law_1166 : decode cL_law 1166 = .ok (.aload_n 2, 1) := by decide +kernel
theorem dL_law_1167 : decode cL_law 1167 = .ok (.iconst 0, 1) := by decide +kernel
theorem dL_law_1168 : decode cL_law 1168 = .ok (.iaload, 1) := by decide +kernel
theorem dL_law_1169 : decode cL_law 1169 = .ok (.if_icmp .ge 47, 3) := by decide +kernel
theorem dL_law_1172 : decode cL_law 1172 = .ok (.iload 20, 2) := by decide +kernel
theorem dL_law_1174 : decode cL_law 1174 = .ok (.aload 4, 2) := by decide +kernel
theorem dL_law_1176 : decode cL_law 1176 = .ok (.iload 21, 2) := by decide +kernel
theorem dL_law_1178 : decode cL_law 1178 = .ok (.iaload, 1) := by decide +kernel
theorem dL_law_1179 : decode cL_law 1179 = .ok (.iload 18, 2) := by decide +kernel
theorem dL_law_1181 : decode cL_law 1181 = .ok (.if_icmp .ne 25, 3) := by decide +kernel
theorem dL_law_1184 : decode cL_law 1184 = .ok (.aload 5, 2) := by decide +kernel
theorem dL_law_1186 : decode cL_law 1186 = .ok (.iload 21, 2) := by decide +kernel
theorem dL_law_1188 : decode cL_law 1188 = .ok (.iaload, 1) := by decide +kernel
theorem dL_law_1189 : decode cL_law 1189 = .ok (.ifCond .le 17, 3) := by decide +kernel
theorem dL_law_1192 : decode cL_law 1192 = .ok (.aload 5, 2) := by decide +kernel
theorem dL_law_1194 : decode cL_law 1194 = .ok (.iload 21, 2) := by decide +kernel
theorem dL_law_1196 : decode cL_law 1196 = .ok (.iaload, 1) := by decide +kernel
theorem dL_law_1197 : decode cL_law 1197 = .ok (.aload 6, 2) := by decide +kernel
theorem dL_law_1199 : decode cL_law 1199 = .ok (.iload 21, 2) := by decide +kernel
theorem dL_law_1201 : decode cL_law 1201 = .ok (.iaload, 1) := by decide +kernel
theorem dL_law_1202 : decode cL_law 1202 = .ok (.isub, 1) := by decide +kernel
theorem dL_law_1203 : decode cL_law 1203 = .ok (.goto 4, 3) := by decide +kernel
theorem dL_law_1206 : decode cL_law 1206 = .ok (.iconst 0, 1) := by decide +kernel
theorem dL_law_1207 : decode cL_law 1207 = .ok (.iadd, 1) := by decide +kernel
theorem dL_law_1208 : decode cL_law 1208 = .ok (.istore 20, 2) := by decide +kernel
theorem dL_law_1210 : decode cL_law 1210 = .ok (.iinc 21 1, 3) := by decide +kernel
theorem dL_law_1213 : decode cL_law 1213 = .ok (.goto (-49), 3) := by decide +kernel
theorem dL_law_1216 : decode cL_law 1216 = .ok (.iload 16, 2) := by decide +kernel
theorem dL_law_1218 : decode cL_law 1218 = .ok (.iconst 4, 1) := by decide +kernel
theorem dL_law_1219 : decode cL_law 1219 = .ok (.irem, 1) := by decide +kernel
theorem dL_law_1220 : decode cL_law 1220 = .ok (.ifCond .ne 8, 3) := by decide +kernel
theorem dL_law_1223 : decode cL_law 1223 = .ok (.iload 19, 2) := by decide +kernel
theorem dL_law_1225 : decode cL_law 1225 = .ok (.goto 36, 3) := by decide +kernel
theorem dL_law_1228 : decode cL_law 1228 = .ok (.iload 20, 2) := by decide +kernel
theorem dL_law_1230 : decode cL_law 1230 = .ok (.iconst 1, 1) := by decide +kernel
theorem dL_law_1231 : decode cL_law 1231 = .ok (.if_icmp .ge 7, 3) := by decide +kernel
theorem dL_law_1234 : decode cL_law 1234 = .ok (.iconst 1, 1) := by decide +kernel
theorem dL_law_1235 : decode cL_law 1235 = .ok (.goto 26, 3) := by decide +kernel
theorem dL_law_1238 : decode cL_law 1238 = .ok (.iload 16, 2) := by decide +kernel
theorem dL_law_1240 : decode cL_law 1240 = .ok (.iconst 4, 1) := by decide +kernel
theorem dL_law_1241 : decode cL_law 1241 = .ok (.irem, 1) := by decide +kernel
theorem dL_law_1242 : decode cL_law 1242 = .ok (.iconst 1, 1) := by decide +kernel
theorem dL_law_1243 : decode cL_law 1243 = .ok (.if_icmp .ne 8, 3) := by decide +kernel
theorem dL_law_1246 : decode cL_law 1246 = .ok (.iload 20, 2) := by decide +kernel
theorem dL_law_1248 : decode cL_law 1248 = .ok (.goto 13, 3) := by decide +kernel
theorem dL_law_1251 : decode cL_law 1251 = .ok (.iconst 1, 1) := by decide +kernel
theorem dL_law_1252 : decode cL_law 1252 = .ok (.iload 16, 2) := by decide +kernel
theorem dL_law_1254 : decode cL_law 1254 = .ok (.bipush 9, 2) := by decide +kernel
theorem dL_law_1256 : decode cL_law 1256 = .ok (.idiv, 1) := by decide +kernel
theorem dL_law_1257 : decode cL_law 1257 = .ok (.iload 20, 2) := by decide +kernel
theorem dL_law_1259 : decode cL_law 1259 = .ok (.irem, 1) := by decide +kernel
theorem dL_law_1260 : decode cL_law 1260 = .ok (.iadd, 1) := by decide +kernel
theorem dL_law_1261 : decode cL_law 1261 = .ok (.istore 21, 2) := by decide +kernel
theorem dL_law_1263 : decode cL_law 1263 = .ok (.iload 21, 2) := by decide +kernel
theorem dL_law_1265 : decode cL_law 1265 = .ok (.ldc 132, 2) := by decide +kernel
theorem dL_law_1267 : decode cL_law 1267 = .ok (.if_icmp .le 8, 3) := by decide +kernel
theorem dL_law_1270 : decode cL_law 1270 = .ok (.ldc 132, 2) := by decide +kernel
theorem dL_law_1272 : decode cL_law 1272 = .ok (.goto 5, 3) := by decide +kernel
theorem dL_law_1275 : decode cL_law 1275 = .ok (.iload 21, 2) := by decide +kernel
theorem dL_law_1277 : decode cL_law 1277 = .ok (.istore 21, 2) := by decide +kernel
theorem dL_law_1279 : decode cL_law 1279 = .ok (.aload_n 1, 1) := by decide +kernel
theorem dL_law_1280 : decode cL_law 1280 = .ok (.iconst 4, 1) := by decide +kernel
theorem dL_law_1281 : decode cL_law 1281 = .ok (.iload 18, 2) := by decide +kernel
theorem dL_law_1283 : decode cL_law 1283 = .ok (.iload 21, 2) := by decide +kernel
theorem dL_law_1285 : decode cL_law 1285 = .ok (.invokestatic 81, 3) := by decide +kernel
theorem dL_law_1288 : decode cL_law 1288 = .ok (.iload 21, 2) := by decide +kernel
theorem dL_law_1290 : decode cL_law 1290 = .ok (.iload 20, 2) := by decide +kernel
theorem dL_law_1292 : decode cL_law 1292 = .ok (.if_icmp .le 8, 3) := by decide +kernel
theorem dL_law_1295 : decode cL_law 1295 = .ok (.bipush (-13), 2) := by decide +kernel
theorem dL_law_1297 : decode cL_law 1297 = .ok (.goto 24, 3) := by decide +kernel
theorem dL_law_1300 : decode cL_law 1300 = .ok (.aload_n 2, 1) := by decide +kernel
theorem dL_law_1301 : decode cL_law 1301 = .ok (.aload_n 3, 1) := by decide +kernel
theorem dL_law_1302 : decode cL_law 1302 = .ok (.aload 4, 2) := by decide +kernel
theorem dL_law_1304 : decode cL_law 1304 = .ok (.aload 5, 2) := by decide +kernel
theorem dL_law_1306 : decode cL_law 1306 = .ok (.aload 6, 2) := by decide +kernel
theorem dL_law_1308 : decode cL_law 1308 = .ok (.aload 9, 2) := by decide +kernel
theorem dL_law_1310 : decode cL_law 1310 = .ok (.aload 10, 2) := by decide +kernel
theorem dL_law_1312 : decode cL_law 1312 = .ok (.aload 11, 2) := by decide +kernel
theorem dL_law_1314 : decode cL_law 1314 = .ok (.iload 18, 2) := by decide +kernel
theorem dL_law_1316 : decode cL_law 1316 = .ok (.iload 21, 2) := by decide +kernel
theorem dL_law_1318 : decode cL_law 1318 = .ok (.invokestatic 133, 3) := by decide +kernel
theorem dL_law_1321 : decode cL_law 1321 = .ok (.if_icmp .ne 7, 3) := by decide +kernel
theorem dL_law_1324 : decode cL_law 1324 = .ok (.iconst 1, 1) := by decide +kernel
theorem dL_law_1325 : decode cL_law 1325 = .ok (.goto 4, 3) := by decide +kernel
theorem dL_law_1328 : decode cL_law 1328 = .ok (.iconst 0, 1) := by decide +kernel
theorem dL_law_1329 : decode cL_law 1329 = .ok (.istore 12, 2) := by decide +kernel
theorem dL_law_1331 : decode cL_law 1331 = .ok (.goto 659, 3) := by decide +kernel
theorem dL_law_1334 : decode cL_law 1334 = .ok (.iload 15, 2) := by decide +kernel
theorem dL_law_1336 : decode cL_law 1336 = .ok (.bipush 13, 2) := by decide +kernel
theorem dL_law_1338 : decode cL_law 1338 = .ok (.if_icmp .ne 104, 3) := by decide +kernel
theorem dL_law_1341 : decode cL_law 1341 = .ok (.aload 5, 2) := by decide +kernel
theorem dL_law_1343 : decode cL_law 1343 = .ok (.iload 17, 2) := by decide +kernel
theorem dL_law_1345 : decode cL_law 1345 = .ok (.iaload, 1) := by decide +kernel
theorem dL_law_1346 : decode cL_law 1346 = .ok (.ifCond .ne 8, 3) := by decide +kernel
theorem dL_law_1349 : decode cL_law 1349 = .ok (.bipush (-11), 2) := by decide +kernel
theorem dL_law_1351 : decode cL_law 1351 = .ok (.goto 27, 3) := by decide +kernel
theorem dL_law_1354 : decode cL_law 1354 = .ok (.aload 4, 2) := by decide +kernel
theorem dL_law_1356 : decode cL_law 1356 = .ok (.iload 17, 2) := by decide +kernel
theorem dL_law_1358 : decode cL_law 1358 = .ok (.iaload, 1) := by decide +kernel
theorem dL_law_1359 : decode cL_law 1359 = .ok (.bipush 10, 2) := by decide +kernel
theorem dL_law_1361 : decode cL_law 1361 = .ok (.if_icmp .ge 8, 3) := by decide +kernel
theorem dL_law_1364 : decode cL_law 1364 = .ok (.bipush (-13), 2) := by decide +kernel
theorem dL_law_1366 : decode cL_law 1366 = .ok (.goto 12, 3) := by decide +kernel
theorem dL_law_1369 : decode cL_law 1369 = .ok (.aload 8, 2) := by decide +kernel
theorem dL_law_1371 : decode cL_law 1371 = .ok (.iconst 3, 1) := by decide +kernel
theorem dL_law_1372 : decode cL_law 1372 = .ok (.iload 17, 2) := by decide +kernel
theorem dL_law_1374 : decode cL_law 1374 = .ok (.imul, 1) := by decide +kernel
theorem dL_law_1375 : decode cL_law 1375 = .ok (.iconst 1, 1) := by decide +kernel
theorem dL_law_1376 : decode cL_law 1376 = .ok (.iadd, 1) := by decide +kernel
theorem dL_law_1377 : decode cL_law 1377 = .ok (.iaload, 1) := by decide +kernel
theorem dL_law_1378 : decode cL_law 1378 = .ok (.istore 20, 2) := by decide +kernel
theorem dL_law_1380 : decode cL_law 1380 = .ok (.aload 8, 2) := by decide +kernel
theorem dL_law_1382 : decode cL_law 1382 = .ok (.iconst 3, 1) := by decide +kernel
theorem dL_law_1383 : decode cL_law 1383 = .ok (.iload 17, 2) := by decide +kernel
theorem dL_law_1385 : decode cL_law 1385 = .ok (.imul, 1) := by decide +kernel
theorem dL_law_1386 : decode cL_law 1386 = .ok (.iconst 1, 1) := by decide +kernel
theorem dL_law_1387 : decode cL_law 1387 = .ok (.iadd, 1) := by decide +kernel
theorem dL_law_1388 : decode cL_law 1388 = .ok (.iload 20, 2) := by decide +kernel
theorem dL_law_1390 : decode cL_law 1390 = .ok (.ifCond .lt 13, 3) := by decide +kernel
theorem dL_law_1393 : decode cL_law 1393 = .ok (.iload 16, 2) := by decide +kernel
theorem dL_law_1395 : decode cL_law 1395 = .ok (.bipush 20, 2) := by decide +kernel
theorem dL_law_1397 : decode cL_law 1397 = .ok (.idiv, 1) := by decide +kernel
theorem dL_law_1398 : decode cL_law 1398 = .ok (.iconst 3, 1) := by decide +kernel
theorem dL_law_1399 : decode cL_law 1399 = .ok (.irem, 1) := by decide +kernel
theorem dL_law_1400 : decode cL_law 1400 = .ok (.goto 12, 3) := by decide +kernel
theorem dL_law_1403 : decode cL_law 1403 = .ok (.aload 8, 2) := by decide +kernel
theorem dL_law_1405 : decode cL_law 1405 = .ok (.iconst 3, 1) := by decide +kernel
theorem dL_law_1406 : decode cL_law 1406 = .ok (.iload 17, 2) := by decide +kernel
theorem dL_law_1408 : decode cL_law 1408 = .ok (.imul, 1) := by decide +kernel
theorem dL_law_1409 : decode cL_law 1409 = .ok (.iconst 1, 1) := by decide +kernel
theorem dL_law_1410 : decode cL_law 1410 = .ok (.iadd, 1) := by decide +kernel
theorem dL_law_1411 : decode cL_law 1411 = .ok (.iaload, 1) := by decide +kernel
theorem dL_law_1412 : decode cL_law 1412 = .ok (.iastore, 1) := by decide +kernel
theorem dL_law_1413 : decode cL_law 1413 = .ok (.aload_n 1, 1) := by decide +kernel
theorem dL_law_1414 : decode cL_law 1414 = .ok (.iconst 5, 1) := by decide +kernel
theorem dL_law_1415 : decode cL_law 1415 = .ok (.iload 17, 2) := by decide +kernel
theorem dL_law_1417 : decode cL_law 1417 = .ok (.iload 16, 2) := by decide +kernel
theorem dL_law_1419 : decode cL_law 1419 = .ok (.bipush 20, 2) := by decide +kernel
theorem dL_law_1421 : decode cL_law 1421 = .ok (.idiv, 1) := by decide +kernel
theorem dL_law_1422 : decode cL_law 1422 = .ok (.iconst 3, 1) := by decide +kernel
theorem dL_law_1423 : decode cL_law 1423 = .ok (.irem, 1) := by decide +kernel
theorem dL_law_1424 : decode cL_law 1424 = .ok (.invokestatic 81, 3) := by decide +kernel
theorem dL_law_1427 : decode cL_law 1427 = .ok (.iload 20, 2) := by decide +kernel
theorem dL_law_1429 : decode cL_law 1429 = .ok (.if_icmp .ne 7, 3) := by decide +kernel
theorem dL_law_1432 : decode cL_law 1432 = .ok (.iconst 1, 1) := by decide +kernel
theorem dL_law_1433 : decode cL_law 1433 = .ok (.goto 4, 3) := by decide +kernel
theorem dL_law_1436 : decode cL_law 1436 = .ok (.iconst 0, 1) := by decide +kernel
theorem dL_law_1437 : decode cL_law 1437 = .ok (.istore 12, 2) := by decide +kernel
theorem dL_law_1439 : decode cL_law 1439 = .ok (.goto 551, 3) := by decide +kernel
theorem dL_law_1442 : decode cL_law 1442 = .ok (.iload 15, 2) := by decide +kernel
theorem dL_law_1444 : decode cL_law 1444 = .ok (.bipush 14, 2) := by decide +kernel
theorem dL_law_1446 : decode cL_law 1446 = .ok (.if_icmp .ne 170, 3) := by decide +kernel
theorem dL_law_1449 : decode cL_law 1449 = .ok (.aload 5, 2) := by decide +kernel
theorem dL_law_1451 : decode cL_law 1451 = .ok (.iload 17, 2) := by decide +kernel
theorem dL_law_1453 : decode cL_law 1453 = .ok (.iaload, 1) := by decide +kernel
theorem dL_law_1454 : decode cL_law 1454 = .ok (.ifCond .le 47, 3) := by decide +kernel
theorem dL_law_1457 : decode cL_law 1457 = .ok (.aload 4, 2) := by decide +kernel
theorem dL_law_1459 : decode cL_law 1459 = .ok (.iload 17, 2) := by decide +kernel
theorem dL_law_1461 : decode cL_law 1461 = .ok (.iaload, 1) := by decide +kernel
theorem dL_law_1462 : decode cL_law 1462 = .ok (.bipush 10, 2) := by decide +kernel
theorem dL_law_1464 : decode cL_law 1464 = .ok (.if_icmp .lt 37, 3) := by decide +kernel
theorem dL_law_1467 : decode cL_law 1467 = .ok (.aload 8, 2) := by decide +kernel
theorem dL_law_1469 : decode cL_law 1469 = .ok (.iconst 3, 1) := by decide +kernel
theorem dL_law_1470 : decode cL_law 1470 = .ok (.iload 17, 2) := by decide +kernel
theorem dL_law_1472 : decode cL_law 1472 = .ok (.imul, 1) := by decide +kernel
theorem dL_law_1473 : decode cL_law 1473 = .ok (.iconst 2, 1) := by decide +kernel
theorem dL_law_1474 : decode cL_law 1474 = .ok (.iadd, 1) := by decide +kernel
theorem dL_law_1475 : decode cL_law 1475 = .ok (.iaload, 1) := by decide +kernel
theorem dL_law_1476 : decode cL_law 1476 = .ok (.ifCond .lt 25, 3) := by decide +kernel
theorem dL_law_1479 : decode cL_law 1479 = .ok (.aload_n 2, 1) := by decide +kernel
theorem dL_law_1480 : decode cL_law 1480 = .ok (.iconst 1, 1) := by decide +kernel
theorem dL_law_1481 : decode cL_law 1481 = .ok (.iaload, 1) := by decide +kernel
theorem dL_law_1482 : decode cL_law 1482 = .ok (.aload 8, 2) := by decide +kernel
theorem dL_law_1484 : decode cL_law 1484 = .ok (.iconst 3, 1) := by decide +kernel
theorem dL_law_1485 : decode cL_law 1485 = .ok (.iload 17, 2) := by decide +kernel
theorem dL_law_1487 : decode cL_law 1487 = .ok (.imul, 1) := by decide +kernel
theorem dL_law_1488 : decode cL_law 1488 = .ok (.iconst 2, 1) := by decide +kernel
theorem dL_law_1489 : decode cL_law 1489 = .ok (.iadd, 1) := by decide +kernel
theorem dL_law_1490 : decode cL_law 1490 = .ok (.iaload, 1) := by decide +kernel
theorem dL_law_1491 : decode cL_law 1491 = .ok (.isub, 1) := by decide +kernel
theorem dL_law_1492 : decode cL_law 1492 = .ok (.bipush 6, 2) := by decide +kernel
theorem dL_law_1494 : decode cL_law 1494 = .ok (.if_icmp .gt 7, 3) := by decide +kernel
theorem dL_law_1497 : decode cL_law 1497 = .ok (.iconst 1, 1) := by decide +kernel
theorem dL_law_1498 : decode cL_law 1498 = .ok (.goto 4, 3) := by decide +kernel
theorem dL_law_1501 : decode cL_law 1501 = .ok (.iconst 0, 1) := by decide +kernel
theorem dL_law_1502 : decode cL_law 1502 = .ok (.istore 20, 2) := by decide +kernel
theorem dL_law_1504 : decode cL_law 1504 = .ok (.aload 5, 2) := by decide +kernel
theorem dL_law_1506 : decode cL_law 1506 = .ok (.iload 17, 2) := by decide +kernel
theorem dL_law_1508 : decode cL_law 1508 = .ok (.iaload, 1) := by decide +kernel
theorem dL_law_1509 : decode cL_law 1509 = .ok (.ifCond .ne 8, 3) := by decide +kernel
theorem dL_law_1512 : decode cL_law 1512 = .ok (.bipush (-11), 2) := by decide +kernel
theorem dL_law_1514 : decode cL_law 1514 = .ok (.goto 18, 3) := by decide +kernel
theorem dL_law_1517 : decode cL_law 1517 = .ok (.iload 20, 2) := by decide +kernel
theorem dL_law_1519 : decode cL_law 1519 = .ok (.ifCond .eq 11, 3) := by decide +kernel
theorem dL_law_1522 : decode cL_law 1522 = .ok (.aload 5, 2) := by decide +kernel
theorem dL_law_1524 : decode cL_law 1524 = .ok (.iload 17, 2) := by decide +kernel
theorem dL_law_1526 : decode cL_law 1526 = .ok (.iaload, 1) := by decide +kernel
theorem dL_law_1527 : decode cL_law 1527 = .ok (.goto 5, 3) := by decide +kernel
theorem dL_law_1530 : decode cL_law 1530 = .ok (.bipush (-13), 2) := by decide +kernel
theorem dL_law_1532 : decode cL_law 1532 = .ok (.istore 21, 2) := by decide +kernel
theorem dL_law_1534 : decode cL_law 1534 = .ok (.iload 20, 2) := by decide +kernel
theorem dL_law_1536 : decode cL_law 1536 = .ok (.ifCond .eq 56, 3) := by decide +kernel
theorem dL_law_1539 : decode cL_law 1539 = .ok (.aload 11, 2) := by decide +kernel
theorem dL_law_1541 : decode cL_law 1541 = .ok (.aload 4, 2) := by decide +kernel
theorem dL_law_1543 : decode cL_law 1543 = .ok (.iload 17, 2) := by decide +kernel
theorem dL_law_1545 : decode cL_law 1545 = .ok (.iaload, 1) := by decide +kernel
theorem dL_law_1546 : decode cL_law 1546 = .ok (.bipush 10, 2) := by decide +kernel
theorem dL_law_1548 : decode cL_law 1548 = .ok (.irem, 1) := by decide +kernel
theorem dL_law_1549 : decode cL_law 1549 = .ok (.dup2, 1) := by decide +kernel
theorem dL_law_1550 : decode cL_law 1550 = .ok (.laload, 1) := by decide +kernel
theorem dL_law_1551 : decode cL_law 1551 = .ok (.aload 5, 2) := by decide +kernel
theorem dL_law_1553 : decode cL_law 1553 = .ok (.iload 17, 2) := by decide +kernel
theorem dL_law_1555 : decode cL_law 1555 = .ok (.iaload, 1) := by decide +kernel
theorem dL_law_1556 : decode cL_law 1556 = .ok (.i2l, 1) := by decide +kernel
theorem dL_law_1557 : decode cL_law 1557 = .ok (.ladd, 1) := by decide +kernel
theorem dL_law_1558 : decode cL_law 1558 = .ok (.lastore, 1) := by decide +kernel
theorem dL_law_1559 : decode cL_law 1559 = .ok (.aload 11, 2) := by decide +kernel
theorem dL_law_1561 : decode cL_law 1561 = .ok (.iconst 4, 1) := by decide +kernel
theorem dL_law_1562 : decode cL_law 1562 = .ok (.aload 4, 2) := by decide +kernel
theorem dL_law_1564 : decode cL_law 1564 = .ok (.iload 17, 2) := by decide +kernel
theorem dL_law_1566 : decode cL_law 1566 = .ok (.iaload, 1) := by decide +kernel
theorem dL_law_1567 : decode cL_law 1567 = .ok (.bipush 10, 2) := by decide +kernel
theorem dL_law_1569 : decode cL_law 1569 = .ok (.irem, 1) := by decide +kernel
theorem dL_law_1570 : decode cL_law 1570 = .ok (.iadd, 1) := by decide +kernel
theorem dL_law_1571 : decode cL_law 1571 = .ok (.dup2, 1) := by decide +kernel
theorem dL_law_1572 : decode cL_law 1572 = .ok (.laload, 1) := by decide +kernel
theorem dL_law_1573 : decode cL_law 1573 = .ok (.aload 10, 2) := by decide +kernel
theorem dL_law_1575 : decode cL_law 1575 = .ok (.iload 17, 2) := by decide +kernel
theorem dL_law_1577 : decode cL_law 1577 = .ok (.laload, 1) := by decide +kernel
theorem dL_law_1578 : decode cL_law 1578 = .ok (.ladd, 1) := by decide +kernel
theorem dL_law_1579 : decode cL_law 1579 = .ok (.lastore, 1) := by decide +kernel
theorem dL_law_1580 : decode cL_law 1580 = .ok (.aload 5, 2) := by decide +kernel
theorem dL_law_1582 : decode cL_law 1582 = .ok (.iload 17, 2) := by decide +kernel
theorem dL_law_1584 : decode cL_law 1584 = .ok (.iconst 0, 1) := by decide +kernel
theorem dL_law_1585 : decode cL_law 1585 = .ok (.iastore, 1) := by decide +kernel
theorem dL_law_1586 : decode cL_law 1586 = .ok (.aload 10, 2) := by decide +kernel
theorem dL_law_1588 : decode cL_law 1588 = .ok (.iload 17, 2) := by decide +kernel
theorem dL_law_1590 : decode cL_law 1590 = .ok (.lconst 0, 1) := by decide +kernel
theorem dL_law_1591 : decode cL_law 1591 = .ok (.lastore, 1) := by decide +kernel
theorem dL_law_1592 : decode cL_law 1592 = .ok (.aload_n 1, 1) := by decide +kernel
theorem dL_law_1593 : decode cL_law 1593 = .ok (.bipush 6, 2) := by decide +kernel
theorem dL_law_1595 : decode cL_law 1595 = .ok (.iload 17, 2) := by decide +kernel
theorem dL_law_1597 : decode cL_law 1597 = .ok (.iconst 0, 1) := by decide +kernel
theorem dL_law_1598 : decode cL_law 1598 = .ok (.invokestatic 81, 3) := by decide +kernel
theorem dL_law_1601 : decode cL_law 1601 = .ok (.iload 21, 2) := by decide +kernel
theorem dL_law_1603 : decode cL_law 1603 = .ok (.if_icmp .ne 7, 3) := by decide +kernel
theorem dL_law_1606 : decode cL_law 1606 = .ok (.iconst 1, 1) := by decide +kernel
theorem dL_law_1607 : decode cL_law 1607 = .ok (.goto 4, 3) := by decide +kernel
theorem dL_law_1610 : decode cL_law 1610 = .ok (.iconst 0, 1) := by decide +kernel
theorem dL_law_1611 : decode cL_law 1611 = .ok (.istore 12, 2) := by decide +kernel
theorem dL_law_1613 : decode cL_law 1613 = .ok (.goto 377, 3) := by decide +kernel
theorem dL_law_1616 : decode cL_law 1616 = .ok (.iload 15, 2) := by decide +kernel
theorem dL_law_1618 : decode cL_law 1618 = .ok (.bipush 15, 2) := by decide +kernel
theorem dL_law_1620 : decode cL_law 1620 = .ok (.if_icmp .ne 301, 3) := by decide +kernel
theorem dL_law_1623 : decode cL_law 1623 = .ok (.aload_n 2, 1) := by decide +kernel
theorem dL_law_1624 : decode cL_law 1624 = .ok (.iconst 0, 1) := by decide +kernel
theorem dL_law_1625 : decode cL_law 1625 = .ok (.iaload, 1) := by decide +kernel
theorem dL_law_1626 : decode cL_law 1626 = .ok (.ifCond .le 295, 3) := by decide +kernel
theorem dL_law_1629 : decode cL_law 1629 = .ok (.iload 16, 2) := by decide +kernel
theorem dL_law_1631 : decode cL_law 1631 = .ok (.bipush 20, 2) := by decide +kernel
theorem dL_law_1633 : decode cL_law 1633 = .ok (.idiv, 1) := by decide +kernel
theorem dL_law_1634 : decode cL_law 1634 = .ok (.aload_n 2, 1) := by decide +kernel
theorem dL_law_1635 : decode cL_law 1635 = .ok (.iconst 0, 1) := by decide +kernel
theorem dL_law_1636 : decode cL_law 1636 = .ok (.iaload, 1) := by decide +kernel
theorem dL_law_1637 : decode cL_law 1637 = .ok (.irem, 1) := by decide +kernel
theorem dL_law_1638 : decode cL_law 1638 = .ok (.istore 20, 2) := by decide +kernel
theorem dL_law_1640 : decode cL_law 1640 = .ok (.iconst 0, 1) := by decide +kernel
theorem dL_law_1641 : decode cL_law 1641 = .ok (.istore 21, 2) := by decide +kernel
theorem dL_law_1643 : decode cL_law 1643 = .ok (.iload 21, 2) := by decide +kernel
theorem dL_law_1645 : decode cL_law 1645 = .ok (.aload_n 2, 1) := by decide +kernel
theorem dL_law_1646 : decode cL_law 1646 = .ok (.iconst 0, 1) := by decide +kernel
theorem dL_law_1647 : decode cL_law 1647 = .ok (.iaload, 1) := by decide +kernel
theorem dL_law_1648 : decode cL_law 1648 = .ok (.if_icmp .ge 67, 3) := by decide +kernel
theorem dL_law_1651 : decode cL_law 1651 = .ok (.iload 16, 2) := by decide +kernel
theorem dL_law_1653 : decode cL_law 1653 = .ok (.iconst 4, 1) := by decide +kernel
theorem dL_law_1654 : decode cL_law 1654 = .ok (.irem, 1) := by decide +kernel
theorem dL_law_1655 : decode cL_law 1655 = .ok (.ifCond .le 60, 3) := by decide +kernel
theorem dL_law_1658 : decode cL_law 1658 = .ok (.iload 20, 2) := by decide +kernel
theorem dL_law_1660 : decode cL_law 1660 = .ok (.iload 17, 2) := by decide +kernel
theorem dL_law_1662 : decode cL_law 1662 = .ok (.if_icmp .eq 37, 3) := by decide +kernel
theorem dL_law_1665 : decode cL_law 1665 = .ok (.aload 5, 2) := by decide +kernel
theorem dL_law_1667 : decode cL_law 1667 = .ok (.iload 20, 2) := by decide +kernel
theorem dL_law_1669 : decode cL_law 1669 = .ok (.iaload, 1) := by decide +kernel
theorem dL_law_1670 : decode cL_law 1670 = .ok (.ifCond .eq 29, 3) := by decide +kernel
theorem dL_law_1673 : decode cL_law 1673 = .ok (.aload 4, 2) := by decide +kernel
theorem dL_law_1675 : decode cL_law 1675 = .ok (.iload 20, 2) := by decide +kernel
theorem dL_law_1677 : decode cL_law 1677 = .ok (.iaload, 1) := by decide +kernel
theorem dL_law_1678 : decode cL_law 1678 = .ok (.aload 4, 2) := by decide +kernel
theorem dL_law_1680 : decode cL_law 1680 = .ok (.iload 17, 2) := by decide +kernel
theorem dL_law_1682 : decode cL_law 1682 = .ok (.iaload, 1) := by decide +kernel
theorem dL_law_1683 : decode cL_law 1683 = .ok (.if_icmp .ne 16, 3) := by decide +kernel
theorem dL_law_1686 : decode cL_law 1686 = .ok (.aload 7, 2) := by decide +kernel
theorem dL_law_1688 : decode cL_law 1688 = .ok (.iload 20, 2) := by decide +kernel
theorem dL_law_1690 : decode cL_law 1690 = .ok (.iaload, 1) := by decide +kernel
theorem dL_law_1691 : decode cL_law 1691 = .ok (.aload 7, 2) := by decide +kernel
theorem dL_law_1693 : decode cL_law 1693 = .ok (.iload 17, 2) := by decide +kernel
theorem dL_law_1695 : decode cL_law 1695 = .ok (.iaload, 1) := by decide +kernel
theorem dL_law_1696 : decode cL_law 1696 = .ok (.if_icmp .eq 19, 3) := by decide +kernel
theorem dL_law_1699 : decode cL_law 1699 = .ok (.iload 20, 2) := by decide +kernel
theorem dL_law_1701 : decode cL_law 1701 = .ok (.iconst 1, 1) := by decide +kernel
theorem dL_law_1702 : decode cL_law 1702 = .ok (.iadd, 1) := by decide +kernel
theorem dL_law_1703 : decode cL_law 1703 = .ok (.aload_n 2, 1) := by decide +kernel
theorem dL_law_1704 : decode cL_law 1704 = .ok (.iconst 0, 1) := by decide +kernel
theorem dL_law_1705 : decode cL_law 1705 = .ok (.iaload, 1) := by decide +kernel
theorem dL_law_1706 : decode cL_law 1706 = .ok (.irem, 1) := by decide +kernel
theorem dL_law_1707 : decode cL_law 1707 = .ok (.istore 20, 2) := by decide +kernel
theorem dL_law_1709 : decode cL_law 1709 = .ok (.iinc 21 1, 3) := by decide +kernel
theorem dL_law_1712 : decode cL_law 1712 = .ok (.goto (-69), 3) := by decide +kernel
theorem dL_law_1715 : decode cL_law 1715 = .ok (.aload 4, 2) := by decide +kernel
theorem dL_law_1717 : decode cL_law 1717 = .ok (.iload 17, 2) := by decide +kernel
theorem dL_law_1719 : decode cL_law 1719 = .ok (.iaload, 1) := by decide +kernel
theorem dL_law_1720 : decode cL_law 1720 = .ok (.bipush 10, 2) := by decide +kernel
theorem dL_law_1722 : decode cL_law 1722 = .ok (.if_icmp .lt 49, 3) := by decide +kernel
theorem dL_law_1725 : decode cL_law 1725 = .ok (.aload 4, 2) := by decide +kernel
theorem dL_law_1727 : decode cL_law 1727 = .ok (.iload 20, 2) := by decide +kernel
theorem dL_law_1729 : decode cL_law 1729 = .ok (.iaload, 1) := by decide +kernel
theorem dL_law_1730 : decode cL_law 1730 = .ok (.aload 4, 2) := by decide +kernel
theorem dL_law_1732 : decode cL_law 1732 = .ok (.iload 17, 2) := by decide +kernel
theorem dL_law_1734 : decode cL_law 1734 = .ok (.iaload, 1) := by decide +kernel
theorem dL_law_1735 : decode cL_law 1735 = .ok (.if_icmp .ne 36, 3) := by decide +kernel
theorem dL_law_1738 : decode cL_law 1738 = .ok (.aload 7, 2) := by decide +kernel
theorem dL_law_1740 : decode cL_law 1740 = .ok (.iload 20, 2) := by decide +kernel
theorem dL_law_1742 : decode cL_law 1742 = .ok (.iaload, 1) := by decide +kernel
theorem dL_law_1743 : decode cL_law 1743 = .ok (.aload 7, 2) := by decide +kernel
theorem dL_law_1745 : decode cL_law 1745 = .ok (.iload 17, 2) := by decide +kernel
theorem dL_law_1747 : decode cL_law 1747 = .ok (.iaload, 1) := by decide +kernel
theorem dL_law_1748 : decode cL_law 1748 = .ok (.if_icmp .ne 23, 3) := by decide +kernel
theorem dL_law_1751 : decode cL_law 1751 = .ok (.aload 5, 2) := by decide +kernel
theorem dL_law_1753 : decode cL_law 1753 = .ok (.iload 17, 2) := by decide +kernel
theorem dL_law_1755 : decode cL_law 1755 = .ok (.iaload, 1) := by decide +kernel
theorem dL_law_1756 : decode cL_law 1756 = .ok (.aload 5, 2) := by decide +kernel
theorem dL_law_1758 : decode cL_law 1758 = .ok (.iload 20, 2) := by decide +kernel
theorem dL_law_1760 : decode cL_law 1760 = .ok (.iaload, 1) := by decide +kernel
theorem dL_law_1761 : decode cL_law 1761 = .ok (.iadd, 1) := by decide +kernel
theorem dL_law_1762 : decode cL_law 1762 = .ok (.ldc 132, 2) := by decide +kernel
theorem dL_law_1764 : decode cL_law 1764 = .ok (.if_icmp .gt 7, 3) := by decide +kernel
theorem dL_law_1767 : decode cL_law 1767 = .ok (.iconst 1, 1) := by decide +kernel
theorem dL_law_1768 : decode cL_law 1768 = .ok (.goto 4, 3) := by decide +kernel
theorem dL_law_1771 : decode cL_law 1771 = .ok (.iconst 0, 1) := by decide +kernel
theorem dL_law_1772 : decode cL_law 1772 = .ok (.istore 21, 2) := by decide +kernel
theorem dL_law_1774 : decode cL_law 1774 = .ok (.aload 5, 2) := by decide +kernel
theorem dL_law_1776 : decode cL_law 1776 = .ok (.iload 17, 2) := by decide +kernel
theorem dL_law_1778 : decode cL_law 1778 = .ok (.iaload, 1) := by decide +kernel
theorem dL_law_1779 : decode cL_law 1779 = .ok (.ifCond .eq 11, 3) := by decide +kernel
theorem dL_law_1782 : decode cL_law 1782 = .ok (.aload 5, 2) := by decide +kernel
theorem dL_law_1784 : decode cL_law 1784 = .ok (.iload 20, 2) := by decide +kernel
theorem dL_law_1786 : decode cL_law 1786 = .ok (.iaload, 1) := by decide +kernel
theorem dL_law_1787 : decode cL_law 1787 = .ok (.ifCond .ne 8, 3) := by decide +kernel
theorem dL_law_1790 : decode cL_law 1790 = .ok (.bipush (-11), 2) := by decide +kernel
theorem dL_law_1792 : decode cL_law 1792 = .ok (.goto 36, 3) := by decide +kernel
theorem dL_law_1795 : decode cL_law 1795 = .ok (.iload 17, 2) := by decide +kernel
theorem dL_law_1797 : decode cL_law 1797 = .ok (.iload 20, 2) := by decide +kernel
theorem dL_law_1799 : decode cL_law 1799 = .ok (.if_icmp .ne 8, 3) := by decide +kernel
theorem dL_law_1802 : decode cL_law 1802 = .ok (.bipush (-12), 2) := by decide +kernel
theorem dL_law_1804 : decode cL_law 1804 = .ok (.goto 24, 3) := by decide +kernel
theorem dL_law_1807 : decode cL_law 1807 = .ok (.iload 21, 2) := by decide +kernel
theorem dL_law_1809 : decode cL_law 1809 = .ok (.ifCond .eq 17, 3) := by decide +kernel
theorem dL_law_1812 : decode cL_law 1812 = .ok (.aload 5, 2) := by decide +kernel
theorem dL_law_1814 : decode cL_law 1814 = .ok (.iload 17, 2) := by decide +kernel
theorem dL_law_1816 : decode cL_law 1816 = .ok (.iaload, 1) := by decide +kernel
theorem dL_law_1817 : decode cL_law 1817 = .ok (.aload 5, 2) := by decide +kernel
theorem dL_law_1819 : decode cL_law 1819 = .ok (.iload 20, 2) := by decide +kernel
theorem dL_law_1821 : decode cL_law 1821 = .ok (.iaload, 1) := by decide +kernel
theorem dL_law_1822 : decode cL_law 1822 = .ok (.iadd, 1) := by decide +kernel
theorem dL_law_1823 : decode cL_law 1823 = .ok (.goto 5, 3) := by decide +kernel
theorem dL_law_1826 : decode cL_law 1826 = .ok (.bipush (-13), 2) := by decide +kernel
theorem dL_law_1828 : decode cL_law 1828 = .ok (.istore 22, 2) := by decide +kernel
theorem dL_law_1830 : decode cL_law 1830 = .ok (.iload 22, 2) := by decide +kernel
theorem dL_law_1832 : decode cL_law 1832 = .ok (.ifCond .lt 64, 3) := by decide +kernel
theorem dL_law_1835 : decode cL_law 1835 = .ok (.aload 5, 2) := by decide +kernel
theorem dL_law_1837 : decode cL_law 1837 = .ok (.iload 17, 2) := by decide +kernel
theorem dL_law_1839 : decode cL_law 1839 = .ok (.dup2, 1) := by decide +kernel
theorem dL_law_1840 : decode cL_law 1840 = .ok (.iaload, 1) := by decide +kernel
theorem dL_law_1841 : decode cL_law 1841 = .ok (.aload 5, 2) := by decide +kernel
theorem dL_law_1843 : decode cL_law 1843 = .ok (.iload 20, 2) := by decide +kernel
theorem dL_law_1845 : decode cL_law 1845 = .ok (.iaload, 1) := by decide +kernel
theorem dL_law_1846 : decode cL_law 1846 = .ok (.iadd, 1) := by decide +kernel
theorem dL_law_1847 : decode cL_law 1847 = .ok (.iastore, 1) := by decide +kernel
theorem dL_law_1848 : decode cL_law 1848 = .ok (.aload 10, 2) := by decide +kernel
theorem dL_law_1850 : decode cL_law 1850 = .ok (.iload 17, 2) := by decide +kernel
theorem dL_law_1852 : decode cL_law 1852 = .ok (.dup2, 1) := by decide +kernel
theorem dL_law_1853 : decode cL_law 1853 = .ok (.laload, 1) := by decide +kernel
theorem dL_law_1854 : decode cL_law 1854 = .ok (.aload 10, 2) := by decide +kernel
theorem dL_law_1856 : decode cL_law 1856 = .ok (.iload 20, 2) := by decide +kernel
theorem dL_law_1858 : decode cL_law 1858 = .ok (.laload, 1) := by decide +kernel
theorem dL_law_1859 : decode cL_law 1859 = .ok (.ladd, 1) := by decide +kernel
theorem dL_law_1860 : decode cL_law 1860 = .ok (.lastore, 1) := by decide +kernel
theorem dL_law_1861 : decode cL_law 1861 = .ok (.aload 9, 2) := by decide +kernel
theorem dL_law_1863 : decode cL_law 1863 = .ok (.iload 17, 2) := by decide +kernel
theorem dL_law_1865 : decode cL_law 1865 = .ok (.dup2, 1) := by decide +kernel
theorem dL_law_1866 : decode cL_law 1866 = .ok (.laload, 1) := by decide +kernel
theorem dL_law_1867 : decode cL_law 1867 = .ok (.aload 9, 2) := by decide +kernel
theorem dL_law_1869 : decode cL_law 1869 = .ok (.iload 20, 2) := by decide +kernel
theorem dL_law_1871 : decode cL_law 1871 = .ok (.laload, 1) := by decide +kernel
theorem dL_law_1872 : decode cL_law 1872 = .ok (.ladd, 1) := by decide +kernel
theorem dL_law_1873 : decode cL_law 1873 = .ok (.lastore, 1) := by decide +kernel
theorem dL_law_1874 : decode cL_law 1874 = .ok (.aload 8, 2) := by decide +kernel
theorem dL_law_1876 : decode cL_law 1876 = .ok (.iconst 3, 1) := by decide +kernel
theorem dL_law_1877 : decode cL_law 1877 = .ok (.iload 17, 2) := by decide +kernel
theorem dL_law_1879 : decode cL_law 1879 = .ok (.imul, 1) := by decide +kernel
theorem dL_law_1880 : decode cL_law 1880 = .ok (.iconst 2, 1) := by decide +kernel
theorem dL_law_1881 : decode cL_law 1881 = .ok (.iadd, 1) := by decide +kernel
theorem dL_law_1882 : decode cL_law 1882 = .ok (.iconst (-1), 1) := by decide +kernel
theorem dL_law_1883 : decode cL_law 1883 = .ok (.iastore, 1) := by decide +kernel
theorem dL_law_1884 : decode cL_law 1884 = .ok (.aload 5, 2) := by decide +kernel
theorem dL_law_1886 : decode cL_law 1886 = .ok (.iload 20, 2) := by decide +kernel
theorem dL_law_1888 : decode cL_law 1888 = .ok (.iconst 0, 1) := by decide +kernel
theorem dL_law_1889 : decode cL_law 1889 = .ok (.iastore, 1) := by decide +kernel
theorem dL_law_1890 : decode cL_law 1890 = .ok (.aload 10, 2) := by decide +kernel
theorem dL_law_1892 : decode cL_law 1892 = .ok (.iload 20, 2) := by decide +kernel
theorem dL_law_1894 : decode cL_law 1894 = .ok (.lconst 0, 1) := by decide +kernel
theorem dL_law_1895 : decode cL_law 1895 = .ok (.lastore, 1) := by decide +kernel
theorem dL_law_1896 : decode cL_law 1896 = .ok (.aload_n 1, 1) := by decide +kernel
theorem dL_law_1897 : decode cL_law 1897 = .ok (.bipush 7, 2) := by decide +kernel
theorem dL_law_1899 : decode cL_law 1899 = .ok (.iload 17, 2) := by decide +kernel
theorem dL_law_1901 : decode cL_law 1901 = .ok (.iload 20, 2) := by decide +kernel
theorem dL_law_1903 : decode cL_law 1903 = .ok (.invokestatic 81, 3) := by decide +kernel
theorem dL_law_1906 : decode cL_law 1906 = .ok (.iload 22, 2) := by decide +kernel
theorem dL_law_1908 : decode cL_law 1908 = .ok (.if_icmp .ne 7, 3) := by decide +kernel
theorem dL_law_1911 : decode cL_law 1911 = .ok (.iconst 1, 1) := by decide +kernel
theorem dL_law_1912 : decode cL_law 1912 = .ok (.goto 4, 3) := by decide +kernel
theorem dL_law_1915 : decode cL_law 1915 = .ok (.iconst 0, 1) := by decide +kernel
theorem dL_law_1916 : decode cL_law 1916 = .ok (.istore 12, 2) := by decide +kernel
theorem dL_law_1918 : decode cL_law 1918 = .ok (.goto 72, 3) := by decide +kernel
theorem dL_law_1921 : decode cL_law 1921 = .ok (.aload_n 2, 1) := by decide +kernel
theorem dL_law_1922 : decode cL_law 1922 = .ok (.iconst 1, 1) := by decide +kernel
theorem dL_law_1923 : decode cL_law 1923 = .ok (.iaload, 1) := by decide +kernel
theorem dL_law_1924 : decode cL_law 1924 = .ok (.sipush 900, 3) := by decide +kernel
theorem dL_law_1927 : decode cL_law 1927 = .ok (.if_icmp .ge 63, 3) := by decide +kernel
theorem dL_law_1930 : decode cL_law 1930 = .ok (.iconst 1, 1) := by decide +kernel
theorem dL_law_1931 : decode cL_law 1931 = .ok (.iload 16, 2) := by decide +kernel
theorem dL_law_1933 : decode cL_law 1933 = .ok (.iload 16, 2) := by decide +kernel
theorem dL_law_1935 : decode cL_law 1935 = .ok (.iconst 3, 1) := by decide +kernel
theorem dL_law_1936 : decode cL_law 1936 = .ok (.irem, 1) := by decide +kernel
theorem dL_law_1937 : decode cL_law 1937 = .ok (.ifCond .ne 8, 3) := by decide +kernel
theorem dL_law_1940 : decode cL_law 1940 = .ok (.bipush 40, 2) := by decide +kernel
theorem dL_law_1942 : decode cL_law 1942 = .ok (.goto 5, 3) := by decide +kernel
theorem dL_law_1945 : decode cL_law 1945 = .ok (.bipush 8, 2) := by decide +kernel
theorem dL_law_1947 : decode cL_law 1947 = .ok (.irem, 1) := by decide +kernel
theorem dL_law_1948 : decode cL_law 1948 = .ok (.iadd, 1) := by decide +kernel
theorem dL_law_1949 : decode cL_law 1949 = .ok (.istore 20, 2) := by decide +kernel
theorem dL_law_1951 : decode cL_law 1951 = .ok (.aload_n 1, 1) := by decide +kernel
theorem dL_law_1952 : decode cL_law 1952 = .ok (.iload 20, 2) := by decide +kernel
theorem dL_law_1954 : decode cL_law 1954 = .ok (.invokevirtual 137, 3) := by decide +kernel
theorem dL_law_1957 : decode cL_law 1957 = .ok (.aload_n 2, 1) := by decide +kernel
theorem dL_law_1958 : decode cL_law 1958 = .ok (.aload_n 3, 1) := by decide +kernel
theorem dL_law_1959 : decode cL_law 1959 = .ok (.aload 4, 2) := by decide +kernel
theorem dL_law_1961 : decode cL_law 1961 = .ok (.aload 5, 2) := by decide +kernel
theorem dL_law_1963 : decode cL_law 1963 = .ok (.aload 6, 2) := by decide +kernel
theorem dL_law_1965 : decode cL_law 1965 = .ok (.aload 7, 2) := by decide +kernel
theorem dL_law_1967 : decode cL_law 1967 = .ok (.aload 8, 2) := by decide +kernel
theorem dL_law_1969 : decode cL_law 1969 = .ok (.aload 9, 2) := by decide +kernel
theorem dL_law_1971 : decode cL_law 1971 = .ok (.aload 10, 2) := by decide +kernel
theorem dL_law_1973 : decode cL_law 1973 = .ok (.aload 11, 2) := by decide +kernel
theorem dL_law_1975 : decode cL_law 1975 = .ok (.iload 20, 2) := by decide +kernel
theorem dL_law_1977 : decode cL_law 1977 = .ok (.invokestatic 140, 3) := by decide +kernel
theorem dL_law_1980 : decode cL_law 1980 = .ok (.if_icmp .ne 7, 3) := by decide +kernel
theorem dL_law_1983 : decode cL_law 1983 = .ok (.iconst 1, 1) := by decide +kernel
theorem dL_law_1984 : decode cL_law 1984 = .ok (.goto 4, 3) := by decide +kernel
theorem dL_law_1987 : decode cL_law 1987 = .ok (.iconst 0, 1) := by decide +kernel
theorem dL_law_1988 : decode cL_law 1988 = .ok (.istore 12, 2) := by decide +kernel
theorem dL_law_1990 : decode cL_law 1990 = .ok (.iload 12, 2) := by decide +kernel
theorem dL_law_1992 : decode cL_law 1992 = .ok (.ifCond .eq 38, 3) := by decide +kernel
theorem dL_law_1995 : decode cL_law 1995 = .ok (.iload 13, 2) := by decide +kernel
theorem dL_law_1997 : decode cL_law 1997 = .ok (.iconst 3, 1) := by decide +kernel
theorem dL_law_1998 : decode cL_law 1998 = .ok (.irem, 1) := by decide +kernel
theorem dL_law_1999 : decode cL_law 1999 = .ok (.iconst 2, 1) := by decide +kernel
theorem dL_law_2000 : decode cL_law 2000 = .ok (.if_icmp .lt 26, 3) := by decide +kernel
theorem dL_law_2003 : decode cL_law 2003 = .ok (.aload_n 1, 1) := by decide +kernel
theorem dL_law_2004 : decode cL_law 2004 = .ok (.aload_n 2, 1) := by decide +kernel
theorem dL_law_2005 : decode cL_law 2005 = .ok (.aload_n 3, 1) := by decide +kernel
theorem dL_law_2006 : decode cL_law 2006 = .ok (.aload 4, 2) := by decide +kernel
theorem dL_law_2008 : decode cL_law 2008 = .ok (.aload 5, 2) := by decide +kernel
theorem dL_law_2010 : decode cL_law 2010 = .ok (.aload 6, 2) := by decide +kernel
theorem dL_law_2012 : decode cL_law 2012 = .ok (.aload 7, 2) := by decide +kernel
theorem dL_law_2014 : decode cL_law 2014 = .ok (.aload 9, 2) := by decide +kernel
theorem dL_law_2016 : decode cL_law 2016 = .ok (.aload 10, 2) := by decide +kernel
theorem dL_law_2018 : decode cL_law 2018 = .ok (.aload 11, 2) := by decide +kernel
theorem dL_law_2020 : decode cL_law 2020 = .ok (.invokestatic 110, 3) := by decide +kernel
theorem dL_law_2023 : decode cL_law 2023 = .ok (.ifCond .eq 7, 3) := by decide +kernel
theorem dL_law_2026 : decode cL_law 2026 = .ok (.iconst 1, 1) := by decide +kernel
theorem dL_law_2027 : decode cL_law 2027 = .ok (.goto 4, 3) := by decide +kernel
theorem dL_law_2030 : decode cL_law 2030 = .ok (.iconst 0, 1) := by decide +kernel
theorem dL_law_2031 : decode cL_law 2031 = .ok (.istore 12, 2) := by decide +kernel
theorem dL_law_2033 : decode cL_law 2033 = .ok (.iinc 13 1, 3) := by decide +kernel
theorem dL_law_2036 : decode cL_law 2036 = .ok (.goto (-1924), 3) := by decide +kernel
theorem dL_law_2039 : decode cL_law 2039 = .ok (.iload 12, 2) := by decide +kernel
theorem dL_law_2041 : decode cL_law 2041 = .ok (.ifCond .eq 30, 3) := by decide +kernel
theorem dL_law_2044 : decode cL_law 2044 = .ok (.aload_n 1, 1) := by decide +kernel
theorem dL_law_2045 : decode cL_law 2045 = .ok (.aload_n 2, 1) := by decide +kernel
theorem dL_law_2046 : decode cL_law 2046 = .ok (.aload_n 3, 1) := by decide +kernel
theorem dL_law_2047 : decode cL_law 2047 = .ok (.aload 4, 2) := by decide +kernel
theorem dL_law_2049 : decode cL_law 2049 = .ok (.aload 5, 2) := by decide +kernel
theorem dL_law_2051 : decode cL_law 2051 = .ok (.aload 6, 2) := by decide +kernel
theorem dL_law_2053 : decode cL_law 2053 = .ok (.aload 7, 2) := by decide +kernel
theorem dL_law_2055 : decode cL_law 2055 = .ok (.aload 9, 2) := by decide +kernel
theorem dL_law_2057 : decode cL_law 2057 = .ok (.aload 10, 2) := by decide +kernel
theorem dL_law_2059 : decode cL_law 2059 = .ok (.aload 11, 2) := by decide +kernel
theorem dL_law_2061 : decode cL_law 2061 = .ok (.invokestatic 110, 3) := by decide +kernel
theorem dL_law_2064 : decode cL_law 2064 = .ok (.ifCond .eq 7, 3) := by decide +kernel
theorem dL_law_2067 : decode cL_law 2067 = .ok (.iconst 1, 1) := by decide +kernel
theorem dL_law_2068 : decode cL_law 2068 = .ok (.goto 4, 3) := by decide +kernel
theorem dL_law_2071 : decode cL_law 2071 = .ok (.iconst 0, 1) := by decide +kernel
theorem dL_law_2072 : decode cL_law 2072 = .ok (.ireturn, 1) := by decide +kernel
