theorem dW_1083 : decode code 1083 = .ok (.aload_n 0, 1) := by decide +kernel
theorem dW_1084 : decode code 1084 = .ok (.iload 4, 2) := by decide +kernel
theorem dW_1086 : decode code 1086 = .ok (.iconst 2, 1) := by decide +kernel
theorem dW_1087 : decode code 1087 = .ok (.iadd, 1) := by decide +kernel
theorem dW_1088 : decode code 1088 = .ok (.iaload, 1) := by decide +kernel
theorem dW_1089 : decode code 1089 = .ok (.aload_n 0, 1) := by decide +kernel
theorem dW_1090 : decode code 1090 = .ok (.iload 4, 2) := by decide +kernel
theorem dW_1092 : decode code 1092 = .ok (.iconst 3, 1) := by decide +kernel
theorem dW_1093 : decode code 1093 = .ok (.iadd, 1) := by decide +kernel
theorem dW_1094 : decode code 1094 = .ok (.iaload, 1) := by decide +kernel
theorem dW_1095 : decode code 1095 = .ok (.aload_n 0, 1) := by decide +kernel
theorem dW_1096 : decode code 1096 = .ok (.iload 4, 2) := by decide +kernel
theorem dW_1098 : decode code 1098 = .ok (.iconst 4, 1) := by decide +kernel
theorem dW_1099 : decode code 1099 = .ok (.iadd, 1) := by decide +kernel
theorem dW_1100 : decode code 1100 = .ok (.iaload, 1) := by decide +kernel
theorem dW_1101 : decode code 1101 = .ok (.invokevirtual 94, 3) := by decide +kernel
theorem dW_1104 : decode code 1104 = .ok (.aload_n 2, 1) := by decide +kernel
theorem dW_1105 : decode code 1105 = .ok (.aload_n 0, 1) := by decide +kernel
theorem dW_1106 : decode code 1106 = .ok (.iload 4, 2) := by decide +kernel
theorem dW_1108 : decode code 1108 = .ok (.iconst 1, 1) := by decide +kernel
theorem dW_1109 : decode code 1109 = .ok (.iadd, 1) := by decide +kernel
theorem dW_1110 : decode code 1110 = .ok (.iaload, 1) := by decide +kernel
theorem dW_1111 : decode code 1111 = .ok (.aload_n 0, 1) := by decide +kernel
theorem dW_1112 : decode code 1112 = .ok (.iload 4, 2) := by decide +kernel
theorem dW_1114 : decode code 1114 = .ok (.iconst 2, 1) := by decide +kernel
theorem dW_1115 : decode code 1115 = .ok (.iadd, 1) := by decide +kernel
theorem dW_1116 : decode code 1116 = .ok (.iaload, 1) := by decide +kernel
theorem dW_1117 : decode code 1117 = .ok (.aload_n 0, 1) := by decide +kernel
theorem dW_1118 : decode code 1118 = .ok (.iload 4, 2) := by decide +kernel
theorem dW_1120 : decode code 1120 = .ok (.iconst 3, 1) := by decide +kernel
theorem dW_1121 : decode code 1121 = .ok (.iadd, 1) := by decide +kernel
theorem dW_1122 : decode code 1122 = .ok (.iaload, 1) := by decide +kernel
theorem dW_1123 : decode code 1123 = .ok (.aload_n 0, 1) := by decide +kernel
theorem dW_1124 : decode code 1124 = .ok (.iload 4, 2) := by decide +kernel
theorem dW_1126 : decode code 1126 = .ok (.iconst 4, 1) := by decide +kernel
theorem dW_1127 : decode code 1127 = .ok (.iadd, 1) := by decide +kernel
theorem dW_1128 : decode code 1128 = .ok (.iaload, 1) := by decide +kernel
theorem dW_1129 : decode code 1129 = .ok (.invokevirtual 97, 3) := by decide +kernel
theorem dW_1132 : decode code 1132 = .ok (.if_icmp .eq 883, 3) := by decide +kernel
theorem dW_1137 : decode code 1137 = .ok (.aload_n 1, 1) := by decide +kernel
theorem dW_1138 : decode code 1138 = .ok (.aload_n 0, 1) := by decide +kernel
theorem dW_1139 : decode code 1139 = .ok (.iload 4, 2) := by decide +kernel
theorem dW_1141 : decode code 1141 = .ok (.iconst 1, 1) := by decide +kernel
theorem dW_1142 : decode code 1142 = .ok (.iadd, 1) := by decide +kernel
theorem dW_1143 : decode code 1143 = .ok (.iaload, 1) := by decide +kernel
theorem dW_1144 : decode code 1144 = .ok (.aload_n 0, 1) := by decide +kernel
theorem dW_1145 : decode code 1145 = .ok (.iload 4, 2) := by decide +kernel
theorem dW_1147 : decode code 1147 = .ok (.iconst 2, 1) := by decide +kernel
theorem dW_1148 : decode code 1148 = .ok (.iadd, 1) := by decide +kernel
theorem dW_1149 : decode code 1149 = .ok (.iaload, 1) := by decide +kernel
theorem dW_1150 : decode code 1150 = .ok (.aload_n 0, 1) := by decide +kernel
theorem dW_1151 : decode code 1151 = .ok (.iload 4, 2) := by decide +kernel
theorem dW_1153 : decode code 1153 = .ok (.iconst 3, 1) := by decide +kernel
theorem dW_1154 : decode code 1154 = .ok (.iadd, 1) := by decide +kernel
theorem dW_1155 : decode code 1155 = .ok (.iaload, 1) := by decide +kernel
theorem dW_1156 : decode code 1156 = .ok (.aload_n 0, 1) := by decide +kernel
theorem dW_1157 : decode code 1157 = .ok (.iload 4, 2) := by decide +kernel
theorem dW_1159 : decode code 1159 = .ok (.iconst 4, 1) := by decide +kernel
theorem dW_1160 : decode code 1160 = .ok (.iadd, 1) := by decide +kernel
theorem dW_1161 : decode code 1161 = .ok (.iaload, 1) := by decide +kernel
theorem dW_1162 : decode code 1162 = .ok (.invokevirtual 98, 3) := by decide +kernel
theorem dW_1165 : decode code 1165 = .ok (.aload_n 2, 1) := by decide +kernel
theorem dW_1166 : decode code 1166 = .ok (.aload_n 0, 1) := by decide +kernel
theorem dW_1167 : decode code 1167 = .ok (.iload 4, 2) := by decide +kernel
theorem dW_1169 : decode code 1169 = .ok (.iconst 1, 1) := by decide +kernel
theorem dW_1170 : decode code 1170 = .ok (.iadd, 1) := by decide +kernel
theorem dW_1171 : decode code 1171 = .ok (.iaload, 1) := by decide +kernel
theorem dW_1172 : decode code 1172 = .ok (.aload_n 0, 1) := by decide +kernel
theorem dW_1173 : decode code 1173 = .ok (.iload 4, 2) := by decide +kernel
theorem dW_1175 : decode code 1175 = .ok (.iconst 2, 1) := by decide +kernel
theorem dW_1176 : decode code 1176 = .ok (.iadd, 1) := by decide +kernel
theorem dW_1177 : decode code 1177 = .ok (.iaload, 1) := by decide +kernel
theorem dW_1178 : decode code 1178 = .ok (.aload_n 0, 1) := by decide +kernel
theorem dW_1179 : decode code 1179 = .ok (.iload 4, 2) := by decide +kernel
theorem dW_1181 : decode code 1181 = .ok (.iconst 3, 1) := by decide +kernel
theorem dW_1182 : decode code 1182 = .ok (.iadd, 1) := by decide +kernel
theorem dW_1183 : decode code 1183 = .ok (.iaload, 1) := by decide +kernel
theorem dW_1184 : decode code 1184 = .ok (.aload_n 0, 1) := by decide +kernel
theorem dW_1185 : decode code 1185 = .ok (.iload 4, 2) := by decide +kernel
theorem dW_1187 : decode code 1187 = .ok (.iconst 4, 1) := by decide +kernel
theorem dW_1188 : decode code 1188 = .ok (.iadd, 1) := by decide +kernel
theorem dW_1189 : decode code 1189 = .ok (.iaload, 1) := by decide +kernel
theorem dW_1190 : decode code 1190 = .ok (.invokevirtual 101, 3) := by decide +kernel
theorem dW_1193 : decode code 1193 = .ok (.if_icmp .eq 822, 3) := by decide +kernel
theorem dW_1198 : decode code 1198 = .ok (.aload_n 1, 1) := by decide +kernel
theorem dW_1199 : decode code 1199 = .ok (.aload_n 0, 1) := by decide +kernel
theorem dW_1200 : decode code 1200 = .ok (.iload 4, 2) := by decide +kernel
theorem dW_1202 : decode code 1202 = .ok (.iconst 1, 1) := by decide +kernel
theorem dW_1203 : decode code 1203 = .ok (.iadd, 1) := by decide +kernel
theorem dW_1204 : decode code 1204 = .ok (.iaload, 1) := by decide +kernel
theorem dW_1205 : decode code 1205 = .ok (.aload_n 0, 1) := by decide +kernel
theorem dW_1206 : decode code 1206 = .ok (.iload 4, 2) := by decide +kernel
theorem dW_1208 : decode code 1208 = .ok (.iconst 2, 1) := by decide +kernel
theorem dW_1209 : decode code 1209 = .ok (.iadd, 1) := by decide +kernel
theorem dW_1210 : decode code 1210 = .ok (.iaload, 1) := by decide +kernel
theorem dW_1211 : decode code 1211 = .ok (.aload_n 0, 1) := by decide +kernel
theorem dW_1212 : decode code 1212 = .ok (.iload 4, 2) := by decide +kernel
theorem dW_1214 : decode code 1214 = .ok (.iconst 3, 1) := by decide +kernel
theorem dW_1215 : decode code 1215 = .ok (.iadd, 1) := by decide +kernel
theorem dW_1216 : decode code 1216 = .ok (.iaload, 1) := by decide +kernel
theorem dW_1217 : decode code 1217 = .ok (.aload_n 0, 1) := by decide +kernel
theorem dW_1218 : decode code 1218 = .ok (.iload 4, 2) := by decide +kernel
theorem dW_1220 : decode code 1220 = .ok (.iconst 4, 1) := by decide +kernel
theorem dW_1221 : decode code 1221 = .ok (.iadd, 1) := by decide +kernel
theorem dW_1222 : decode code 1222 = .ok (.iaload, 1) := by decide +kernel
theorem dW_1223 : decode code 1223 = .ok (.invokevirtual 102, 3) := by decide +kernel
theorem dW_1226 : decode code 1226 = .ok (.aload_n 2, 1) := by decide +kernel
theorem dW_1227 : decode code 1227 = .ok (.aload_n 0, 1) := by decide +kernel
theorem dW_1228 : decode code 1228 = .ok (.iload 4, 2) := by decide +kernel
theorem dW_1230 : decode code 1230 = .ok (.iconst 1, 1) := by decide +kernel
theorem dW_1231 : decode code 1231 = .ok (.iadd, 1) := by decide +kernel
theorem dW_1232 : decode code 1232 = .ok (.iaload, 1) := by decide +kernel
theorem dW_1233 : decode code 1233 = .ok (.aload_n 0, 1) := by decide +kernel
theorem dW_1234 : decode code 1234 = .ok (.iload 4, 2) := by decide +kernel
theorem dW_1236 : decode code 1236 = .ok (.iconst 2, 1) := by decide +kernel
theorem dW_1237 : decode code 1237 = .ok (.iadd, 1) := by decide +kernel
theorem dW_1238 : decode code 1238 = .ok (.iaload, 1) := by decide +kernel
theorem dW_1239 : decode code 1239 = .ok (.aload_n 0, 1) := by decide +kernel
theorem dW_1240 : decode code 1240 = .ok (.iload 4, 2) := by decide +kernel
theorem dW_1242 : decode code 1242 = .ok (.iconst 3, 1) := by decide +kernel
theorem dW_1243 : decode code 1243 = .ok (.iadd, 1) := by decide +kernel
theorem dW_1244 : decode code 1244 = .ok (.iaload, 1) := by decide +kernel
theorem dW_1245 : decode code 1245 = .ok (.aload_n 0, 1) := by decide +kernel
theorem dW_1246 : decode code 1246 = .ok (.iload 4, 2) := by decide +kernel
theorem dW_1248 : decode code 1248 = .ok (.iconst 4, 1) := by decide +kernel
theorem dW_1249 : decode code 1249 = .ok (.iadd, 1) := by decide +kernel
theorem dW_1250 : decode code 1250 = .ok (.iaload, 1) := by decide +kernel
theorem dW_1251 : decode code 1251 = .ok (.invokevirtual 105, 3) := by decide +kernel
theorem dW_1254 : decode code 1254 = .ok (.if_icmp .eq 761, 3) := by decide +kernel
theorem dW_1259 : decode code 1259 = .ok (.aload_n 1, 1) := by decide +kernel
theorem dW_1260 : decode code 1260 = .ok (.aload_n 0, 1) := by decide +kernel
theorem dW_1261 : decode code 1261 = .ok (.iload 4, 2) := by decide +kernel
theorem dW_1263 : decode code 1263 = .ok (.iconst 1, 1) := by decide +kernel
theorem dW_1264 : decode code 1264 = .ok (.iadd, 1) := by decide +kernel
theorem dW_1265 : decode code 1265 = .ok (.iaload, 1) := by decide +kernel
theorem dW_1266 : decode code 1266 = .ok (.aload_n 0, 1) := by decide +kernel
theorem dW_1267 : decode code 1267 = .ok (.iload 4, 2) := by decide +kernel
theorem dW_1269 : decode code 1269 = .ok (.iconst 2, 1) := by decide +kernel
theorem dW_1270 : decode code 1270 = .ok (.iadd, 1) := by decide +kernel
theorem dW_1271 : decode code 1271 = .ok (.iaload, 1) := by decide +kernel
theorem dW_1272 : decode code 1272 = .ok (.aload_n 0, 1) := by decide +kernel
theorem dW_1273 : decode code 1273 = .ok (.iload 4, 2) := by decide +kernel
theorem dW_1275 : decode code 1275 = .ok (.iconst 3, 1) := by decide +kernel
theorem dW_1276 : decode code 1276 = .ok (.iadd, 1) := by decide +kernel
theorem dW_1277 : decode code 1277 = .ok (.iaload, 1) := by decide +kernel
theorem dW_1278 : decode code 1278 = .ok (.invokevirtual 106, 3) := by decide +kernel
theorem dW_1281 : decode code 1281 = .ok (.aload_n 2, 1) := by decide +kernel
theorem dW_1282 : decode code 1282 = .ok (.aload_n 0, 1) := by decide +kernel
theorem dW_1283 : decode code 1283 = .ok (.iload 4, 2) := by decide +kernel
theorem dW_1285 : decode code 1285 = .ok (.iconst 1, 1) := by decide +kernel
theorem dW_1286 : decode code 1286 = .ok (.iadd, 1) := by decide +kernel
theorem dW_1287 : decode code 1287 = .ok (.iaload, 1) := by decide +kernel
theorem dW_1288 : decode code 1288 = .ok (.aload_n 0, 1) := by decide +kernel
theorem dW_1289 : decode code 1289 = .ok (.iload 4, 2) := by decide +kernel
theorem dW_1291 : decode code 1291 = .ok (.iconst 2, 1) := by decide +kernel
theorem dW_1292 : decode code 1292 = .ok (.iadd, 1) := by decide +kernel
theorem dW_1293 : decode code 1293 = .ok (.iaload, 1) := by decide +kernel
theorem dW_1294 : decode code 1294 = .ok (.aload_n 0, 1) := by decide +kernel
theorem dW_1295 : decode code 1295 = .ok (.iload 4, 2) := by decide +kernel
theorem dW_1297 : decode code 1297 = .ok (.iconst 3, 1) := by decide +kernel
theorem dW_1298 : decode code 1298 = .ok (.iadd, 1) := by decide +kernel
theorem dW_1299 : decode code 1299 = .ok (.iaload, 1) := by decide +kernel
theorem dW_1300 : decode code 1300 = .ok (.invokevirtual 109, 3) := by decide +kernel
theorem dW_1303 : decode code 1303 = .ok (.if_icmp .eq 712, 3) := by decide +kernel
theorem dW_1308 : decode code 1308 = .ok (.aload_n 1, 1) := by decide +kernel
theorem dW_1309 : decode code 1309 = .ok (.aload_n 0, 1) := by decide +kernel
theorem dW_1310 : decode code 1310 = .ok (.iload 4, 2) := by decide +kernel
theorem dW_1312 : decode code 1312 = .ok (.iconst 1, 1) := by decide +kernel
theorem dW_1313 : decode code 1313 = .ok (.iadd, 1) := by decide +kernel
theorem dW_1314 : decode code 1314 = .ok (.iaload, 1) := by decide +kernel
theorem dW_1315 : decode code 1315 = .ok (.aload_n 0, 1) := by decide +kernel
theorem dW_1316 : decode code 1316 = .ok (.iload 4, 2) := by decide +kernel
theorem dW_1318 : decode code 1318 = .ok (.iconst 2, 1) := by decide +kernel
theorem dW_1319 : decode code 1319 = .ok (.iadd, 1) := by decide +kernel
theorem dW_1320 : decode code 1320 = .ok (.iaload, 1) := by decide +kernel
theorem dW_1321 : decode code 1321 = .ok (.aload_n 0, 1) := by decide +kernel
theorem dW_1322 : decode code 1322 = .ok (.iload 4, 2) := by decide +kernel
theorem dW_1324 : decode code 1324 = .ok (.iconst 3, 1) := by decide +kernel
theorem dW_1325 : decode code 1325 = .ok (.iadd, 1) := by decide +kernel
theorem dW_1326 : decode code 1326 = .ok (.iaload, 1) := by decide +kernel
theorem dW_1327 : decode code 1327 = .ok (.aload_n 0, 1) := by decide +kernel
theorem dW_1328 : decode code 1328 = .ok (.iload 4, 2) := by decide +kernel
theorem dW_1330 : decode code 1330 = .ok (.iconst 4, 1) := by decide +kernel
theorem dW_1331 : decode code 1331 = .ok (.iadd, 1) := by decide +kernel
theorem dW_1332 : decode code 1332 = .ok (.iaload, 1) := by decide +kernel
theorem dW_1333 : decode code 1333 = .ok (.invokevirtual 110, 3) := by decide +kernel
theorem dW_1336 : decode code 1336 = .ok (.aload_n 2, 1) := by decide +kernel
theorem dW_1337 : decode code 1337 = .ok (.aload_n 0, 1) := by decide +kernel
theorem dW_1338 : decode code 1338 = .ok (.iload 4, 2) := by decide +kernel
theorem dW_1340 : decode code 1340 = .ok (.iconst 1, 1) := by decide +kernel
theorem dW_1341 : decode code 1341 = .ok (.iadd, 1) := by decide +kernel
theorem dW_1342 : decode code 1342 = .ok (.iaload, 1) := by decide +kernel
theorem dW_1343 : decode code 1343 = .ok (.aload_n 0, 1) := by decide +kernel
theorem dW_1344 : decode code 1344 = .ok (.iload 4, 2) := by decide +kernel
theorem dW_1346 : decode code 1346 = .ok (.iconst 2, 1) := by decide +kernel
theorem dW_1347 : decode code 1347 = .ok (.iadd, 1) := by decide +kernel
theorem dW_1348 : decode code 1348 = .ok (.iaload, 1) := by decide +kernel
theorem dW_1349 : decode code 1349 = .ok (.aload_n 0, 1) := by decide +kernel
theorem dW_1350 : decode code 1350 = .ok (.iload 4, 2) := by decide +kernel
theorem dW_1352 : decode code 1352 = .ok (.iconst 3, 1) := by decide +kernel
theorem dW_1353 : decode code 1353 = .ok (.iadd, 1) := by decide +kernel
theorem dW_1354 : decode code 1354 = .ok (.iaload, 1) := by decide +kernel
theorem dW_1355 : decode code 1355 = .ok (.aload_n 0, 1) := by decide +kernel
theorem dW_1356 : decode code 1356 = .ok (.iload 4, 2) := by decide +kernel
theorem dW_1358 : decode code 1358 = .ok (.iconst 4, 1) := by decide +kernel
theorem dW_1359 : decode code 1359 = .ok (.iadd, 1) := by decide +kernel
theorem dW_1360 : decode code 1360 = .ok (.iaload, 1) := by decide +kernel
theorem dW_1361 : decode code 1361 = .ok (.invokevirtual 113, 3) := by decide +kernel
theorem dW_1364 : decode code 1364 = .ok (.if_icmp .eq 651, 3) := by decide +kernel
theorem dW_1369 : decode code 1369 = .ok (.aload_n 1, 1) := by decide +kernel
theorem dW_1370 : decode code 1370 = .ok (.aload_n 0, 1) := by decide +kernel
theorem dW_1371 : decode code 1371 = .ok (.iload 4, 2) := by decide +kernel
theorem dW_1373 : decode code 1373 = .ok (.iconst 1, 1) := by decide +kernel
theorem dW_1374 : decode code 1374 = .ok (.iadd, 1) := by decide +kernel
theorem dW_1375 : decode code 1375 = .ok (.iaload, 1) := by decide +kernel
theorem dW_1376 : decode code 1376 = .ok (.aload_n 0, 1) := by decide +kernel
theorem dW_1377 : decode code 1377 = .ok (.iload 4, 2) := by decide +kernel
theorem dW_1379 : decode code 1379 = .ok (.iconst 2, 1) := by decide +kernel
theorem dW_1380 : decode code 1380 = .ok (.iadd, 1) := by decide +kernel
theorem dW_1381 : decode code 1381 = .ok (.iaload, 1) := by decide +kernel
theorem dW_1382 : decode code 1382 = .ok (.aload_n 0, 1) := by decide +kernel
theorem dW_1383 : decode code 1383 = .ok (.iload 4, 2) := by decide +kernel
theorem dW_1385 : decode code 1385 = .ok (.iconst 3, 1) := by decide +kernel
theorem dW_1386 : decode code 1386 = .ok (.iadd, 1) := by decide +kernel
theorem dW_1387 : decode code 1387 = .ok (.iaload, 1) := by decide +kernel
theorem dW_1388 : decode code 1388 = .ok (.invokevirtual 114, 3) := by decide +kernel
theorem dW_1391 : decode code 1391 = .ok (.aload_n 2, 1) := by decide +kernel
theorem dW_1392 : decode code 1392 = .ok (.aload_n 0, 1) := by decide +kernel
theorem dW_1393 : decode code 1393 = .ok (.iload 4, 2) := by decide +kernel
theorem dW_1395 : decode code 1395 = .ok (.iconst 1, 1) := by decide +kernel
theorem dW_1396 : decode code 1396 = .ok (.iadd, 1) := by decide +kernel
theorem dW_1397 : decode code 1397 = .ok (.iaload, 1) := by decide +kernel
theorem dW_1398 : decode code 1398 = .ok (.aload_n 0, 1) := by decide +kernel
theorem dW_1399 : decode code 1399 = .ok (.iload 4, 2) := by decide +kernel
theorem dW_1401 : decode code 1401 = .ok (.iconst 2, 1) := by decide +kernel
theorem dW_1402 : decode code 1402 = .ok (.iadd, 1) := by decide +kernel
theorem dW_1403 : decode code 1403 = .ok (.iaload, 1) := by decide +kernel
theorem dW_1404 : decode code 1404 = .ok (.aload_n 0, 1) := by decide +kernel
theorem dW_1405 : decode code 1405 = .ok (.iload 4, 2) := by decide +kernel
theorem dW_1407 : decode code 1407 = .ok (.iconst 3, 1) := by decide +kernel
theorem dW_1408 : decode code 1408 = .ok (.iadd, 1) := by decide +kernel
theorem dW_1409 : decode code 1409 = .ok (.iaload, 1) := by decide +kernel
theorem dW_1410 : decode code 1410 = .ok (.invokevirtual 117, 3) := by decide +kernel
theorem dW_1413 : decode code 1413 = .ok (.if_icmp .eq 602, 3) := by decide +kernel
theorem dW_1418 : decode code 1418 = .ok (.aload_n 1, 1) := by decide +kernel
theorem dW_1419 : decode code 1419 = .ok (.aload_n 0, 1) := by decide +kernel
theorem dW_1420 : decode code 1420 = .ok (.iload 4, 2) := by decide +kernel
theorem dW_1422 : decode code 1422 = .ok (.iconst 1, 1) := by decide +kernel
theorem dW_1423 : decode code 1423 = .ok (.iadd, 1) := by decide +kernel
theorem dW_1424 : decode code 1424 = .ok (.iaload, 1) := by decide +kernel
theorem dW_1425 : decode code 1425 = .ok (.aload_n 0, 1) := by decide +kernel
theorem dW_1426 : decode code 1426 = .ok (.iload 4, 2) := by decide +kernel
theorem dW_1428 : decode code 1428 = .ok (.iconst 2, 1) := by decide +kernel
theorem dW_1429 : decode code 1429 = .ok (.iadd, 1) := by decide +kernel
theorem dW_1430 : decode code 1430 = .ok (.iaload, 1) := by decide +kernel
theorem dW_1431 : decode code 1431 = .ok (.aload_n 0, 1) := by decide +kernel
theorem dW_1432 : decode code 1432 = .ok (.iload 4, 2) := by decide +kernel
theorem dW_1434 : decode code 1434 = .ok (.iconst 3, 1) := by decide +kernel
theorem dW_1435 : decode code 1435 = .ok (.iadd, 1) := by decide +kernel
theorem dW_1436 : decode code 1436 = .ok (.iaload, 1) := by decide +kernel
theorem dW_1437 : decode code 1437 = .ok (.aload_n 0, 1) := by decide +kernel
theorem dW_1438 : decode code 1438 = .ok (.iload 4, 2) := by decide +kernel
theorem dW_1440 : decode code 1440 = .ok (.iconst 4, 1) := by decide +kernel
theorem dW_1441 : decode code 1441 = .ok (.iadd, 1) := by decide +kernel
theorem dW_1442 : decode code 1442 = .ok (.iaload, 1) := by decide +kernel
theorem dW_1443 : decode code 1443 = .ok (.invokevirtual 118, 3) := by decide +kernel
theorem dW_1446 : decode code 1446 = .ok (.aload_n 2, 1) := by decide +kernel
theorem dW_1447 : decode code 1447 = .ok (.aload_n 0, 1) := by decide +kernel
theorem dW_1448 : decode code 1448 = .ok (.iload 4, 2) := by decide +kernel
theorem dW_1450 : decode code 1450 = .ok (.iconst 1, 1) := by decide +kernel
theorem dW_1451 : decode code 1451 = .ok (.iadd, 1) := by decide +kernel
theorem dW_1452 : decode code 1452 = .ok (.iaload, 1) := by decide +kernel
theorem dW_1453 : decode code 1453 = .ok (.aload_n 0, 1) := by decide +kernel
theorem dW_1454 : decode code 1454 = .ok (.iload 4, 2) := by decide +kernel
theorem dW_1456 : decode code 1456 = .ok (.iconst 2, 1) := by decide +kernel
theorem dW_1457 : decode code 1457 = .ok (.iadd, 1) := by decide +kernel
theorem dW_1458 : decode code 1458 = .ok (.iaload, 1) := by decide +kernel
theorem dW_1459 : decode code 1459 = .ok (.aload_n 0, 1) := by decide +kernel
theorem dW_1460 : decode code 1460 = .ok (.iload 4, 2) := by decide +kernel
theorem dW_1462 : decode code 1462 = .ok (.iconst 3, 1) := by decide +kernel
theorem dW_1463 : decode code 1463 = .ok (.iadd, 1) := by decide +kernel
theorem dW_1464 : decode code 1464 = .ok (.iaload, 1) := by decide +kernel
theorem dW_1465 : decode code 1465 = .ok (.aload_n 0, 1) := by decide +kernel
theorem dW_1466 : decode code 1466 = .ok (.iload 4, 2) := by decide +kernel
theorem dW_1468 : decode code 1468 = .ok (.iconst 4, 1) := by decide +kernel
theorem dW_1469 : decode code 1469 = .ok (.iadd, 1) := by decide +kernel
theorem dW_1470 : decode code 1470 = .ok (.iaload, 1) := by decide +kernel
theorem dW_1471 : decode code 1471 = .ok (.invokevirtual 121, 3) := by decide +kernel
theorem dW_1474 : decode code 1474 = .ok (.if_icmp .eq 541, 3) := by decide +kernel
theorem dW_1479 : decode code 1479 = .ok (.aload_n 1, 1) := by decide +kernel
theorem dW_1480 : decode code 1480 = .ok (.aload_n 0, 1) := by decide +kernel
theorem dW_1481 : decode code 1481 = .ok (.iload 4, 2) := by decide +kernel
theorem dW_1483 : decode code 1483 = .ok (.iconst 1, 1) := by decide +kernel
theorem dW_1484 : decode code 1484 = .ok (.iadd, 1) := by decide +kernel
theorem dW_1485 : decode code 1485 = .ok (.iaload, 1) := by decide +kernel
theorem dW_1486 : decode code 1486 = .ok (.aload_n 0, 1) := by decide +kernel
theorem dW_1487 : decode code 1487 = .ok (.iload 4, 2) := by decide +kernel
theorem dW_1489 : decode code 1489 = .ok (.iconst 2, 1) := by decide +kernel
theorem dW_1490 : decode code 1490 = .ok (.iadd, 1) := by decide +kernel
theorem dW_1491 : decode code 1491 = .ok (.iaload, 1) := by decide +kernel
theorem dW_1492 : decode code 1492 = .ok (.aload_n 0, 1) := by decide +kernel
theorem dW_1493 : decode code 1493 = .ok (.iload 4, 2) := by decide +kernel
theorem dW_1495 : decode code 1495 = .ok (.iconst 3, 1) := by decide +kernel
theorem dW_1496 : decode code 1496 = .ok (.iadd, 1) := by decide +kernel
theorem dW_1497 : decode code 1497 = .ok (.iaload, 1) := by decide +kernel
theorem dW_1498 : decode code 1498 = .ok (.aload_n 0, 1) := by decide +kernel
theorem dW_1499 : decode code 1499 = .ok (.iload 4, 2) := by decide +kernel
theorem dW_1501 : decode code 1501 = .ok (.iconst 4, 1) := by decide +kernel
theorem dW_1502 : decode code 1502 = .ok (.iadd, 1) := by decide +kernel
theorem dW_1503 : decode code 1503 = .ok (.iaload, 1) := by decide +kernel
theorem dW_1504 : decode code 1504 = .ok (.ifCond .eq 7, 3) := by decide +kernel
theorem dW_1507 : decode code 1507 = .ok (.iconst 1, 1) := by decide +kernel
theorem dW_1508 : decode code 1508 = .ok (.goto 4, 3) := by decide +kernel
theorem dW_1511 : decode code 1511 = .ok (.iconst 0, 1) := by decide +kernel
theorem dW_1512 : decode code 1512 = .ok (.invokevirtual 122, 3) := by decide +kernel
theorem dW_1515 : decode code 1515 = .ok (.aload_n 2, 1) := by decide +kernel
theorem dW_1516 : decode code 1516 = .ok (.aload_n 0, 1) := by decide +kernel
theorem dW_1517 : decode code 1517 = .ok (.iload 4, 2) := by decide +kernel
theorem dW_1519 : decode code 1519 = .ok (.iconst 1, 1) := by decide +kernel
theorem dW_1520 : decode code 1520 = .ok (.iadd, 1) := by decide +kernel
theorem dW_1521 : decode code 1521 = .ok (.iaload, 1) := by decide +kernel
theorem dW_1522 : decode code 1522 = .ok (.aload_n 0, 1) := by decide +kernel
theorem dW_1523 : decode code 1523 = .ok (.iload 4, 2) := by decide +kernel
theorem dW_1525 : decode code 1525 = .ok (.iconst 2, 1) := by decide +kernel
theorem dW_1526 : decode code 1526 = .ok (.iadd, 1) := by decide +kernel
theorem dW_1527 : decode code 1527 = .ok (.iaload, 1) := by decide +kernel
theorem dW_1528 : decode code 1528 = .ok (.aload_n 0, 1) := by decide +kernel
theorem dW_1529 : decode code 1529 = .ok (.iload 4, 2) := by decide +kernel
theorem dW_1531 : decode code 1531 = .ok (.iconst 3, 1) := by decide +kernel
theorem dW_1532 : decode code 1532 = .ok (.iadd, 1) := by decide +kernel
theorem dW_1533 : decode code 1533 = .ok (.iaload, 1) := by decide +kernel
theorem dW_1534 : decode code 1534 = .ok (.aload_n 0, 1) := by decide +kernel
theorem dW_1535 : decode code 1535 = .ok (.iload 4, 2) := by decide +kernel
theorem dW_1537 : decode code 1537 = .ok (.iconst 4, 1) := by decide +kernel
theorem dW_1538 : decode code 1538 = .ok (.iadd, 1) := by decide +kernel
theorem dW_1539 : decode code 1539 = .ok (.iaload, 1) := by decide +kernel
theorem dW_1540 : decode code 1540 = .ok (.ifCond .eq 7, 3) := by decide +kernel
theorem dW_1543 : decode code 1543 = .ok (.iconst 1, 1) := by decide +kernel
theorem dW_1544 : decode code 1544 = .ok (.goto 4, 3) := by decide +kernel
theorem dW_1547 : decode code 1547 = .ok (.iconst 0, 1) := by decide +kernel
theorem dW_1548 : decode code 1548 = .ok (.invokevirtual 126, 3) := by decide +kernel
theorem dW_1551 : decode code 1551 = .ok (.if_icmp .eq 464, 3) := by decide +kernel
theorem dW_1556 : decode code 1556 = .ok (.aload_n 1, 1) := by decide +kernel
theorem dW_1557 : decode code 1557 = .ok (.aload_n 0, 1) := by decide +kernel
theorem dW_1558 : decode code 1558 = .ok (.iload 4, 2) := by decide +kernel
theorem dW_1560 : decode code 1560 = .ok (.iconst 1, 1) := by decide +kernel
theorem dW_1561 : decode code 1561 = .ok (.iadd, 1) := by decide +kernel
theorem dW_1562 : decode code 1562 = .ok (.iaload, 1) := by decide +kernel
theorem dW_1563 : decode code 1563 = .ok (.aload_n 0, 1) := by decide +kernel
theorem dW_1564 : decode code 1564 = .ok (.iload 4, 2) := by decide +kernel
theorem dW_1566 : decode code 1566 = .ok (.iconst 2, 1) := by decide +kernel
theorem dW_1567 : decode code 1567 = .ok (.iadd, 1) := by decide +kernel
theorem dW_1568 : decode code 1568 = .ok (.iaload, 1) := by decide +kernel
theorem dW_1569 : decode code 1569 = .ok (.aload_n 0, 1) := by decide +kernel
theorem dW_1570 : decode code 1570 = .ok (.iload 4, 2) := by decide +kernel
theorem dW_1572 : decode code 1572 = .ok (.iconst 3, 1) := by decide +kernel
theorem dW_1573 : decode code 1573 = .ok (.iadd, 1) := by decide +kernel
theorem dW_1574 : decode code 1574 = .ok (.iaload, 1) := by decide +kernel
theorem dW_1575 : decode code 1575 = .ok (.aload_n 0, 1) := by decide +kernel
theorem dW_1576 : decode code 1576 = .ok (.iload 4, 2) := by decide +kernel
theorem dW_1578 : decode code 1578 = .ok (.iconst 4, 1) := by decide +kernel
theorem dW_1579 : decode code 1579 = .ok (.iadd, 1) := by decide +kernel
theorem dW_1580 : decode code 1580 = .ok (.iaload, 1) := by decide +kernel
theorem dW_1581 : decode code 1581 = .ok (.invokevirtual 127, 3) := by decide +kernel
theorem dW_1584 : decode code 1584 = .ok (.aload_n 2, 1) := by decide +kernel
theorem dW_1585 : decode code 1585 = .ok (.aload_n 0, 1) := by decide +kernel
theorem dW_1586 : decode code 1586 = .ok (.iload 4, 2) := by decide +kernel
theorem dW_1588 : decode code 1588 = .ok (.iconst 1, 1) := by decide +kernel
theorem dW_1589 : decode code 1589 = .ok (.iadd, 1) := by decide +kernel
theorem dW_1590 : decode code 1590 = .ok (.iaload, 1) := by decide +kernel
theorem dW_1591 : decode code 1591 = .ok (.aload_n 0, 1) := by decide +kernel
theorem dW_1592 : decode code 1592 = .ok (.iload 4, 2) := by decide +kernel
theorem dW_1594 : decode code 1594 = .ok (.iconst 2, 1) := by decide +kernel
theorem dW_1595 : decode code 1595 = .ok (.iadd, 1) := by decide +kernel
theorem dW_1596 : decode code 1596 = .ok (.iaload, 1) := by decide +kernel
theorem dW_1597 : decode code 1597 = .ok (.aload_n 0, 1) := by decide +kernel
theorem dW_1598 : decode code 1598 = .ok (.iload 4, 2) := by decide +kernel
theorem dW_1600 : decode code 1600 = .ok (.iconst 3, 1) := by decide +kernel
theorem dW_1601 : decode code 1601 = .ok (.iadd, 1) := by decide +kernel
theorem dW_1602 : decode code 1602 = .ok (.iaload, 1) := by decide +kernel
theorem dW_1603 : decode code 1603 = .ok (.aload_n 0, 1) := by decide +kernel
theorem dW_1604 : decode code 1604 = .ok (.iload 4, 2) := by decide +kernel
theorem dW_1606 : decode code 1606 = .ok (.iconst 4, 1) := by decide +kernel
theorem dW_1607 : decode code 1607 = .ok (.iadd, 1) := by decide +kernel
theorem dW_1608 : decode code 1608 = .ok (.iaload, 1) := by decide +kernel
theorem dW_1609 : decode code 1609 = .ok (.invokevirtual 131, 3) := by decide +kernel
theorem dW_1612 : decode code 1612 = .ok (.lcmp, 1) := by decide +kernel
theorem dW_1613 : decode code 1613 = .ok (.ifCond .eq 402, 3) := by decide +kernel
theorem dW_1616 : decode code 1616 = .ok (.iconst 0, 1) := by decide +kernel
theorem dW_1617 : decode code 1617 = .ok (.ireturn, 1) := by decide +kernel
theorem dW_1618 : decode code 1618 = .ok (.aload_n 1, 1) := by decide +kernel
theorem dW_1619 : decode code 1619 = .ok (.aload_n 0, 1) := by decide +kernel
theorem dW_1620 : decode code 1620 = .ok (.iload 4, 2) := by decide +kernel
theorem dW_1622 : decode code 1622 = .ok (.iconst 1, 1) := by decide +kernel
theorem dW_1623 : decode code 1623 = .ok (.iadd, 1) := by decide +kernel
theorem dW_1624 : decode code 1624 = .ok (.iaload, 1) := by decide +kernel
theorem dW_1625 : decode code 1625 = .ok (.aload_n 0, 1) := by decide +kernel
theorem dW_1626 : decode code 1626 = .ok (.iload 4, 2) := by decide +kernel
theorem dW_1628 : decode code 1628 = .ok (.iconst 2, 1) := by decide +kernel
theorem dW_1629 : decode code 1629 = .ok (.iadd, 1) := by decide +kernel
theorem dW_1630 : decode code 1630 = .ok (.iaload, 1) := by decide +kernel
theorem dW_1631 : decode code 1631 = .ok (.aload_n 0, 1) := by decide +kernel
theorem dW_1632 : decode code 1632 = .ok (.iload 4, 2) := by decide +kernel
theorem dW_1634 : decode code 1634 = .ok (.iconst 3, 1) := by decide +kernel
theorem dW_1635 : decode code 1635 = .ok (.iadd, 1) := by decide +kernel
theorem dW_1636 : decode code 1636 = .ok (.iaload, 1) := by decide +kernel
theorem dW_1637 : decode code 1637 = .ok (.aload_n 0, 1) := by decide +kernel
theorem dW_1638 : decode code 1638 = .ok (.iload 4, 2) := by decide +kernel
theorem dW_1640 : decode code 1640 = .ok (.iconst 4, 1) := by decide +kernel
theorem dW_1641 : decode code 1641 = .ok (.iadd, 1) := by decide +kernel
theorem dW_1642 : decode code 1642 = .ok (.iaload, 1) := by decide +kernel
theorem dW_1643 : decode code 1643 = .ok (.invokevirtual 132, 3) := by decide +kernel
theorem dW_1646 : decode code 1646 = .ok (.aload_n 2, 1) := by decide +kernel
theorem dW_1647 : decode code 1647 = .ok (.aload_n 0, 1) := by decide +kernel
theorem dW_1648 : decode code 1648 = .ok (.iload 4, 2) := by decide +kernel
theorem dW_1650 : decode code 1650 = .ok (.iconst 1, 1) := by decide +kernel
theorem dW_1651 : decode code 1651 = .ok (.iadd, 1) := by decide +kernel
theorem dW_1652 : decode code 1652 = .ok (.iaload, 1) := by decide +kernel
theorem dW_1653 : decode code 1653 = .ok (.aload_n 0, 1) := by decide +kernel
theorem dW_1654 : decode code 1654 = .ok (.iload 4, 2) := by decide +kernel
theorem dW_1656 : decode code 1656 = .ok (.iconst 2, 1) := by decide +kernel
theorem dW_1657 : decode code 1657 = .ok (.iadd, 1) := by decide +kernel
theorem dW_1658 : decode code 1658 = .ok (.iaload, 1) := by decide +kernel
theorem dW_1659 : decode code 1659 = .ok (.aload_n 0, 1) := by decide +kernel
theorem dW_1660 : decode code 1660 = .ok (.iload 4, 2) := by decide +kernel
theorem dW_1662 : decode code 1662 = .ok (.iconst 3, 1) := by decide +kernel
theorem dW_1663 : decode code 1663 = .ok (.iadd, 1) := by decide +kernel
theorem dW_1664 : decode code 1664 = .ok (.iaload, 1) := by decide +kernel
theorem dW_1665 : decode code 1665 = .ok (.aload_n 0, 1) := by decide +kernel
theorem dW_1666 : decode code 1666 = .ok (.iload 4, 2) := by decide +kernel
theorem dW_1668 : decode code 1668 = .ok (.iconst 4, 1) := by decide +kernel
theorem dW_1669 : decode code 1669 = .ok (.iadd, 1) := by decide +kernel
theorem dW_1670 : decode code 1670 = .ok (.iaload, 1) := by decide +kernel
theorem dW_1671 : decode code 1671 = .ok (.invokevirtual 135, 3) := by decide +kernel
theorem dW_1674 : decode code 1674 = .ok (.if_icmp .eq 341, 3) := by decide +kernel
theorem dW_1679 : decode code 1679 = .ok (.aload_n 1, 1) := by decide +kernel
theorem dW_1680 : decode code 1680 = .ok (.aload_n 0, 1) := by decide +kernel
theorem dW_1681 : decode code 1681 = .ok (.iload 4, 2) := by decide +kernel
theorem dW_1683 : decode code 1683 = .ok (.iconst 1, 1) := by decide +kernel
theorem dW_1684 : decode code 1684 = .ok (.iadd, 1) := by decide +kernel
theorem dW_1685 : decode code 1685 = .ok (.iaload, 1) := by decide +kernel
theorem dW_1686 : decode code 1686 = .ok (.aload_n 0, 1) := by decide +kernel
theorem dW_1687 : decode code 1687 = .ok (.iload 4, 2) := by decide +kernel
theorem dW_1689 : decode code 1689 = .ok (.iconst 2, 1) := by decide +kernel
theorem dW_1690 : decode code 1690 = .ok (.iadd, 1) := by decide +kernel
theorem dW_1691 : decode code 1691 = .ok (.iaload, 1) := by decide +kernel
theorem dW_1692 : decode code 1692 = .ok (.invokevirtual 136, 3) := by decide +kernel
theorem dW_1695 : decode code 1695 = .ok (.aload_n 2, 1) := by decide +kernel
theorem dW_1696 : decode code 1696 = .ok (.aload_n 0, 1) := by decide +kernel
theorem dW_1697 : decode code 1697 = .ok (.iload 4, 2) := by decide +kernel
theorem dW_1699 : decode code 1699 = .ok (.iconst 1, 1) := by decide +kernel
theorem dW_1700 : decode code 1700 = .ok (.iadd, 1) := by decide +kernel
theorem dW_1701 : decode code 1701 = .ok (.iaload, 1) := by decide +kernel
theorem dW_1702 : decode code 1702 = .ok (.aload_n 0, 1) := by decide +kernel
theorem dW_1703 : decode code 1703 = .ok (.iload 4, 2) := by decide +kernel
theorem dW_1705 : decode code 1705 = .ok (.iconst 2, 1) := by decide +kernel
theorem dW_1706 : decode code 1706 = .ok (.iadd, 1) := by decide +kernel
theorem dW_1707 : decode code 1707 = .ok (.iaload, 1) := by decide +kernel
theorem dW_1708 : decode code 1708 = .ok (.invokevirtual 139, 3) := by decide +kernel
theorem dW_1711 : decode code 1711 = .ok (.if_icmp .eq 304, 3) := by decide +kernel
theorem dW_1716 : decode code 1716 = .ok (.aload_n 1, 1) := by decide +kernel
theorem dW_1717 : decode code 1717 = .ok (.aload_n 0, 1) := by decide +kernel
theorem dW_1718 : decode code 1718 = .ok (.iload 4, 2) := by decide +kernel
theorem dW_1720 : decode code 1720 = .ok (.iconst 1, 1) := by decide +kernel
theorem dW_1721 : decode code 1721 = .ok (.iadd, 1) := by decide +kernel
theorem dW_1722 : decode code 1722 = .ok (.iaload, 1) := by decide +kernel
theorem dW_1723 : decode code 1723 = .ok (.aload_n 0, 1) := by decide +kernel
theorem dW_1724 : decode code 1724 = .ok (.iload 4, 2) := by decide +kernel
theorem dW_1726 : decode code 1726 = .ok (.iconst 2, 1) := by decide +kernel
theorem dW_1727 : decode code 1727 = .ok (.iadd, 1) := by decide +kernel
theorem dW_1728 : decode code 1728 = .ok (.iaload, 1) := by decide +kernel
theorem dW_1729 : decode code 1729 = .ok (.aload_n 0, 1) := by decide +kernel
theorem dW_1730 : decode code 1730 = .ok (.iload 4, 2) := by decide +kernel
theorem dW_1732 : decode code 1732 = .ok (.iconst 3, 1) := by decide +kernel
theorem dW_1733 : decode code 1733 = .ok (.iadd, 1) := by decide +kernel
theorem dW_1734 : decode code 1734 = .ok (.iaload, 1) := by decide +kernel
theorem dW_1735 : decode code 1735 = .ok (.invokevirtual 140, 3) := by decide +kernel
theorem dW_1738 : decode code 1738 = .ok (.aload_n 2, 1) := by decide +kernel
theorem dW_1739 : decode code 1739 = .ok (.aload_n 0, 1) := by decide +kernel
theorem dW_1740 : decode code 1740 = .ok (.iload 4, 2) := by decide +kernel
theorem dW_1742 : decode code 1742 = .ok (.iconst 1, 1) := by decide +kernel
theorem dW_1743 : decode code 1743 = .ok (.iadd, 1) := by decide +kernel
theorem dW_1744 : decode code 1744 = .ok (.iaload, 1) := by decide +kernel
theorem dW_1745 : decode code 1745 = .ok (.aload_n 0, 1) := by decide +kernel
theorem dW_1746 : decode code 1746 = .ok (.iload 4, 2) := by decide +kernel
theorem dW_1748 : decode code 1748 = .ok (.iconst 2, 1) := by decide +kernel
theorem dW_1749 : decode code 1749 = .ok (.iadd, 1) := by decide +kernel
theorem dW_1750 : decode code 1750 = .ok (.iaload, 1) := by decide +kernel
theorem dW_1751 : decode code 1751 = .ok (.aload_n 0, 1) := by decide +kernel
theorem dW_1752 : decode code 1752 = .ok (.iload 4, 2) := by decide +kernel
theorem dW_1754 : decode code 1754 = .ok (.iconst 3, 1) := by decide +kernel
theorem dW_1755 : decode code 1755 = .ok (.iadd, 1) := by decide +kernel
theorem dW_1756 : decode code 1756 = .ok (.iaload, 1) := by decide +kernel
theorem dW_1757 : decode code 1757 = .ok (.invokevirtual 143, 3) := by decide +kernel
theorem dW_1760 : decode code 1760 = .ok (.if_icmp .eq 255, 3) := by decide +kernel
theorem dW_1765 : decode code 1765 = .ok (.aload_n 1, 1) := by decide +kernel
theorem dW_1766 : decode code 1766 = .ok (.aload_n 0, 1) := by decide +kernel
theorem dW_1767 : decode code 1767 = .ok (.iload 4, 2) := by decide +kernel
theorem dW_1769 : decode code 1769 = .ok (.iconst 1, 1) := by decide +kernel
theorem dW_1770 : decode code 1770 = .ok (.iadd, 1) := by decide +kernel
theorem dW_1771 : decode code 1771 = .ok (.iaload, 1) := by decide +kernel
theorem dW_1772 : decode code 1772 = .ok (.aload_n 0, 1) := by decide +kernel
theorem dW_1773 : decode code 1773 = .ok (.iload 4, 2) := by decide +kernel
theorem dW_1775 : decode code 1775 = .ok (.iconst 2, 1) := by decide +kernel
theorem dW_1776 : decode code 1776 = .ok (.iadd, 1) := by decide +kernel
theorem dW_1777 : decode code 1777 = .ok (.iaload, 1) := by decide +kernel
theorem dW_1778 : decode code 1778 = .ok (.aload_n 0, 1) := by decide +kernel
theorem dW_1779 : decode code 1779 = .ok (.iload 4, 2) := by decide +kernel
theorem dW_1781 : decode code 1781 = .ok (.iconst 3, 1) := by decide +kernel
theorem dW_1782 : decode code 1782 = .ok (.iadd, 1) := by decide +kernel
theorem dW_1783 : decode code 1783 = .ok (.iaload, 1) := by decide +kernel
theorem dW_1784 : decode code 1784 = .ok (.invokevirtual 144, 3) := by decide +kernel
theorem dW_1787 : decode code 1787 = .ok (.aload_n 2, 1) := by decide +kernel
theorem dW_1788 : decode code 1788 = .ok (.aload_n 0, 1) := by decide +kernel
theorem dW_1789 : decode code 1789 = .ok (.iload 4, 2) := by decide +kernel
theorem dW_1791 : decode code 1791 = .ok (.iconst 1, 1) := by decide +kernel
theorem dW_1792 : decode code 1792 = .ok (.iadd, 1) := by decide +kernel
theorem dW_1793 : decode code 1793 = .ok (.iaload, 1) := by decide +kernel
theorem dW_1794 : decode code 1794 = .ok (.aload_n 0, 1) := by decide +kernel
theorem dW_1795 : decode code 1795 = .ok (.iload 4, 2) := by decide +kernel
theorem dW_1797 : decode code 1797 = .ok (.iconst 2, 1) := by decide +kernel
theorem dW_1798 : decode code 1798 = .ok (.iadd, 1) := by decide +kernel
theorem dW_1799 : decode code 1799 = .ok (.iaload, 1) := by decide +kernel
theorem dW_1800 : decode code 1800 = .ok (.aload_n 0, 1) := by decide +kernel
theorem dW_1801 : decode code 1801 = .ok (.iload 4, 2) := by decide +kernel
theorem dW_1803 : decode code 1803 = .ok (.iconst 3, 1) := by decide +kernel
theorem dW_1804 : decode code 1804 = .ok (.iadd, 1) := by decide +kernel
theorem dW_1805 : decode code 1805 = .ok (.iaload, 1) := by decide +kernel
theorem dW_1806 : decode code 1806 = .ok (.invokevirtual 147, 3) := by decide +kernel
theorem dW_1809 : decode code 1809 = .ok (.if_icmp .eq 206, 3) := by decide +kernel
theorem dW_1814 : decode code 1814 = .ok (.aload_n 1, 1) := by decide +kernel
theorem dW_1815 : decode code 1815 = .ok (.aload_n 0, 1) := by decide +kernel
theorem dW_1816 : decode code 1816 = .ok (.iload 4, 2) := by decide +kernel
theorem dW_1818 : decode code 1818 = .ok (.iconst 1, 1) := by decide +kernel
theorem dW_1819 : decode code 1819 = .ok (.iadd, 1) := by decide +kernel
theorem dW_1820 : decode code 1820 = .ok (.iaload, 1) := by decide +kernel
theorem dW_1821 : decode code 1821 = .ok (.aload_n 0, 1) := by decide +kernel
theorem dW_1822 : decode code 1822 = .ok (.iload 4, 2) := by decide +kernel
theorem dW_1824 : decode code 1824 = .ok (.iconst 2, 1) := by decide +kernel
theorem dW_1825 : decode code 1825 = .ok (.iadd, 1) := by decide +kernel
theorem dW_1826 : decode code 1826 = .ok (.iaload, 1) := by decide +kernel
theorem dW_1827 : decode code 1827 = .ok (.invokevirtual 148, 3) := by decide +kernel
theorem dW_1830 : decode code 1830 = .ok (.aload_n 2, 1) := by decide +kernel
theorem dW_1831 : decode code 1831 = .ok (.aload_n 0, 1) := by decide +kernel
theorem dW_1832 : decode code 1832 = .ok (.iload 4, 2) := by decide +kernel
theorem dW_1834 : decode code 1834 = .ok (.iconst 1, 1) := by decide +kernel
theorem dW_1835 : decode code 1835 = .ok (.iadd, 1) := by decide +kernel
theorem dW_1836 : decode code 1836 = .ok (.iaload, 1) := by decide +kernel
theorem dW_1837 : decode code 1837 = .ok (.aload_n 0, 1) := by decide +kernel
theorem dW_1838 : decode code 1838 = .ok (.iload 4, 2) := by decide +kernel
theorem dW_1840 : decode code 1840 = .ok (.iconst 2, 1) := by decide +kernel
theorem dW_1841 : decode code 1841 = .ok (.iadd, 1) := by decide +kernel
theorem dW_1842 : decode code 1842 = .ok (.iaload, 1) := by decide +kernel
theorem dW_1843 : decode code 1843 = .ok (.invokevirtual 151, 3) := by decide +kernel
theorem dW_1846 : decode code 1846 = .ok (.if_icmp .eq 169, 3) := by decide +kernel
theorem dW_1851 : decode code 1851 = .ok (.aload_n 1, 1) := by decide +kernel
theorem dW_1852 : decode code 1852 = .ok (.aload_n 0, 1) := by decide +kernel
theorem dW_1853 : decode code 1853 = .ok (.iload 4, 2) := by decide +kernel
theorem dW_1855 : decode code 1855 = .ok (.iconst 1, 1) := by decide +kernel
theorem dW_1856 : decode code 1856 = .ok (.iadd, 1) := by decide +kernel
theorem dW_1857 : decode code 1857 = .ok (.iaload, 1) := by decide +kernel
theorem dW_1858 : decode code 1858 = .ok (.aload_n 0, 1) := by decide +kernel
theorem dW_1859 : decode code 1859 = .ok (.iload 4, 2) := by decide +kernel
theorem dW_1861 : decode code 1861 = .ok (.iconst 2, 1) := by decide +kernel
theorem dW_1862 : decode code 1862 = .ok (.iadd, 1) := by decide +kernel
theorem dW_1863 : decode code 1863 = .ok (.iaload, 1) := by decide +kernel
theorem dW_1864 : decode code 1864 = .ok (.invokevirtual 152, 3) := by decide +kernel
theorem dW_1867 : decode code 1867 = .ok (.aload_n 2, 1) := by decide +kernel
theorem dW_1868 : decode code 1868 = .ok (.aload_n 0, 1) := by decide +kernel
theorem dW_1869 : decode code 1869 = .ok (.iload 4, 2) := by decide +kernel
theorem dW_1871 : decode code 1871 = .ok (.iconst 1, 1) := by decide +kernel
theorem dW_1872 : decode code 1872 = .ok (.iadd, 1) := by decide +kernel
theorem dW_1873 : decode code 1873 = .ok (.iaload, 1) := by decide +kernel
theorem dW_1874 : decode code 1874 = .ok (.aload_n 0, 1) := by decide +kernel
theorem dW_1875 : decode code 1875 = .ok (.iload 4, 2) := by decide +kernel
theorem dW_1877 : decode code 1877 = .ok (.iconst 2, 1) := by decide +kernel
theorem dW_1878 : decode code 1878 = .ok (.iadd, 1) := by decide +kernel
theorem dW_1879 : decode code 1879 = .ok (.iaload, 1) := by decide +kernel
theorem dW_1880 : decode code 1880 = .ok (.invokevirtual 155, 3) := by decide +kernel
theorem dW_1883 : decode code 1883 = .ok (.if_icmp .eq 132, 3) := by decide +kernel
theorem dW_1888 : decode code 1888 = .ok (.aload_n 1, 1) := by decide +kernel
theorem dW_1889 : decode code 1889 = .ok (.aload_n 0, 1) := by decide +kernel
theorem dW_1890 : decode code 1890 = .ok (.iload 4, 2) := by decide +kernel
theorem dW_1892 : decode code 1892 = .ok (.iconst 1, 1) := by decide +kernel
theorem dW_1893 : decode code 1893 = .ok (.iadd, 1) := by decide +kernel
theorem dW_1894 : decode code 1894 = .ok (.iaload, 1) := by decide +kernel
theorem dW_1895 : decode code 1895 = .ok (.aload_n 0, 1) := by decide +kernel
theorem dW_1896 : decode code 1896 = .ok (.iload 4, 2) := by decide +kernel
theorem dW_1898 : decode code 1898 = .ok (.iconst 2, 1) := by decide +kernel
theorem dW_1899 : decode code 1899 = .ok (.iadd, 1) := by decide +kernel
theorem dW_1900 : decode code 1900 = .ok (.iaload, 1) := by decide +kernel
theorem dW_1901 : decode code 1901 = .ok (.aload_n 0, 1) := by decide +kernel
theorem dW_1902 : decode code 1902 = .ok (.iload 4, 2) := by decide +kernel
theorem dW_1904 : decode code 1904 = .ok (.iconst 3, 1) := by decide +kernel
theorem dW_1905 : decode code 1905 = .ok (.iadd, 1) := by decide +kernel
theorem dW_1906 : decode code 1906 = .ok (.iaload, 1) := by decide +kernel
theorem dW_1907 : decode code 1907 = .ok (.invokevirtual 156, 3) := by decide +kernel
theorem dW_1910 : decode code 1910 = .ok (.aload_n 2, 1) := by decide +kernel
theorem dW_1911 : decode code 1911 = .ok (.aload_n 0, 1) := by decide +kernel
theorem dW_1912 : decode code 1912 = .ok (.iload 4, 2) := by decide +kernel
theorem dW_1914 : decode code 1914 = .ok (.iconst 1, 1) := by decide +kernel
theorem dW_1915 : decode code 1915 = .ok (.iadd, 1) := by decide +kernel
theorem dW_1916 : decode code 1916 = .ok (.iaload, 1) := by decide +kernel
theorem dW_1917 : decode code 1917 = .ok (.aload_n 0, 1) := by decide +kernel
theorem dW_1918 : decode code 1918 = .ok (.iload 4, 2) := by decide +kernel
theorem dW_1920 : decode code 1920 = .ok (.iconst 2, 1) := by decide +kernel
theorem dW_1921 : decode code 1921 = .ok (.iadd, 1) := by decide +kernel
theorem dW_1922 : decode code 1922 = .ok (.iaload, 1) := by decide +kernel
theorem dW_1923 : decode code 1923 = .ok (.aload_n 0, 1) := by decide +kernel
theorem dW_1924 : decode code 1924 = .ok (.iload 4, 2) := by decide +kernel
theorem dW_1926 : decode code 1926 = .ok (.iconst 3, 1) := by decide +kernel
theorem dW_1927 : decode code 1927 = .ok (.iadd, 1) := by decide +kernel
theorem dW_1928 : decode code 1928 = .ok (.iaload, 1) := by decide +kernel
theorem dW_1929 : decode code 1929 = .ok (.invokevirtual 159, 3) := by decide +kernel
theorem dW_1932 : decode code 1932 = .ok (.if_icmp .eq 83, 3) := by decide +kernel
theorem dW_1937 : decode code 1937 = .ok (.aload_n 1, 1) := by decide +kernel
theorem dW_1938 : decode code 1938 = .ok (.aload_n 0, 1) := by decide +kernel
theorem dW_1939 : decode code 1939 = .ok (.iload 4, 2) := by decide +kernel
theorem dW_1941 : decode code 1941 = .ok (.iconst 1, 1) := by decide +kernel
theorem dW_1942 : decode code 1942 = .ok (.iadd, 1) := by decide +kernel
theorem dW_1943 : decode code 1943 = .ok (.iaload, 1) := by decide +kernel
theorem dW_1944 : decode code 1944 = .ok (.aload_n 0, 1) := by decide +kernel
theorem dW_1945 : decode code 1945 = .ok (.iload 4, 2) := by decide +kernel
theorem dW_1947 : decode code 1947 = .ok (.iconst 2, 1) := by decide +kernel
theorem dW_1948 : decode code 1948 = .ok (.iadd, 1) := by decide +kernel
theorem dW_1949 : decode code 1949 = .ok (.iaload, 1) := by decide +kernel
theorem dW_1950 : decode code 1950 = .ok (.ifCond .eq 7, 3) := by decide +kernel
theorem dW_1953 : decode code 1953 = .ok (.iconst 1, 1) := by decide +kernel
theorem dW_1954 : decode code 1954 = .ok (.goto 4, 3) := by decide +kernel
theorem dW_1957 : decode code 1957 = .ok (.iconst 0, 1) := by decide +kernel
theorem dW_1958 : decode code 1958 = .ok (.invokevirtual 160, 3) := by decide +kernel
theorem dW_1961 : decode code 1961 = .ok (.aload_n 2, 1) := by decide +kernel
theorem dW_1962 : decode code 1962 = .ok (.aload_n 0, 1) := by decide +kernel
theorem dW_1963 : decode code 1963 = .ok (.iload 4, 2) := by decide +kernel
theorem dW_1965 : decode code 1965 = .ok (.iconst 1, 1) := by decide +kernel
theorem dW_1966 : decode code 1966 = .ok (.iadd, 1) := by decide +kernel
theorem dW_1967 : decode code 1967 = .ok (.iaload, 1) := by decide +kernel
theorem dW_1968 : decode code 1968 = .ok (.aload_n 0, 1) := by decide +kernel
theorem dW_1969 : decode code 1969 = .ok (.iload 4, 2) := by decide +kernel
theorem dW_1971 : decode code 1971 = .ok (.iconst 2, 1) := by decide +kernel
theorem dW_1972 : decode code 1972 = .ok (.iadd, 1) := by decide +kernel
theorem dW_1973 : decode code 1973 = .ok (.iaload, 1) := by decide +kernel
theorem dW_1974 : decode code 1974 = .ok (.ifCond .eq 7, 3) := by decide +kernel
theorem dW_1977 : decode code 1977 = .ok (.iconst 1, 1) := by decide +kernel
theorem dW_1978 : decode code 1978 = .ok (.goto 4, 3) := by decide +kernel
theorem dW_1981 : decode code 1981 = .ok (.iconst 0, 1) := by decide +kernel
theorem dW_1982 : decode code 1982 = .ok (.invokevirtual 164, 3) := by decide +kernel
theorem dW_1985 : decode code 1985 = .ok (.if_icmp .eq 30, 3) := by decide +kernel
theorem dW_1990 : decode code 1990 = .ok (.aload_n 1, 1) := by decide +kernel
theorem dW_1991 : decode code 1991 = .ok (.aload_n 0, 1) := by decide +kernel
theorem dW_1992 : decode code 1992 = .ok (.iload 4, 2) := by decide +kernel
theorem dW_1994 : decode code 1994 = .ok (.iconst 1, 1) := by decide +kernel
theorem dW_1995 : decode code 1995 = .ok (.iadd, 1) := by decide +kernel
theorem dW_1996 : decode code 1996 = .ok (.iaload, 1) := by decide +kernel
theorem dW_1997 : decode code 1997 = .ok (.invokevirtual 165, 3) := by decide +kernel
theorem dW_2000 : decode code 2000 = .ok (.aload_n 2, 1) := by decide +kernel
theorem dW_2001 : decode code 2001 = .ok (.aload_n 0, 1) := by decide +kernel
theorem dW_2002 : decode code 2002 = .ok (.iload 4, 2) := by decide +kernel
theorem dW_2004 : decode code 2004 = .ok (.iconst 1, 1) := by decide +kernel
theorem dW_2005 : decode code 2005 = .ok (.iadd, 1) := by decide +kernel
theorem dW_2006 : decode code 2006 = .ok (.iaload, 1) := by decide +kernel
theorem dW_2007 : decode code 2007 = .ok (.invokevirtual 168, 3) := by decide +kernel
theorem dW_2010 : decode code 2010 = .ok (.if_icmp .eq 5, 3) := by decide +kernel
theorem dW_2015 : decode code 2015 = .ok (.iinc 4 7, 3) := by decide +kernel
theorem dW_2018 : decode code 2018 = .ok (.goto (-1995), 3) := by decide +kernel
theorem dW_2021 : decode code 2021 = .ok (.iconst 1, 1) := by decide +kernel
theorem dW_2022 : decode code 2022 = .ok (.ireturn, 1) := by decide +kernel
