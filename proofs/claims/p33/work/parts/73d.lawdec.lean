theorem dL_refuses_1105 : decode cL_refuses 1105 = .ok (.iconst (-1), 1) := by decide +kernel
theorem dL_refuses_1106 : decode cL_refuses 1106 = .ok (.goto 4, 3) := by decide +kernel
theorem dL_refuses_1109 : decode cL_refuses 1109 = .ok (.iconst 2, 1) := by decide +kernel
theorem dL_refuses_1110 : decode cL_refuses 1110 = .ok (.iconst 0, 1) := by decide +kernel
theorem dL_refuses_1111 : decode cL_refuses 1111 = .ok (.iconst 0, 1) := by decide +kernel
theorem dL_refuses_1112 : decode cL_refuses 1112 = .ok (.iconst 0, 1) := by decide +kernel
theorem dL_refuses_1113 : decode cL_refuses 1113 = .ok (.invokestatic 117, 3) := by decide +kernel
theorem dL_refuses_1116 : decode cL_refuses 1116 = .ok (.ldc2_w 102, 3) := by decide +kernel
theorem dL_refuses_1119 : decode cL_refuses 1119 = .ok (.lcmp, 1) := by decide +kernel
theorem dL_refuses_1120 : decode cL_refuses 1120 = .ok (.ifCond .ne 207, 3) := by decide +kernel
theorem dL_refuses_1123 : decode cL_refuses 1123 = .ok (.aload_n 0, 1) := by decide +kernel
theorem dL_refuses_1124 : decode cL_refuses 1124 = .ok (.bipush 22, 2) := by decide +kernel
theorem dL_refuses_1126 : decode cL_refuses 1126 = .ok (.iconst 0, 1) := by decide +kernel
theorem dL_refuses_1127 : decode cL_refuses 1127 = .ok (.iconst 0, 1) := by decide +kernel
theorem dL_refuses_1128 : decode cL_refuses 1128 = .ok (.iconst 0, 1) := by decide +kernel
theorem dL_refuses_1129 : decode cL_refuses 1129 = .ok (.iconst 0, 1) := by decide +kernel
theorem dL_refuses_1130 : decode cL_refuses 1130 = .ok (.invokestatic 117, 3) := by decide +kernel
theorem dL_refuses_1133 : decode cL_refuses 1133 = .ok (.ldc2_w 102, 3) := by decide +kernel
theorem dL_refuses_1136 : decode cL_refuses 1136 = .ok (.lcmp, 1) := by decide +kernel
theorem dL_refuses_1137 : decode cL_refuses 1137 = .ok (.ifCond .ne 190, 3) := by decide +kernel
theorem dL_refuses_1140 : decode cL_refuses 1140 = .ok (.aload_n 0, 1) := by decide +kernel
theorem dL_refuses_1141 : decode cL_refuses 1141 = .ok (.bipush 23, 2) := by decide +kernel
theorem dL_refuses_1143 : decode cL_refuses 1143 = .ok (.iload 11, 2) := by decide +kernel
theorem dL_refuses_1145 : decode cL_refuses 1145 = .ok (.ifCond .ne 7, 3) := by decide +kernel
theorem dL_refuses_1148 : decode cL_refuses 1148 = .ok (.iconst 1, 1) := by decide +kernel
theorem dL_refuses_1149 : decode cL_refuses 1149 = .ok (.goto 16, 3) := by decide +kernel
theorem dL_refuses_1152 : decode cL_refuses 1152 = .ok (.iload 11, 2) := by decide +kernel
theorem dL_refuses_1154 : decode cL_refuses 1154 = .ok (.iconst 1, 1) := by decide +kernel
theorem dL_refuses_1155 : decode cL_refuses 1155 = .ok (.if_icmp .ne 8, 3) := by decide +kernel
theorem dL_refuses_1158 : decode cL_refuses 1158 = .ok (.bipush 7, 2) := by decide +kernel
theorem dL_refuses_1160 : decode cL_refuses 1160 = .ok (.goto 5, 3) := by decide +kernel
theorem dL_refuses_1163 : decode cL_refuses 1163 = .ok (.iload 12, 2) := by decide +kernel
theorem dL_refuses_1165 : decode cL_refuses 1165 = .ok (.iconst 0, 1) := by decide +kernel
theorem dL_refuses_1166 : decode cL_refuses 1166 = .ok (.iconst 0, 1) := by decide +kernel
theorem dL_refuses_1167 : decode cL_refuses 1167 = .ok (.iconst 0, 1) := by decide +kernel
theorem dL_refuses_1168 : decode cL_refuses 1168 = .ok (.invokestatic 117, 3) := by decide +kernel
theorem dL_refuses_1171 : decode cL_refuses 1171 = .ok (.ldc2_w 102, 3) := by decide +kernel
theorem dL_refuses_1174 : decode cL_refuses 1174 = .ok (.lcmp, 1) := by decide +kernel
theorem dL_refuses_1175 : decode cL_refuses 1175 = .ok (.ifCond .ne 152, 3) := by decide +kernel
theorem dL_refuses_1178 : decode cL_refuses 1178 = .ok (.aload_n 0, 1) := by decide +kernel
theorem dL_refuses_1179 : decode cL_refuses 1179 = .ok (.bipush 24, 2) := by decide +kernel
theorem dL_refuses_1181 : decode cL_refuses 1181 = .ok (.iload 18, 2) := by decide +kernel
theorem dL_refuses_1183 : decode cL_refuses 1183 = .ok (.iconst 0, 1) := by decide +kernel
theorem dL_refuses_1184 : decode cL_refuses 1184 = .ok (.iconst 0, 1) := by decide +kernel
theorem dL_refuses_1185 : decode cL_refuses 1185 = .ok (.iconst 0, 1) := by decide +kernel
theorem dL_refuses_1186 : decode cL_refuses 1186 = .ok (.invokestatic 117, 3) := by decide +kernel
theorem dL_refuses_1189 : decode cL_refuses 1189 = .ok (.ldc2_w 98, 3) := by decide +kernel
theorem dL_refuses_1192 : decode cL_refuses 1192 = .ok (.lcmp, 1) := by decide +kernel
theorem dL_refuses_1193 : decode cL_refuses 1193 = .ok (.ifCond .ne 134, 3) := by decide +kernel
theorem dL_refuses_1196 : decode cL_refuses 1196 = .ok (.aload_n 0, 1) := by decide +kernel
theorem dL_refuses_1197 : decode cL_refuses 1197 = .ok (.bipush 24, 2) := by decide +kernel
theorem dL_refuses_1199 : decode cL_refuses 1199 = .ok (.iconst 0, 1) := by decide +kernel
theorem dL_refuses_1200 : decode cL_refuses 1200 = .ok (.iload 18, 2) := by decide +kernel
theorem dL_refuses_1202 : decode cL_refuses 1202 = .ok (.iconst 0, 1) := by decide +kernel
theorem dL_refuses_1203 : decode cL_refuses 1203 = .ok (.iconst 0, 1) := by decide +kernel
theorem dL_refuses_1204 : decode cL_refuses 1204 = .ok (.invokestatic 117, 3) := by decide +kernel
theorem dL_refuses_1207 : decode cL_refuses 1207 = .ok (.ldc2_w 98, 3) := by decide +kernel
theorem dL_refuses_1210 : decode cL_refuses 1210 = .ok (.lcmp, 1) := by decide +kernel
theorem dL_refuses_1211 : decode cL_refuses 1211 = .ok (.ifCond .ne 116, 3) := by decide +kernel
theorem dL_refuses_1214 : decode cL_refuses 1214 = .ok (.aload_n 0, 1) := by decide +kernel
theorem dL_refuses_1215 : decode cL_refuses 1215 = .ok (.bipush 24, 2) := by decide +kernel
theorem dL_refuses_1217 : decode cL_refuses 1217 = .ok (.iconst 1, 1) := by decide +kernel
theorem dL_refuses_1218 : decode cL_refuses 1218 = .ok (.iconst 1, 1) := by decide +kernel
theorem dL_refuses_1219 : decode cL_refuses 1219 = .ok (.iconst 0, 1) := by decide +kernel
theorem dL_refuses_1220 : decode cL_refuses 1220 = .ok (.iconst 0, 1) := by decide +kernel
theorem dL_refuses_1221 : decode cL_refuses 1221 = .ok (.invokestatic 117, 3) := by decide +kernel
theorem dL_refuses_1224 : decode cL_refuses 1224 = .ok (.ldc2_w 102, 3) := by decide +kernel
theorem dL_refuses_1227 : decode cL_refuses 1227 = .ok (.lcmp, 1) := by decide +kernel
theorem dL_refuses_1228 : decode cL_refuses 1228 = .ok (.ifCond .ne 99, 3) := by decide +kernel
theorem dL_refuses_1231 : decode cL_refuses 1231 = .ok (.aload_n 0, 1) := by decide +kernel
theorem dL_refuses_1232 : decode cL_refuses 1232 = .ok (.bipush 25, 2) := by decide +kernel
theorem dL_refuses_1234 : decode cL_refuses 1234 = .ok (.iload 18, 2) := by decide +kernel
theorem dL_refuses_1236 : decode cL_refuses 1236 = .ok (.iconst 0, 1) := by decide +kernel
theorem dL_refuses_1237 : decode cL_refuses 1237 = .ok (.iconst (-1), 1) := by decide +kernel
theorem dL_refuses_1238 : decode cL_refuses 1238 = .ok (.iconst 0, 1) := by decide +kernel
theorem dL_refuses_1239 : decode cL_refuses 1239 = .ok (.invokestatic 117, 3) := by decide +kernel
theorem dL_refuses_1242 : decode cL_refuses 1242 = .ok (.ldc2_w 98, 3) := by decide +kernel
theorem dL_refuses_1245 : decode cL_refuses 1245 = .ok (.lcmp, 1) := by decide +kernel
theorem dL_refuses_1246 : decode cL_refuses 1246 = .ok (.ifCond .ne 81, 3) := by decide +kernel
theorem dL_refuses_1249 : decode cL_refuses 1249 = .ok (.aload_n 0, 1) := by decide +kernel
theorem dL_refuses_1250 : decode cL_refuses 1250 = .ok (.bipush 25, 2) := by decide +kernel
theorem dL_refuses_1252 : decode cL_refuses 1252 = .ok (.iconst 0, 1) := by decide +kernel
theorem dL_refuses_1253 : decode cL_refuses 1253 = .ok (.iload 18, 2) := by decide +kernel
theorem dL_refuses_1255 : decode cL_refuses 1255 = .ok (.iconst (-1), 1) := by decide +kernel
theorem dL_refuses_1256 : decode cL_refuses 1256 = .ok (.iconst 0, 1) := by decide +kernel
theorem dL_refuses_1257 : decode cL_refuses 1257 = .ok (.invokestatic 117, 3) := by decide +kernel
theorem dL_refuses_1260 : decode cL_refuses 1260 = .ok (.ldc2_w 98, 3) := by decide +kernel
theorem dL_refuses_1263 : decode cL_refuses 1263 = .ok (.lcmp, 1) := by decide +kernel
theorem dL_refuses_1264 : decode cL_refuses 1264 = .ok (.ifCond .ne 63, 3) := by decide +kernel
theorem dL_refuses_1267 : decode cL_refuses 1267 = .ok (.aload_n 0, 1) := by decide +kernel
theorem dL_refuses_1268 : decode cL_refuses 1268 = .ok (.bipush 25, 2) := by decide +kernel
theorem dL_refuses_1270 : decode cL_refuses 1270 = .ok (.iconst 1, 1) := by decide +kernel
theorem dL_refuses_1271 : decode cL_refuses 1271 = .ok (.iconst 1, 1) := by decide +kernel
theorem dL_refuses_1272 : decode cL_refuses 1272 = .ok (.iload 11, 2) := by decide +kernel
theorem dL_refuses_1274 : decode cL_refuses 1274 = .ok (.ifCond .ne 8, 3) := by decide +kernel
theorem dL_refuses_1277 : decode cL_refuses 1277 = .ok (.bipush (-2), 2) := by decide +kernel
theorem dL_refuses_1279 : decode cL_refuses 1279 = .ok (.goto 16, 3) := by decide +kernel
theorem dL_refuses_1282 : decode cL_refuses 1282 = .ok (.iload 11, 2) := by decide +kernel
theorem dL_refuses_1284 : decode cL_refuses 1284 = .ok (.iconst 1, 1) := by decide +kernel
theorem dL_refuses_1285 : decode cL_refuses 1285 = .ok (.if_icmp .ne 8, 3) := by decide +kernel
theorem dL_refuses_1288 : decode cL_refuses 1288 = .ok (.iload 5, 2) := by decide +kernel
theorem dL_refuses_1290 : decode cL_refuses 1290 = .ok (.goto 5, 3) := by decide +kernel
theorem dL_refuses_1293 : decode cL_refuses 1293 = .ok (.iload 12, 2) := by decide +kernel
theorem dL_refuses_1295 : decode cL_refuses 1295 = .ok (.iconst 0, 1) := by decide +kernel
theorem dL_refuses_1296 : decode cL_refuses 1296 = .ok (.invokestatic 117, 3) := by decide +kernel
theorem dL_refuses_1299 : decode cL_refuses 1299 = .ok (.ldc2_w 98, 3) := by decide +kernel
theorem dL_refuses_1302 : decode cL_refuses 1302 = .ok (.lcmp, 1) := by decide +kernel
theorem dL_refuses_1303 : decode cL_refuses 1303 = .ok (.ifCond .ne 24, 3) := by decide +kernel
theorem dL_refuses_1306 : decode cL_refuses 1306 = .ok (.aload_n 0, 1) := by decide +kernel
theorem dL_refuses_1307 : decode cL_refuses 1307 = .ok (.bipush 25, 2) := by decide +kernel
theorem dL_refuses_1309 : decode cL_refuses 1309 = .ok (.iconst 1, 1) := by decide +kernel
theorem dL_refuses_1310 : decode cL_refuses 1310 = .ok (.iconst 1, 1) := by decide +kernel
theorem dL_refuses_1311 : decode cL_refuses 1311 = .ok (.iconst (-1), 1) := by decide +kernel
theorem dL_refuses_1312 : decode cL_refuses 1312 = .ok (.iconst 0, 1) := by decide +kernel
theorem dL_refuses_1313 : decode cL_refuses 1313 = .ok (.invokestatic 117, 3) := by decide +kernel
theorem dL_refuses_1316 : decode cL_refuses 1316 = .ok (.ldc2_w 102, 3) := by decide +kernel
theorem dL_refuses_1319 : decode cL_refuses 1319 = .ok (.lcmp, 1) := by decide +kernel
theorem dL_refuses_1320 : decode cL_refuses 1320 = .ok (.ifCond .ne 7, 3) := by decide +kernel
theorem dL_refuses_1323 : decode cL_refuses 1323 = .ok (.iconst 1, 1) := by decide +kernel
theorem dL_refuses_1324 : decode cL_refuses 1324 = .ok (.goto 4, 3) := by decide +kernel
theorem dL_refuses_1327 : decode cL_refuses 1327 = .ok (.iconst 0, 1) := by decide +kernel
theorem dL_refuses_1328 : decode cL_refuses 1328 = .ok (.istore 22, 2) := by decide +kernel
theorem dL_refuses_1330 : decode cL_refuses 1330 = .ok (.iload 22, 2) := by decide +kernel
theorem dL_refuses_1332 : decode cL_refuses 1332 = .ok (.ifCond .eq 73, 3) := by decide +kernel
theorem dL_refuses_1335 : decode cL_refuses 1335 = .ok (.iload_n 1, 1) := by decide +kernel
theorem dL_refuses_1336 : decode cL_refuses 1336 = .ok (.ifCond .eq 65, 3) := by decide +kernel
theorem dL_refuses_1339 : decode cL_refuses 1339 = .ok (.aload_n 0, 1) := by decide +kernel
theorem dL_refuses_1340 : decode cL_refuses 1340 = .ok (.bipush 6, 2) := by decide +kernel
theorem dL_refuses_1342 : decode cL_refuses 1342 = .ok (.iconst 0, 1) := by decide +kernel
theorem dL_refuses_1343 : decode cL_refuses 1343 = .ok (.iload 19, 2) := by decide +kernel
theorem dL_refuses_1345 : decode cL_refuses 1345 = .ok (.iconst 0, 1) := by decide +kernel
theorem dL_refuses_1346 : decode cL_refuses 1346 = .ok (.iconst 1, 1) := by decide +kernel
theorem dL_refuses_1347 : decode cL_refuses 1347 = .ok (.invokestatic 117, 3) := by decide +kernel
theorem dL_refuses_1350 : decode cL_refuses 1350 = .ok (.ldc2_w 102, 3) := by decide +kernel
theorem dL_refuses_1353 : decode cL_refuses 1353 = .ok (.lcmp, 1) := by decide +kernel
theorem dL_refuses_1354 : decode cL_refuses 1354 = .ok (.ifCond .ne 51, 3) := by decide +kernel
theorem dL_refuses_1357 : decode cL_refuses 1357 = .ok (.aload_n 0, 1) := by decide +kernel
theorem dL_refuses_1358 : decode cL_refuses 1358 = .ok (.bipush 6, 2) := by decide +kernel
theorem dL_refuses_1360 : decode cL_refuses 1360 = .ok (.iconst 0, 1) := by decide +kernel
theorem dL_refuses_1361 : decode cL_refuses 1361 = .ok (.iconst 0, 1) := by decide +kernel
theorem dL_refuses_1362 : decode cL_refuses 1362 = .ok (.iconst 0, 1) := by decide +kernel
theorem dL_refuses_1363 : decode cL_refuses 1363 = .ok (.iload 11, 2) := by decide +kernel
theorem dL_refuses_1365 : decode cL_refuses 1365 = .ok (.ifCond .ne 7, 3) := by decide +kernel
theorem dL_refuses_1368 : decode cL_refuses 1368 = .ok (.iconst 0, 1) := by decide +kernel
theorem dL_refuses_1369 : decode cL_refuses 1369 = .ok (.goto 5, 3) := by decide +kernel
theorem dL_refuses_1372 : decode cL_refuses 1372 = .ok (.iload 19, 2) := by decide +kernel
theorem dL_refuses_1374 : decode cL_refuses 1374 = .ok (.invokestatic 117, 3) := by decide +kernel
theorem dL_refuses_1377 : decode cL_refuses 1377 = .ok (.ldc2_w 102, 3) := by decide +kernel
theorem dL_refuses_1380 : decode cL_refuses 1380 = .ok (.lcmp, 1) := by decide +kernel
theorem dL_refuses_1381 : decode cL_refuses 1381 = .ok (.ifCond .ne 24, 3) := by decide +kernel
theorem dL_refuses_1384 : decode cL_refuses 1384 = .ok (.aload_n 0, 1) := by decide +kernel
theorem dL_refuses_1385 : decode cL_refuses 1385 = .ok (.bipush 7, 2) := by decide +kernel
theorem dL_refuses_1387 : decode cL_refuses 1387 = .ok (.iconst 0, 1) := by decide +kernel
theorem dL_refuses_1388 : decode cL_refuses 1388 = .ok (.iconst 0, 1) := by decide +kernel
theorem dL_refuses_1389 : decode cL_refuses 1389 = .ok (.iconst 0, 1) := by decide +kernel
theorem dL_refuses_1390 : decode cL_refuses 1390 = .ok (.iconst 0, 1) := by decide +kernel
theorem dL_refuses_1391 : decode cL_refuses 1391 = .ok (.invokestatic 117, 3) := by decide +kernel
theorem dL_refuses_1394 : decode cL_refuses 1394 = .ok (.ldc2_w 102, 3) := by decide +kernel
theorem dL_refuses_1397 : decode cL_refuses 1397 = .ok (.lcmp, 1) := by decide +kernel
theorem dL_refuses_1398 : decode cL_refuses 1398 = .ok (.ifCond .ne 7, 3) := by decide +kernel
theorem dL_refuses_1401 : decode cL_refuses 1401 = .ok (.iconst 1, 1) := by decide +kernel
theorem dL_refuses_1402 : decode cL_refuses 1402 = .ok (.goto 4, 3) := by decide +kernel
theorem dL_refuses_1405 : decode cL_refuses 1405 = .ok (.iconst 0, 1) := by decide +kernel
theorem dL_refuses_1406 : decode cL_refuses 1406 = .ok (.istore 22, 2) := by decide +kernel
theorem dL_refuses_1408 : decode cL_refuses 1408 = .ok (.iload 22, 2) := by decide +kernel
theorem dL_refuses_1410 : decode cL_refuses 1410 = .ok (.ifCond .ne 5, 3) := by decide +kernel
theorem dL_refuses_1413 : decode cL_refuses 1413 = .ok (.iconst 0, 1) := by decide +kernel
theorem dL_refuses_1414 : decode cL_refuses 1414 = .ok (.ireturn, 1) := by decide +kernel
theorem dL_refuses_1415 : decode cL_refuses 1415 = .ok (.iinc 11 1, 3) := by decide +kernel
theorem dL_refuses_1418 : decode cL_refuses 1418 = .ok (.goto (-1384), 3) := by decide +kernel
theorem dL_refuses_1421 : decode cL_refuses 1421 = .ok (.aload_n 0, 1) := by decide +kernel
theorem dL_refuses_1422 : decode cL_refuses 1422 = .ok (.iconst 0, 1) := by decide +kernel
theorem dL_refuses_1423 : decode cL_refuses 1423 = .ok (.invokevirtual 23, 3) := by decide +kernel
theorem dL_refuses_1426 : decode cL_refuses 1426 = .ok (.iload 7, 2) := by decide +kernel
theorem dL_refuses_1428 : decode cL_refuses 1428 = .ok (.if_icmp .ne 45, 3) := by decide +kernel
theorem dL_refuses_1431 : decode cL_refuses 1431 = .ok (.aload_n 0, 1) := by decide +kernel
theorem dL_refuses_1432 : decode cL_refuses 1432 = .ok (.iconst 2, 1) := by decide +kernel
theorem dL_refuses_1433 : decode cL_refuses 1433 = .ok (.invokevirtual 23, 3) := by decide +kernel
theorem dL_refuses_1436 : decode cL_refuses 1436 = .ok (.iload 8, 2) := by decide +kernel
theorem dL_refuses_1438 : decode cL_refuses 1438 = .ok (.if_icmp .ne 35, 3) := by decide +kernel
theorem dL_refuses_1441 : decode cL_refuses 1441 = .ok (.aload_n 0, 1) := by decide +kernel
theorem dL_refuses_1442 : decode cL_refuses 1442 = .ok (.invokevirtual 109, 3) := by decide +kernel
theorem dL_refuses_1445 : decode cL_refuses 1445 = .ok (.iload 9, 2) := by decide +kernel
theorem dL_refuses_1447 : decode cL_refuses 1447 = .ok (.if_icmp .ne 26, 3) := by decide +kernel
theorem dL_refuses_1450 : decode cL_refuses 1450 = .ok (.aload_n 0, 1) := by decide +kernel
theorem dL_refuses_1451 : decode cL_refuses 1451 = .ok (.invokevirtual 123, 3) := by decide +kernel
theorem dL_refuses_1454 : decode cL_refuses 1454 = .ok (.iload 9, 2) := by decide +kernel
theorem dL_refuses_1456 : decode cL_refuses 1456 = .ok (.if_icmp .ne 17, 3) := by decide +kernel
theorem dL_refuses_1459 : decode cL_refuses 1459 = .ok (.aload_n 0, 1) := by decide +kernel
theorem dL_refuses_1460 : decode cL_refuses 1460 = .ok (.iconst 0, 1) := by decide +kernel
theorem dL_refuses_1461 : decode cL_refuses 1461 = .ok (.invokevirtual 80, 3) := by decide +kernel
theorem dL_refuses_1464 : decode cL_refuses 1464 = .ok (.iload 10, 2) := by decide +kernel
theorem dL_refuses_1466 : decode cL_refuses 1466 = .ok (.if_icmp .ne 7, 3) := by decide +kernel
theorem dL_refuses_1469 : decode cL_refuses 1469 = .ok (.iconst 1, 1) := by decide +kernel
theorem dL_refuses_1470 : decode cL_refuses 1470 = .ok (.goto 4, 3) := by decide +kernel
theorem dL_refuses_1473 : decode cL_refuses 1473 = .ok (.iconst 0, 1) := by decide +kernel
theorem dL_refuses_1474 : decode cL_refuses 1474 = .ok (.ireturn, 1) := by decide +kernel
theorem dL_face_0 : decode cL_face 0 = .ok (.aload_n 0, 1) := by decide +kernel
theorem dL_face_1 : decode cL_face 1 = .ok (.iload_n 1, 1) := by decide +kernel
theorem dL_face_2 : decode cL_face 2 = .ok (.iconst 0, 1) := by decide +kernel
theorem dL_face_3 : decode cL_face 3 = .ok (.invokevirtual 17, 3) := by decide +kernel
theorem dL_face_6 : decode cL_face 6 = .ok (.iload_n 2, 1) := by decide +kernel
theorem dL_face_7 : decode cL_face 7 = .ok (.if_icmp .ne 28, 3) := by decide +kernel
theorem dL_face_10 : decode cL_face 10 = .ok (.aload_n 0, 1) := by decide +kernel
theorem dL_face_11 : decode cL_face 11 = .ok (.iload_n 1, 1) := by decide +kernel
theorem dL_face_12 : decode cL_face 12 = .ok (.iconst 1, 1) := by decide +kernel
theorem dL_face_13 : decode cL_face 13 = .ok (.invokevirtual 17, 3) := by decide +kernel
theorem dL_face_16 : decode cL_face 16 = .ok (.iload_n 3, 1) := by decide +kernel
theorem dL_face_17 : decode cL_face 17 = .ok (.if_icmp .ne 18, 3) := by decide +kernel
theorem dL_face_20 : decode cL_face 20 = .ok (.aload_n 0, 1) := by decide +kernel
theorem dL_face_21 : decode cL_face 21 = .ok (.iload_n 1, 1) := by decide +kernel
theorem dL_face_22 : decode cL_face 22 = .ok (.iconst 2, 1) := by decide +kernel
theorem dL_face_23 : decode cL_face 23 = .ok (.invokevirtual 17, 3) := by decide +kernel
theorem dL_face_26 : decode cL_face 26 = .ok (.iload 4, 2) := by decide +kernel
theorem dL_face_28 : decode cL_face 28 = .ok (.if_icmp .ne 7, 3) := by decide +kernel
theorem dL_face_31 : decode cL_face 31 = .ok (.iconst 1, 1) := by decide +kernel
theorem dL_face_32 : decode cL_face 32 = .ok (.goto 4, 3) := by decide +kernel
theorem dL_face_35 : decode cL_face 35 = .ok (.iconst 0, 1) := by decide +kernel
theorem dL_face_36 : decode cL_face 36 = .ok (.ireturn, 1) := by decide +kernel
theorem dL_net_0 : decode cL_net 0 = .ok (.aload_n 0, 1) := by decide +kernel
theorem dL_net_1 : decode cL_net 1 = .ok (.iconst 0, 1) := by decide +kernel
theorem dL_net_2 : decode cL_net 2 = .ok (.invokevirtual 23, 3) := by decide +kernel
theorem dL_net_5 : decode cL_net 5 = .ok (.iload_n 1, 1) := by decide +kernel
theorem dL_net_6 : decode cL_net 6 = .ok (.if_icmp .ne 52, 3) := by decide +kernel
theorem dL_net_9 : decode cL_net 9 = .ok (.aload_n 0, 1) := by decide +kernel
theorem dL_net_10 : decode cL_net 10 = .ok (.iconst 1, 1) := by decide +kernel
theorem dL_net_11 : decode cL_net 11 = .ok (.invokevirtual 23, 3) := by decide +kernel
theorem dL_net_14 : decode cL_net 14 = .ok (.iconst 3, 1) := by decide +kernel
theorem dL_net_15 : decode cL_net 15 = .ok (.iload_n 1, 1) := by decide +kernel
theorem dL_net_16 : decode cL_net 16 = .ok (.imul, 1) := by decide +kernel
theorem dL_net_17 : decode cL_net 17 = .ok (.bipush 6, 2) := by decide +kernel
theorem dL_net_19 : decode cL_net 19 = .ok (.isub, 1) := by decide +kernel
theorem dL_net_20 : decode cL_net 20 = .ok (.if_icmp .ne 38, 3) := by decide +kernel
theorem dL_net_23 : decode cL_net 23 = .ok (.aload_n 0, 1) := by decide +kernel
theorem dL_net_24 : decode cL_net 24 = .ok (.iconst 2, 1) := by decide +kernel
theorem dL_net_25 : decode cL_net 25 = .ok (.invokevirtual 23, 3) := by decide +kernel
theorem dL_net_28 : decode cL_net 28 = .ok (.iconst 2, 1) := by decide +kernel
theorem dL_net_29 : decode cL_net 29 = .ok (.iload_n 1, 1) := by decide +kernel
theorem dL_net_30 : decode cL_net 30 = .ok (.imul, 1) := by decide +kernel
theorem dL_net_31 : decode cL_net 31 = .ok (.iconst 4, 1) := by decide +kernel
theorem dL_net_32 : decode cL_net 32 = .ok (.isub, 1) := by decide +kernel
theorem dL_net_33 : decode cL_net 33 = .ok (.if_icmp .ne 25, 3) := by decide +kernel
theorem dL_net_36 : decode cL_net 36 = .ok (.aload_n 0, 1) := by decide +kernel
theorem dL_net_37 : decode cL_net 37 = .ok (.iconst 3, 1) := by decide +kernel
theorem dL_net_38 : decode cL_net 38 = .ok (.invokevirtual 23, 3) := by decide +kernel
theorem dL_net_41 : decode cL_net 41 = .ok (.iload_n 2, 1) := by decide +kernel
theorem dL_net_42 : decode cL_net 42 = .ok (.if_icmp .ne 16, 3) := by decide +kernel
theorem dL_net_45 : decode cL_net 45 = .ok (.aload_n 0, 1) := by decide +kernel
theorem dL_net_46 : decode cL_net 46 = .ok (.iconst 4, 1) := by decide +kernel
theorem dL_net_47 : decode cL_net 47 = .ok (.invokevirtual 23, 3) := by decide +kernel
theorem dL_net_50 : decode cL_net 50 = .ok (.iload_n 3, 1) := by decide +kernel
theorem dL_net_51 : decode cL_net 51 = .ok (.if_icmp .ne 7, 3) := by decide +kernel
theorem dL_net_54 : decode cL_net 54 = .ok (.iconst 1, 1) := by decide +kernel
theorem dL_net_55 : decode cL_net 55 = .ok (.goto 4, 3) := by decide +kernel
theorem dL_net_58 : decode cL_net 58 = .ok (.iconst 0, 1) := by decide +kernel
theorem dL_net_59 : decode cL_net 59 = .ok (.ireturn, 1) := by decide +kernel
theorem dL_around_0 : decode cL_around 0 = .ok (.iload_n 2, 1) := by decide +kernel
theorem dL_around_1 : decode cL_around 1 = .ok (.istore 4, 2) := by decide +kernel
theorem dL_around_3 : decode cL_around 3 = .ok (.iconst 0, 1) := by decide +kernel
theorem dL_around_4 : decode cL_around 4 = .ok (.istore 5, 2) := by decide +kernel
theorem dL_around_6 : decode cL_around 6 = .ok (.iload 5, 2) := by decide +kernel
theorem dL_around_8 : decode cL_around 8 = .ok (.iload_n 3, 1) := by decide +kernel
theorem dL_around_9 : decode cL_around 9 = .ok (.if_icmp .ge 33, 3) := by decide +kernel
theorem dL_around_12 : decode cL_around 12 = .ok (.aload_n 0, 1) := by decide +kernel
theorem dL_around_13 : decode cL_around 13 = .ok (.iload_n 1, 1) := by decide +kernel
theorem dL_around_14 : decode cL_around 14 = .ok (.iload 5, 2) := by decide +kernel
theorem dL_around_16 : decode cL_around 16 = .ok (.invokevirtual 20, 3) := by decide +kernel
theorem dL_around_19 : decode cL_around 19 = .ok (.iload 4, 2) := by decide +kernel
theorem dL_around_21 : decode cL_around 21 = .ok (.bipush 10, 2) := by decide +kernel
theorem dL_around_23 : decode cL_around 23 = .ok (.irem, 1) := by decide +kernel
theorem dL_around_24 : decode cL_around 24 = .ok (.if_icmp .eq 5, 3) := by decide +kernel
theorem dL_around_27 : decode cL_around 27 = .ok (.iconst 0, 1) := by decide +kernel
theorem dL_around_28 : decode cL_around 28 = .ok (.ireturn, 1) := by decide +kernel
theorem dL_around_29 : decode cL_around 29 = .ok (.iload 4, 2) := by decide +kernel
theorem dL_around_31 : decode cL_around 31 = .ok (.bipush 10, 2) := by decide +kernel
theorem dL_around_33 : decode cL_around 33 = .ok (.idiv, 1) := by decide +kernel
theorem dL_around_34 : decode cL_around 34 = .ok (.istore 4, 2) := by decide +kernel
theorem dL_around_36 : decode cL_around 36 = .ok (.iinc 5 1, 3) := by decide +kernel
theorem dL_around_39 : decode cL_around 39 = .ok (.goto (-33), 3) := by decide +kernel
theorem dL_around_42 : decode cL_around 42 = .ok (.aload_n 0, 1) := by decide +kernel
