theorem dL_law_1135 : decode cL_law 1135 = .ok (.aload_n 1, 1) := by decide +kernel
theorem dL_law_1136 : decode cL_law 1136 = .ok (.aload_n 0, 1) := by decide +kernel
theorem dL_law_1137 : decode cL_law 1137 = .ok (.iload_n 3, 1) := by decide +kernel
theorem dL_law_1138 : decode cL_law 1138 = .ok (.iconst 1, 1) := by decide +kernel
theorem dL_law_1139 : decode cL_law 1139 = .ok (.iadd, 1) := by decide +kernel
theorem dL_law_1140 : decode cL_law 1140 = .ok (.iaload, 1) := by decide +kernel
theorem dL_law_1141 : decode cL_law 1141 = .ok (.aload_n 0, 1) := by decide +kernel
theorem dL_law_1142 : decode cL_law 1142 = .ok (.iload_n 3, 1) := by decide +kernel
theorem dL_law_1143 : decode cL_law 1143 = .ok (.iconst 2, 1) := by decide +kernel
theorem dL_law_1144 : decode cL_law 1144 = .ok (.iadd, 1) := by decide +kernel
theorem dL_law_1145 : decode cL_law 1145 = .ok (.iaload, 1) := by decide +kernel
theorem dL_law_1146 : decode cL_law 1146 = .ok (.invokevirtual 126, 3) := by decide +kernel
theorem dL_law_1149 : decode cL_law 1149 = .ok (.pop, 1) := by decide +kernel
theorem dL_law_1150 : decode cL_law 1150 = .ok (.aload_n 2, 1) := by decide +kernel
theorem dL_law_1151 : decode cL_law 1151 = .ok (.aload_n 0, 1) := by decide +kernel
theorem dL_law_1152 : decode cL_law 1152 = .ok (.iload_n 3, 1) := by decide +kernel
theorem dL_law_1153 : decode cL_law 1153 = .ok (.iconst 1, 1) := by decide +kernel
theorem dL_law_1154 : decode cL_law 1154 = .ok (.iadd, 1) := by decide +kernel
theorem dL_law_1155 : decode cL_law 1155 = .ok (.iaload, 1) := by decide +kernel
theorem dL_law_1156 : decode cL_law 1156 = .ok (.aload_n 0, 1) := by decide +kernel
theorem dL_law_1157 : decode cL_law 1157 = .ok (.iload_n 3, 1) := by decide +kernel
theorem dL_law_1158 : decode cL_law 1158 = .ok (.iconst 2, 1) := by decide +kernel
theorem dL_law_1159 : decode cL_law 1159 = .ok (.iadd, 1) := by decide +kernel
theorem dL_law_1160 : decode cL_law 1160 = .ok (.iaload, 1) := by decide +kernel
theorem dL_law_1161 : decode cL_law 1161 = .ok (.invokevirtual 129, 3) := by decide +kernel
theorem dL_law_1164 : decode cL_law 1164 = .ok (.pop, 1) := by decide +kernel
theorem dL_law_1165 : decode cL_law 1165 = .ok (.goto 891, 3) := by decide +kernel
theorem dL_law_1168 : decode cL_law 1168 = .ok (.aload_n 1, 1) := by decide +kernel
theorem dL_law_1169 : decode cL_law 1169 = .ok (.aload_n 0, 1) := by decide +kernel
theorem dL_law_1170 : decode cL_law 1170 = .ok (.iload_n 3, 1) := by decide +kernel
theorem dL_law_1171 : decode cL_law 1171 = .ok (.iconst 1, 1) := by decide +kernel
theorem dL_law_1172 : decode cL_law 1172 = .ok (.iadd, 1) := by decide +kernel
theorem dL_law_1173 : decode cL_law 1173 = .ok (.iaload, 1) := by decide +kernel
theorem dL_law_1174 : decode cL_law 1174 = .ok (.aload_n 0, 1) := by decide +kernel
theorem dL_law_1175 : decode cL_law 1175 = .ok (.iload_n 3, 1) := by decide +kernel
theorem dL_law_1176 : decode cL_law 1176 = .ok (.iconst 2, 1) := by decide +kernel
theorem dL_law_1177 : decode cL_law 1177 = .ok (.iadd, 1) := by decide +kernel
theorem dL_law_1178 : decode cL_law 1178 = .ok (.iaload, 1) := by decide +kernel
theorem dL_law_1179 : decode cL_law 1179 = .ok (.aload_n 0, 1) := by decide +kernel
theorem dL_law_1180 : decode cL_law 1180 = .ok (.iload_n 3, 1) := by decide +kernel
theorem dL_law_1181 : decode cL_law 1181 = .ok (.iconst 3, 1) := by decide +kernel
theorem dL_law_1182 : decode cL_law 1182 = .ok (.iadd, 1) := by decide +kernel
theorem dL_law_1183 : decode cL_law 1183 = .ok (.iaload, 1) := by decide +kernel
theorem dL_law_1184 : decode cL_law 1184 = .ok (.invokevirtual 130, 3) := by decide +kernel
theorem dL_law_1187 : decode cL_law 1187 = .ok (.pop, 1) := by decide +kernel
theorem dL_law_1188 : decode cL_law 1188 = .ok (.aload_n 2, 1) := by decide +kernel
theorem dL_law_1189 : decode cL_law 1189 = .ok (.aload_n 0, 1) := by decide +kernel
theorem dL_law_1190 : decode cL_law 1190 = .ok (.iload_n 3, 1) := by decide +kernel
theorem dL_law_1191 : decode cL_law 1191 = .ok (.iconst 1, 1) := by decide +kernel
theorem dL_law_1192 : decode cL_law 1192 = .ok (.iadd, 1) := by decide +kernel
theorem dL_law_1193 : decode cL_law 1193 = .ok (.iaload, 1) := by decide +kernel
theorem dL_law_1194 : decode cL_law 1194 = .ok (.aload_n 0, 1) := by decide +kernel
theorem dL_law_1195 : decode cL_law 1195 = .ok (.iload_n 3, 1) := by decide +kernel
theorem dL_law_1196 : decode cL_law 1196 = .ok (.iconst 2, 1) := by decide +kernel
theorem dL_law_1197 : decode cL_law 1197 = .ok (.iadd, 1) := by decide +kernel
theorem dL_law_1198 : decode cL_law 1198 = .ok (.iaload, 1) := by decide +kernel
theorem dL_law_1199 : decode cL_law 1199 = .ok (.aload_n 0, 1) := by decide +kernel
theorem dL_law_1200 : decode cL_law 1200 = .ok (.iload_n 3, 1) := by decide +kernel
theorem dL_law_1201 : decode cL_law 1201 = .ok (.iconst 3, 1) := by decide +kernel
theorem dL_law_1202 : decode cL_law 1202 = .ok (.iadd, 1) := by decide +kernel
theorem dL_law_1203 : decode cL_law 1203 = .ok (.iaload, 1) := by decide +kernel
theorem dL_law_1204 : decode cL_law 1204 = .ok (.invokevirtual 133, 3) := by decide +kernel
theorem dL_law_1207 : decode cL_law 1207 = .ok (.pop, 1) := by decide +kernel
theorem dL_law_1208 : decode cL_law 1208 = .ok (.goto 848, 3) := by decide +kernel
theorem dL_law_1211 : decode cL_law 1211 = .ok (.aload_n 1, 1) := by decide +kernel
theorem dL_law_1212 : decode cL_law 1212 = .ok (.aload_n 0, 1) := by decide +kernel
theorem dL_law_1213 : decode cL_law 1213 = .ok (.iload_n 3, 1) := by decide +kernel
theorem dL_law_1214 : decode cL_law 1214 = .ok (.iconst 1, 1) := by decide +kernel
theorem dL_law_1215 : decode cL_law 1215 = .ok (.iadd, 1) := by decide +kernel
theorem dL_law_1216 : decode cL_law 1216 = .ok (.iaload, 1) := by decide +kernel
theorem dL_law_1217 : decode cL_law 1217 = .ok (.invokevirtual 134, 3) := by decide +kernel
theorem dL_law_1220 : decode cL_law 1220 = .ok (.pop, 1) := by decide +kernel
theorem dL_law_1221 : decode cL_law 1221 = .ok (.aload_n 2, 1) := by decide +kernel
theorem dL_law_1222 : decode cL_law 1222 = .ok (.aload_n 0, 1) := by decide +kernel
theorem dL_law_1223 : decode cL_law 1223 = .ok (.iload_n 3, 1) := by decide +kernel
theorem dL_law_1224 : decode cL_law 1224 = .ok (.iconst 1, 1) := by decide +kernel
theorem dL_law_1225 : decode cL_law 1225 = .ok (.iadd, 1) := by decide +kernel
theorem dL_law_1226 : decode cL_law 1226 = .ok (.iaload, 1) := by decide +kernel
theorem dL_law_1227 : decode cL_law 1227 = .ok (.invokevirtual 137, 3) := by decide +kernel
theorem dL_law_1230 : decode cL_law 1230 = .ok (.pop, 1) := by decide +kernel
theorem dL_law_1231 : decode cL_law 1231 = .ok (.goto 825, 3) := by decide +kernel
theorem dL_law_1234 : decode cL_law 1234 = .ok (.aload_n 1, 1) := by decide +kernel
theorem dL_law_1235 : decode cL_law 1235 = .ok (.aload_n 0, 1) := by decide +kernel
theorem dL_law_1236 : decode cL_law 1236 = .ok (.iload_n 3, 1) := by decide +kernel
theorem dL_law_1237 : decode cL_law 1237 = .ok (.iconst 1, 1) := by decide +kernel
theorem dL_law_1238 : decode cL_law 1238 = .ok (.iadd, 1) := by decide +kernel
theorem dL_law_1239 : decode cL_law 1239 = .ok (.iaload, 1) := by decide +kernel
theorem dL_law_1240 : decode cL_law 1240 = .ok (.invokevirtual 138, 3) := by decide +kernel
theorem dL_law_1243 : decode cL_law 1243 = .ok (.pop, 1) := by decide +kernel
theorem dL_law_1244 : decode cL_law 1244 = .ok (.aload_n 2, 1) := by decide +kernel
theorem dL_law_1245 : decode cL_law 1245 = .ok (.aload_n 0, 1) := by decide +kernel
theorem dL_law_1246 : decode cL_law 1246 = .ok (.iload_n 3, 1) := by decide +kernel
theorem dL_law_1247 : decode cL_law 1247 = .ok (.iconst 1, 1) := by decide +kernel
theorem dL_law_1248 : decode cL_law 1248 = .ok (.iadd, 1) := by decide +kernel
theorem dL_law_1249 : decode cL_law 1249 = .ok (.iaload, 1) := by decide +kernel
theorem dL_law_1250 : decode cL_law 1250 = .ok (.invokevirtual 141, 3) := by decide +kernel
theorem dL_law_1253 : decode cL_law 1253 = .ok (.pop, 1) := by decide +kernel
theorem dL_law_1254 : decode cL_law 1254 = .ok (.goto 802, 3) := by decide +kernel
theorem dL_law_1257 : decode cL_law 1257 = .ok (.aload_n 1, 1) := by decide +kernel
theorem dL_law_1258 : decode cL_law 1258 = .ok (.aload_n 0, 1) := by decide +kernel
theorem dL_law_1259 : decode cL_law 1259 = .ok (.iload_n 3, 1) := by decide +kernel
theorem dL_law_1260 : decode cL_law 1260 = .ok (.iconst 1, 1) := by decide +kernel
theorem dL_law_1261 : decode cL_law 1261 = .ok (.iadd, 1) := by decide +kernel
theorem dL_law_1262 : decode cL_law 1262 = .ok (.iaload, 1) := by decide +kernel
theorem dL_law_1263 : decode cL_law 1263 = .ok (.aload_n 0, 1) := by decide +kernel
theorem dL_law_1264 : decode cL_law 1264 = .ok (.iload_n 3, 1) := by decide +kernel
theorem dL_law_1265 : decode cL_law 1265 = .ok (.iconst 2, 1) := by decide +kernel
theorem dL_law_1266 : decode cL_law 1266 = .ok (.iadd, 1) := by decide +kernel
theorem dL_law_1267 : decode cL_law 1267 = .ok (.iaload, 1) := by decide +kernel
theorem dL_law_1268 : decode cL_law 1268 = .ok (.invokevirtual 142, 3) := by decide +kernel
theorem dL_law_1271 : decode cL_law 1271 = .ok (.pop, 1) := by decide +kernel
theorem dL_law_1272 : decode cL_law 1272 = .ok (.aload_n 2, 1) := by decide +kernel
theorem dL_law_1273 : decode cL_law 1273 = .ok (.aload_n 0, 1) := by decide +kernel
theorem dL_law_1274 : decode cL_law 1274 = .ok (.iload_n 3, 1) := by decide +kernel
theorem dL_law_1275 : decode cL_law 1275 = .ok (.iconst 1, 1) := by decide +kernel
theorem dL_law_1276 : decode cL_law 1276 = .ok (.iadd, 1) := by decide +kernel
theorem dL_law_1277 : decode cL_law 1277 = .ok (.iaload, 1) := by decide +kernel
theorem dL_law_1278 : decode cL_law 1278 = .ok (.aload_n 0, 1) := by decide +kernel
theorem dL_law_1279 : decode cL_law 1279 = .ok (.iload_n 3, 1) := by decide +kernel
theorem dL_law_1280 : decode cL_law 1280 = .ok (.iconst 2, 1) := by decide +kernel
theorem dL_law_1281 : decode cL_law 1281 = .ok (.iadd, 1) := by decide +kernel
theorem dL_law_1282 : decode cL_law 1282 = .ok (.iaload, 1) := by decide +kernel
theorem dL_law_1283 : decode cL_law 1283 = .ok (.invokevirtual 145, 3) := by decide +kernel
theorem dL_law_1286 : decode cL_law 1286 = .ok (.pop, 1) := by decide +kernel
theorem dL_law_1287 : decode cL_law 1287 = .ok (.goto 769, 3) := by decide +kernel
theorem dL_law_1290 : decode cL_law 1290 = .ok (.aload_n 1, 1) := by decide +kernel
theorem dL_law_1291 : decode cL_law 1291 = .ok (.aload_n 0, 1) := by decide +kernel
theorem dL_law_1292 : decode cL_law 1292 = .ok (.iload_n 3, 1) := by decide +kernel
theorem dL_law_1293 : decode cL_law 1293 = .ok (.iconst 1, 1) := by decide +kernel
theorem dL_law_1294 : decode cL_law 1294 = .ok (.iadd, 1) := by decide +kernel
theorem dL_law_1295 : decode cL_law 1295 = .ok (.iaload, 1) := by decide +kernel
theorem dL_law_1296 : decode cL_law 1296 = .ok (.aload_n 0, 1) := by decide +kernel
theorem dL_law_1297 : decode cL_law 1297 = .ok (.iload_n 3, 1) := by decide +kernel
theorem dL_law_1298 : decode cL_law 1298 = .ok (.iconst 2, 1) := by decide +kernel
theorem dL_law_1299 : decode cL_law 1299 = .ok (.iadd, 1) := by decide +kernel
theorem dL_law_1300 : decode cL_law 1300 = .ok (.iaload, 1) := by decide +kernel
theorem dL_law_1301 : decode cL_law 1301 = .ok (.aload_n 0, 1) := by decide +kernel
theorem dL_law_1302 : decode cL_law 1302 = .ok (.iload_n 3, 1) := by decide +kernel
theorem dL_law_1303 : decode cL_law 1303 = .ok (.iconst 3, 1) := by decide +kernel
theorem dL_law_1304 : decode cL_law 1304 = .ok (.iadd, 1) := by decide +kernel
theorem dL_law_1305 : decode cL_law 1305 = .ok (.iaload, 1) := by decide +kernel
theorem dL_law_1306 : decode cL_law 1306 = .ok (.invokevirtual 146, 3) := by decide +kernel
theorem dL_law_1309 : decode cL_law 1309 = .ok (.pop, 1) := by decide +kernel
theorem dL_law_1310 : decode cL_law 1310 = .ok (.aload_n 2, 1) := by decide +kernel
theorem dL_law_1311 : decode cL_law 1311 = .ok (.aload_n 0, 1) := by decide +kernel
theorem dL_law_1312 : decode cL_law 1312 = .ok (.iload_n 3, 1) := by decide +kernel
theorem dL_law_1313 : decode cL_law 1313 = .ok (.iconst 1, 1) := by decide +kernel
theorem dL_law_1314 : decode cL_law 1314 = .ok (.iadd, 1) := by decide +kernel
theorem dL_law_1315 : decode cL_law 1315 = .ok (.iaload, 1) := by decide +kernel
theorem dL_law_1316 : decode cL_law 1316 = .ok (.aload_n 0, 1) := by decide +kernel
theorem dL_law_1317 : decode cL_law 1317 = .ok (.iload_n 3, 1) := by decide +kernel
theorem dL_law_1318 : decode cL_law 1318 = .ok (.iconst 2, 1) := by decide +kernel
theorem dL_law_1319 : decode cL_law 1319 = .ok (.iadd, 1) := by decide +kernel
theorem dL_law_1320 : decode cL_law 1320 = .ok (.iaload, 1) := by decide +kernel
theorem dL_law_1321 : decode cL_law 1321 = .ok (.aload_n 0, 1) := by decide +kernel
theorem dL_law_1322 : decode cL_law 1322 = .ok (.iload_n 3, 1) := by decide +kernel
theorem dL_law_1323 : decode cL_law 1323 = .ok (.iconst 3, 1) := by decide +kernel
theorem dL_law_1324 : decode cL_law 1324 = .ok (.iadd, 1) := by decide +kernel
theorem dL_law_1325 : decode cL_law 1325 = .ok (.iaload, 1) := by decide +kernel
theorem dL_law_1326 : decode cL_law 1326 = .ok (.invokevirtual 149, 3) := by decide +kernel
theorem dL_law_1329 : decode cL_law 1329 = .ok (.pop, 1) := by decide +kernel
theorem dL_law_1330 : decode cL_law 1330 = .ok (.goto 726, 3) := by decide +kernel
theorem dL_law_1333 : decode cL_law 1333 = .ok (.aload_n 1, 1) := by decide +kernel
theorem dL_law_1334 : decode cL_law 1334 = .ok (.aload_n 0, 1) := by decide +kernel
theorem dL_law_1335 : decode cL_law 1335 = .ok (.iload_n 3, 1) := by decide +kernel
theorem dL_law_1336 : decode cL_law 1336 = .ok (.iconst 1, 1) := by decide +kernel
theorem dL_law_1337 : decode cL_law 1337 = .ok (.iadd, 1) := by decide +kernel
theorem dL_law_1338 : decode cL_law 1338 = .ok (.iaload, 1) := by decide +kernel
theorem dL_law_1339 : decode cL_law 1339 = .ok (.aload_n 0, 1) := by decide +kernel
theorem dL_law_1340 : decode cL_law 1340 = .ok (.iload_n 3, 1) := by decide +kernel
theorem dL_law_1341 : decode cL_law 1341 = .ok (.iconst 2, 1) := by decide +kernel
theorem dL_law_1342 : decode cL_law 1342 = .ok (.iadd, 1) := by decide +kernel
theorem dL_law_1343 : decode cL_law 1343 = .ok (.iaload, 1) := by decide +kernel
theorem dL_law_1344 : decode cL_law 1344 = .ok (.aload_n 0, 1) := by decide +kernel
theorem dL_law_1345 : decode cL_law 1345 = .ok (.iload_n 3, 1) := by decide +kernel
theorem dL_law_1346 : decode cL_law 1346 = .ok (.iconst 3, 1) := by decide +kernel
theorem dL_law_1347 : decode cL_law 1347 = .ok (.iadd, 1) := by decide +kernel
theorem dL_law_1348 : decode cL_law 1348 = .ok (.iaload, 1) := by decide +kernel
theorem dL_law_1349 : decode cL_law 1349 = .ok (.invokevirtual 150, 3) := by decide +kernel
theorem dL_law_1352 : decode cL_law 1352 = .ok (.pop, 1) := by decide +kernel
theorem dL_law_1353 : decode cL_law 1353 = .ok (.aload_n 2, 1) := by decide +kernel
theorem dL_law_1354 : decode cL_law 1354 = .ok (.aload_n 0, 1) := by decide +kernel
theorem dL_law_1355 : decode cL_law 1355 = .ok (.iload_n 3, 1) := by decide +kernel
theorem dL_law_1356 : decode cL_law 1356 = .ok (.iconst 1, 1) := by decide +kernel
theorem dL_law_1357 : decode cL_law 1357 = .ok (.iadd, 1) := by decide +kernel
theorem dL_law_1358 : decode cL_law 1358 = .ok (.iaload, 1) := by decide +kernel
theorem dL_law_1359 : decode cL_law 1359 = .ok (.aload_n 0, 1) := by decide +kernel
theorem dL_law_1360 : decode cL_law 1360 = .ok (.iload_n 3, 1) := by decide +kernel
theorem dL_law_1361 : decode cL_law 1361 = .ok (.iconst 2, 1) := by decide +kernel
theorem dL_law_1362 : decode cL_law 1362 = .ok (.iadd, 1) := by decide +kernel
theorem dL_law_1363 : decode cL_law 1363 = .ok (.iaload, 1) := by decide +kernel
theorem dL_law_1364 : decode cL_law 1364 = .ok (.aload_n 0, 1) := by decide +kernel
theorem dL_law_1365 : decode cL_law 1365 = .ok (.iload_n 3, 1) := by decide +kernel
theorem dL_law_1366 : decode cL_law 1366 = .ok (.iconst 3, 1) := by decide +kernel
theorem dL_law_1367 : decode cL_law 1367 = .ok (.iadd, 1) := by decide +kernel
theorem dL_law_1368 : decode cL_law 1368 = .ok (.iaload, 1) := by decide +kernel
theorem dL_law_1369 : decode cL_law 1369 = .ok (.invokevirtual 153, 3) := by decide +kernel
theorem dL_law_1372 : decode cL_law 1372 = .ok (.pop, 1) := by decide +kernel
theorem dL_law_1373 : decode cL_law 1373 = .ok (.goto 683, 3) := by decide +kernel
theorem dL_law_1376 : decode cL_law 1376 = .ok (.aload_n 1, 1) := by decide +kernel
theorem dL_law_1377 : decode cL_law 1377 = .ok (.aload_n 0, 1) := by decide +kernel
theorem dL_law_1378 : decode cL_law 1378 = .ok (.iload_n 3, 1) := by decide +kernel
theorem dL_law_1379 : decode cL_law 1379 = .ok (.iconst 1, 1) := by decide +kernel
theorem dL_law_1380 : decode cL_law 1380 = .ok (.iadd, 1) := by decide +kernel
theorem dL_law_1381 : decode cL_law 1381 = .ok (.iaload, 1) := by decide +kernel
theorem dL_law_1382 : decode cL_law 1382 = .ok (.invokevirtual 154, 3) := by decide +kernel
theorem dL_law_1385 : decode cL_law 1385 = .ok (.pop, 1) := by decide +kernel
theorem dL_law_1386 : decode cL_law 1386 = .ok (.aload_n 2, 1) := by decide +kernel
theorem dL_law_1387 : decode cL_law 1387 = .ok (.aload_n 0, 1) := by decide +kernel
theorem dL_law_1388 : decode cL_law 1388 = .ok (.iload_n 3, 1) := by decide +kernel
theorem dL_law_1389 : decode cL_law 1389 = .ok (.iconst 1, 1) := by decide +kernel
theorem dL_law_1390 : decode cL_law 1390 = .ok (.iadd, 1) := by decide +kernel
theorem dL_law_1391 : decode cL_law 1391 = .ok (.iaload, 1) := by decide +kernel
theorem dL_law_1392 : decode cL_law 1392 = .ok (.invokevirtual 157, 3) := by decide +kernel
theorem dL_law_1395 : decode cL_law 1395 = .ok (.pop, 1) := by decide +kernel
theorem dL_law_1396 : decode cL_law 1396 = .ok (.goto 660, 3) := by decide +kernel
theorem dL_law_1399 : decode cL_law 1399 = .ok (.aload_n 1, 1) := by decide +kernel
theorem dL_law_1400 : decode cL_law 1400 = .ok (.aload_n 0, 1) := by decide +kernel
theorem dL_law_1401 : decode cL_law 1401 = .ok (.iload_n 3, 1) := by decide +kernel
theorem dL_law_1402 : decode cL_law 1402 = .ok (.iconst 1, 1) := by decide +kernel
theorem dL_law_1403 : decode cL_law 1403 = .ok (.iadd, 1) := by decide +kernel
theorem dL_law_1404 : decode cL_law 1404 = .ok (.iaload, 1) := by decide +kernel
theorem dL_law_1405 : decode cL_law 1405 = .ok (.aload_n 0, 1) := by decide +kernel
theorem dL_law_1406 : decode cL_law 1406 = .ok (.iload_n 3, 1) := by decide +kernel
theorem dL_law_1407 : decode cL_law 1407 = .ok (.iconst 2, 1) := by decide +kernel
theorem dL_law_1408 : decode cL_law 1408 = .ok (.iadd, 1) := by decide +kernel
theorem dL_law_1409 : decode cL_law 1409 = .ok (.iaload, 1) := by decide +kernel
theorem dL_law_1410 : decode cL_law 1410 = .ok (.aload_n 0, 1) := by decide +kernel
theorem dL_law_1411 : decode cL_law 1411 = .ok (.iload_n 3, 1) := by decide +kernel
theorem dL_law_1412 : decode cL_law 1412 = .ok (.iconst 3, 1) := by decide +kernel
theorem dL_law_1413 : decode cL_law 1413 = .ok (.iadd, 1) := by decide +kernel
theorem dL_law_1414 : decode cL_law 1414 = .ok (.iaload, 1) := by decide +kernel
theorem dL_law_1415 : decode cL_law 1415 = .ok (.invokevirtual 158, 3) := by decide +kernel
theorem dL_law_1418 : decode cL_law 1418 = .ok (.pop, 1) := by decide +kernel
theorem dL_law_1419 : decode cL_law 1419 = .ok (.aload_n 2, 1) := by decide +kernel
theorem dL_law_1420 : decode cL_law 1420 = .ok (.aload_n 0, 1) := by decide +kernel
theorem dL_law_1421 : decode cL_law 1421 = .ok (.iload_n 3, 1) := by decide +kernel
theorem dL_law_1422 : decode cL_law 1422 = .ok (.iconst 1, 1) := by decide +kernel
theorem dL_law_1423 : decode cL_law 1423 = .ok (.iadd, 1) := by decide +kernel
theorem dL_law_1424 : decode cL_law 1424 = .ok (.iaload, 1) := by decide +kernel
theorem dL_law_1425 : decode cL_law 1425 = .ok (.aload_n 0, 1) := by decide +kernel
theorem dL_law_1426 : decode cL_law 1426 = .ok (.iload_n 3, 1) := by decide +kernel
theorem dL_law_1427 : decode cL_law 1427 = .ok (.iconst 2, 1) := by decide +kernel
theorem dL_law_1428 : decode cL_law 1428 = .ok (.iadd, 1) := by decide +kernel
theorem dL_law_1429 : decode cL_law 1429 = .ok (.iaload, 1) := by decide +kernel
theorem dL_law_1430 : decode cL_law 1430 = .ok (.aload_n 0, 1) := by decide +kernel
theorem dL_law_1431 : decode cL_law 1431 = .ok (.iload_n 3, 1) := by decide +kernel
theorem dL_law_1432 : decode cL_law 1432 = .ok (.iconst 3, 1) := by decide +kernel
theorem dL_law_1433 : decode cL_law 1433 = .ok (.iadd, 1) := by decide +kernel
theorem dL_law_1434 : decode cL_law 1434 = .ok (.iaload, 1) := by decide +kernel
theorem dL_law_1435 : decode cL_law 1435 = .ok (.invokevirtual 161, 3) := by decide +kernel
theorem dL_law_1438 : decode cL_law 1438 = .ok (.pop, 1) := by decide +kernel
theorem dL_law_1439 : decode cL_law 1439 = .ok (.goto 617, 3) := by decide +kernel
set_option maxHeartbeats 4000000 in
set_option maxRecDepth 100000 in
theorem law_c27 {p : Program} {l : Launch} {e : Env} {s : State} {m : MethodId} {below : List Frame} {meth : Method} {c : Code} {dC : Nat → ClassId} {dI : Nat → Nat → Nat} {b L : Nat} {xs : Nat → Int32} (hL : L ≤ 3072) (C0 : lw_At p s m meth c b L xs) (hz : nzA s) {sa sb sa2 sb2 : Nat → Nat} {zf : Value} (hTA : gz_ST RX6 stIA sa sb zf (fun q : Nat => s.heap.size ≤ q) s s.heap) (hTB : gz_ST RX12 stIB sa2 sb2 zf (fun q : Nat => s.heap.size ≤ q) s s.heap) {x0 hm n : Nat} (hn : 6 * n + 6 ≤ L) {H : Heap} {locs : List Loc} {ls : Array Slot} (hI : LInv dC dI s x0 hm H) (hS : va_S (fun q : Nat => s.heap.size ≤ q) s.heap H locs) (hl : lv_has ls 4 [(0, .ref b), (1, .ref x0), (2, .ref hm), (3, .int (nI (6 * n)))]) (next : ∀ (H : Heap) (locs : List Loc) (ls : Array Slot), LInv dC dI s x0 hm H → va_S (fun q : Nat => s.heap.size ≤ q) s.heap H locs → lv_has ls 4 [(0, .ref b), (1, .ref x0), (2, .ref hm), (3, .int (nI (6 * n)))] → W p l e room_1 s m #[Value.ref b] below meth c H locs (400 + (n + 1)) (40000 + 5 * (n + 1)) (lw_Z below #[Value.ref b] s) (F0 m 2056 ls [])) : W p l e room_1 s m #[Value.ref b] below meth c H locs (400 + n) (40000 + 5 * n) (lw_Z below #[Value.ref b] s) (F0 m 1135 ls []) := by
  obtain ⟨hx, hb, hr, hml, hown0, hts, hX, hbl, hlocks, hgv⟩ := id C0
  have hown : s.vm.findClass RL = some m.cls := hown0
  have hA : ∀ q : Nat, s.heap.size ≤ q → (fun q : Nat => s.heap.size ≤ q) q := fun _ h => h
  have hbA : ¬ (fun q : Nat => s.heap.size ≤ q) b := Nat.not_le.mpr hbl
  obtain ⟨ax, kx, vx, fx, gx, rx, mi, mr, km, fm, rfl, hK, hXI, hMI, hlen, hP, hD⟩ := hI
  refine lv_aload_n hx hb dL_law_1135 rfl (lv_at hl 1 rfl) ?_
  refine lv_aload_n hx hb dL_law_1136 rfl (lv_at hl 0 rfl) ?_
  refine lv_iload_n hx hb dL_law_1137 rfl (lv_at hl 3 rfl) ?_
  refine lv_iconst (v := 1) hx hb dL_law_1138 (by decide) ?_
  refine lv_iadd hx hb dL_law_1139 ?_
  refine gz_topi (y := nI (6 * n + 1)) (gz_ixn n 1 1 rfl) ?_
  refine va_sld hx hb hX hbl hbA hS (vp_in_nI (show 6 * n + 1 < L by omega) (by omega)) dL_law_1140 ?_
  refine lv_topi (fun a1 ea1 => ?_)
  refine lv_aload_n hx hb dL_law_1141 rfl (lv_at hl 0 rfl) ?_
  refine lv_iload_n hx hb dL_law_1142 rfl (lv_at hl 3 rfl) ?_
  refine lv_iconst (v := 2) hx hb dL_law_1143 (by decide) ?_
  refine lv_iadd hx hb dL_law_1144 ?_
  refine gz_topi (y := nI (6 * n + 2)) (gz_ixn n 2 2 rfl) ?_
  refine va_sld hx hb hX hbl hbA hS (vp_in_nI (show 6 * n + 2 < L by omega) (by omega)) dL_law_1145 ?_
  refine lv_topi (fun a2 ea2 => ?_)
  have hPx := gz_PL hP
  have hDx := gz_DL hD
  have hKx := gz_KL hK
  have hFx := gz_freeA hDx hS hA
  refine va_calli (va_runV (As := [.int a1, .int a2]) (rest := []) ⟨hx, hb, hml, hown, hts⟩ (uX11_likely l dC dI H.size ax kx vx fx gx rx hXI a1 a2) (cwV 2 hts (gz_lV lm_219 lm_220 lm_221 lm_4 lm_218 lwGA goodGA) rfl rfl rfl (by decide +kernel) ⟨Nat.le_of_ble_eq_true rfl, Nat.le_of_ble_eq_true rfl⟩) ⟨bl_I (bl_a bl_sz (bl_a bl_P (bl_a bl_K (bl_a bl_c bl_nz)))), xw_recv hKx hPx, fun U hU hW => ⟨rfl, by rw [hU], by rw [hU]; exact hPx, va_K.moved hW.alike hKx, hDx.weaken (fun _ _ _ _ => trivial), nzA_warm hW hz⟩⟩ rfl rfl hl.1 rfl (lv_room (Nat.le_of_ble_eq_true rfl)) dL_law_1146 ⟨by show 400 + n + 0 ≤ 600000; omega, by show 40000 + 5 * n + 0 ≤ 7302250; omega⟩) hS (fun q _ h => hFx q h) hFx (fun rx9 u t H1 locs ht hvm hw hB hz1 hk1 hS => ?_)
  obtain ⟨ax2, kx2, vx2, fx2, gx2, rx2, hKK, h0, hXI2, hrelx, hP1, hD1⟩ := hB
  rw [ht] at hP1
  subst hw
  have hw : True := trivial
  obtain ⟨hP, hD⟩ := gz_joinL hP hD hk1 hFx hP1 hD1
  have hK := va_K.app (hKK _ hKx) (gz_KR hK)
  have hwx := hw
  generalize H1 = H at hP hS ⊢
  refine lv_pop hx hb dL_law_1149 rfl ?_
  refine lv_aload_n hx hb dL_law_1150 rfl (lv_at hl 2 rfl) ?_
  refine lv_aload_n hx hb dL_law_1151 rfl (lv_at hl 0 rfl) ?_
  refine lv_iload_n hx hb dL_law_1152 rfl (lv_at hl 3 rfl) ?_
  refine lv_iconst (v := 1) hx hb dL_law_1153 (by decide) ?_
  refine lv_iadd hx hb dL_law_1154 ?_
  refine gz_topi (y := nI (6 * n + 1)) (gz_ixn n 1 1 rfl) ?_
  refine va_sld hx hb hX hbl hbA hS (vp_in_nI (show 6 * n + 1 < L by omega) (by omega)) dL_law_1155 ?_
  refine lv_topi (fun a3 ea3 => ?_)
  refine lv_aload_n hx hb dL_law_1156 rfl (lv_at hl 0 rfl) ?_
  refine lv_iload_n hx hb dL_law_1157 rfl (lv_at hl 3 rfl) ?_
  refine lv_iconst (v := 2) hx hb dL_law_1158 (by decide) ?_
  refine lv_iadd hx hb dL_law_1159 ?_
  refine gz_topi (y := nI (6 * n + 2)) (gz_ixn n 2 2 rfl) ?_
  refine va_sld hx hb hX hbl hbA hS (vp_in_nI (show 6 * n + 2 < L by omega) (by omega)) dL_law_1160 ?_
  refine lv_topi (fun a4 ea4 => ?_)
  have hPx := gz_PR hP
  have hDx := gz_DR hD
  have hKx := gz_KR hK
  have hFx := gz_freeA hDx hS hA
  refine va_calli (va_runV (As := [.int a3, .int a4]) (rest := []) ⟨hx, hb, hml, hown, hts⟩ (uX12_likely l dC dI H.size hm mi mr km fm hMI a3 a4) (cwV 2 hts (gz_lV lm_223 lm_224 lm_225 lm_9 lm_222 lwGB goodGB) rfl rfl rfl (by decide +kernel) ⟨Nat.le_of_ble_eq_true rfl, Nat.le_of_ble_eq_true rfl⟩) ⟨bl_I (bl_a bl_sz (bl_a bl_P (bl_a bl_K bl_c))), mw2_recv hKx hPx, fun U hU hW => ⟨rfl, by rw [hU], by rw [hU]; exact hPx, va_K.moved hW.alike hKx, hDx.weaken (fun _ _ _ _ => trivial)⟩⟩ rfl rfl hl.1 rfl (lv_room (Nat.le_of_ble_eq_true rfl)) dL_law_1161 ⟨by show 400 + n + 0 ≤ 600000; omega, by show 40000 + 5 * n + 0 ≤ 7302250; omega⟩) hS (fun q _ h => hFx q h) hFx (fun rm9 u t H1 locs ht hvm hw hB hz1 hk1 hS => ?_)
  obtain ⟨mi2, fm2, hMI2, hrelm, hP1, hD1⟩ := hB
  rw [ht] at hP1
  subst hw
  have hw : True := trivial
  obtain ⟨hP, hD⟩ := gz_joinR hP hD hk1 hFx hP1 hD1
  have hwm := hw
  generalize H1 = H at hP hS ⊢
  refine lv_pop hx hb dL_law_1164 rfl ?_
  refine lv_goto (tgt := 2056) hx hb dL_law_1165 (by decide) ?_
  have e90 : a3 = a1 := ea3.trans ea1.symm
  have e91 : a4 = a2 := ea4.trans ea2.symm
  rw [e90, e91] at hrelm
  have hN9 := pr_likely hXI hMI hlen hrelx hrelm
  refine W.widen (k := 400 + (n + 1)) (n := 40000 + 5 * (n + 1)) (by omega) (by omega) ?_
  exact next _ _ _ ⟨ax2, kx2, vx2, fx2, gx2, rx2, mi2, mr, km, fm2, h0, hK, hXI2, hMI2, hN9, hP, hD⟩ hS hl
set_option maxHeartbeats 4000000 in
set_option maxRecDepth 100000 in
theorem law_c28 {p : Program} {l : Launch} {e : Env} {s : State} {m : MethodId} {below : List Frame} {meth : Method} {c : Code} {dC : Nat → ClassId} {dI : Nat → Nat → Nat} {b L : Nat} {xs : Nat → Int32} (hL : L ≤ 3072) (C0 : lw_At p s m meth c b L xs) (hz : nzA s) {sa sb sa2 sb2 : Nat → Nat} {zf : Value} (hTA : gz_ST RX6 stIA sa sb zf (fun q : Nat => s.heap.size ≤ q) s s.heap) (hTB : gz_ST RX12 stIB sa2 sb2 zf (fun q : Nat => s.heap.size ≤ q) s s.heap) {x0 hm n : Nat} (hn : 6 * n + 6 ≤ L) {H : Heap} {locs : List Loc} {ls : Array Slot} (hI : LInv dC dI s x0 hm H) (hS : va_S (fun q : Nat => s.heap.size ≤ q) s.heap H locs) (hl : lv_has ls 4 [(0, .ref b), (1, .ref x0), (2, .ref hm), (3, .int (nI (6 * n)))]) (next : ∀ (H : Heap) (locs : List Loc) (ls : Array Slot), LInv dC dI s x0 hm H → va_S (fun q : Nat => s.heap.size ≤ q) s.heap H locs → lv_has ls 4 [(0, .ref b), (1, .ref x0), (2, .ref hm), (3, .int (nI (6 * n)))] → W p l e room_1 s m #[Value.ref b] below meth c H locs (400 + (n + 1)) (40000 + 5 * (n + 1)) (lw_Z below #[Value.ref b] s) (F0 m 2056 ls [])) : W p l e room_1 s m #[Value.ref b] below meth c H locs (400 + n) (40000 + 5 * n) (lw_Z below #[Value.ref b] s) (F0 m 1168 ls []) := by
  obtain ⟨hx, hb, hr, hml, hown0, hts, hX, hbl, hlocks, hgv⟩ := id C0
  have hown : s.vm.findClass RL = some m.cls := hown0
  have hA : ∀ q : Nat, s.heap.size ≤ q → (fun q : Nat => s.heap.size ≤ q) q := fun _ h => h
  have hbA : ¬ (fun q : Nat => s.heap.size ≤ q) b := Nat.not_le.mpr hbl
  obtain ⟨ax, kx, vx, fx, gx, rx, mi, mr, km, fm, rfl, hK, hXI, hMI, hlen, hP, hD⟩ := hI
  refine lv_aload_n hx hb dL_law_1168 rfl (lv_at hl 1 rfl) ?_
  refine lv_aload_n hx hb dL_law_1169 rfl (lv_at hl 0 rfl) ?_
  refine lv_iload_n hx hb dL_law_1170 rfl (lv_at hl 3 rfl) ?_
  refine lv_iconst (v := 1) hx hb dL_law_1171 (by decide) ?_
  refine lv_iadd hx hb dL_law_1172 ?_
  refine gz_topi (y := nI (6 * n + 1)) (gz_ixn n 1 1 rfl) ?_
  refine va_sld hx hb hX hbl hbA hS (vp_in_nI (show 6 * n + 1 < L by omega) (by omega)) dL_law_1173 ?_
  refine lv_topi (fun a1 ea1 => ?_)
  refine lv_aload_n hx hb dL_law_1174 rfl (lv_at hl 0 rfl) ?_
  refine lv_iload_n hx hb dL_law_1175 rfl (lv_at hl 3 rfl) ?_
  refine lv_iconst (v := 2) hx hb dL_law_1176 (by decide) ?_
  refine lv_iadd hx hb dL_law_1177 ?_
  refine gz_topi (y := nI (6 * n + 2)) (gz_ixn n 2 2 rfl) ?_
  refine va_sld hx hb hX hbl hbA hS (vp_in_nI (show 6 * n + 2 < L by omega) (by omega)) dL_law_1178 ?_
  refine lv_topi (fun a2 ea2 => ?_)
  refine lv_aload_n hx hb dL_law_1179 rfl (lv_at hl 0 rfl) ?_
  refine lv_iload_n hx hb dL_law_1180 rfl (lv_at hl 3 rfl) ?_
  refine lv_iconst (v := 3) hx hb dL_law_1181 (by decide) ?_
  refine lv_iadd hx hb dL_law_1182 ?_
  refine gz_topi (y := nI (6 * n + 3)) (gz_ixn n 3 3 rfl) ?_
  refine va_sld hx hb hX hbl hbA hS (vp_in_nI (show 6 * n + 3 < L by omega) (by omega)) dL_law_1183 ?_
  refine lv_topi (fun a3 ea3 => ?_)
  have hPx := gz_PL hP
  have hDx := gz_DL hD
  have hKx := gz_KL hK
  have hFx := gz_freeA hDx hS hA
  refine va_calli (va_runV (As := [.int a1, .int a2, .int a3]) (rest := []) ⟨hx, hb, hml, hown, hts⟩ (uX11_moved l dC dI H.size ax kx vx fx gx rx hXI a1 a2 a3) (cwV 3 hts (gz_lV lm_227 lm_228 lm_229 lm_4 lm_226 lwGA goodGA) rfl rfl rfl (by decide +kernel) ⟨Nat.le_of_ble_eq_true rfl, Nat.le_of_ble_eq_true rfl⟩) ⟨bl_I (bl_a bl_sz (bl_a bl_P (bl_a bl_K (bl_a bl_c bl_nz)))), xw_recv hKx hPx, fun U hU hW => ⟨rfl, by rw [hU], by rw [hU]; exact hPx, va_K.moved hW.alike hKx, hDx.weaken (fun _ _ _ _ => trivial), nzA_warm hW hz⟩⟩ rfl rfl hl.1 rfl (lv_room (Nat.le_of_ble_eq_true rfl)) dL_law_1184 ⟨by show 400 + n + 0 ≤ 600000; omega, by show 40000 + 5 * n + 0 ≤ 7302250; omega⟩) hS (fun q _ h => hFx q h) hFx (fun rx9 u t H1 locs ht hvm hw hB hz1 hk1 hS => ?_)
  obtain ⟨ax2, kx2, vx2, fx2, gx2, rx2, hKK, h0, hXI2, hrelx, hP1, hD1⟩ := hB
  rw [ht] at hP1
  subst hw
  have hw : True := trivial
  obtain ⟨hP, hD⟩ := gz_joinL hP hD hk1 hFx hP1 hD1
  have hK := va_K.app (hKK _ hKx) (gz_KR hK)
  have hwx := hw
  generalize H1 = H at hP hS ⊢
  refine lv_pop hx hb dL_law_1187 rfl ?_
  refine lv_aload_n hx hb dL_law_1188 rfl (lv_at hl 2 rfl) ?_
  refine lv_aload_n hx hb dL_law_1189 rfl (lv_at hl 0 rfl) ?_
  refine lv_iload_n hx hb dL_law_1190 rfl (lv_at hl 3 rfl) ?_
  refine lv_iconst (v := 1) hx hb dL_law_1191 (by decide) ?_
  refine lv_iadd hx hb dL_law_1192 ?_
  refine gz_topi (y := nI (6 * n + 1)) (gz_ixn n 1 1 rfl) ?_
  refine va_sld hx hb hX hbl hbA hS (vp_in_nI (show 6 * n + 1 < L by omega) (by omega)) dL_law_1193 ?_
  refine lv_topi (fun a4 ea4 => ?_)
  refine lv_aload_n hx hb dL_law_1194 rfl (lv_at hl 0 rfl) ?_
  refine lv_iload_n hx hb dL_law_1195 rfl (lv_at hl 3 rfl) ?_
  refine lv_iconst (v := 2) hx hb dL_law_1196 (by decide) ?_
  refine lv_iadd hx hb dL_law_1197 ?_
  refine gz_topi (y := nI (6 * n + 2)) (gz_ixn n 2 2 rfl) ?_
  refine va_sld hx hb hX hbl hbA hS (vp_in_nI (show 6 * n + 2 < L by omega) (by omega)) dL_law_1198 ?_
  refine lv_topi (fun a5 ea5 => ?_)
  refine lv_aload_n hx hb dL_law_1199 rfl (lv_at hl 0 rfl) ?_
  refine lv_iload_n hx hb dL_law_1200 rfl (lv_at hl 3 rfl) ?_
  refine lv_iconst (v := 3) hx hb dL_law_1201 (by decide) ?_
  refine lv_iadd hx hb dL_law_1202 ?_
  refine gz_topi (y := nI (6 * n + 3)) (gz_ixn n 3 3 rfl) ?_
  refine va_sld hx hb hX hbl hbA hS (vp_in_nI (show 6 * n + 3 < L by omega) (by omega)) dL_law_1203 ?_
  refine lv_topi (fun a6 ea6 => ?_)
  have hPx := gz_PR hP
  have hDx := gz_DR hD
  have hKx := gz_KR hK
  have hFx := gz_freeA hDx hS hA
  refine va_calli (va_runV (As := [.int a4, .int a5, .int a6]) (rest := []) ⟨hx, hb, hml, hown, hts⟩ (uX12_moved l dC dI H.size hm mi mr km fm hMI a4 a5 a6) (cwV 3 hts (gz_lV lm_231 lm_232 lm_233 lm_9 lm_230 lwGB goodGB) rfl rfl rfl (by decide +kernel) ⟨Nat.le_of_ble_eq_true rfl, Nat.le_of_ble_eq_true rfl⟩) ⟨bl_I (bl_a bl_sz (bl_a bl_P (bl_a bl_K bl_c))), mw2_recv hKx hPx, fun U hU hW => ⟨rfl, by rw [hU], by rw [hU]; exact hPx, va_K.moved hW.alike hKx, hDx.weaken (fun _ _ _ _ => trivial)⟩⟩ rfl rfl hl.1 rfl (lv_room (Nat.le_of_ble_eq_true rfl)) dL_law_1204 ⟨by show 400 + n + 0 ≤ 600000; omega, by show 40000 + 5 * n + 0 ≤ 7302250; omega⟩) hS (fun q _ h => hFx q h) hFx (fun rm9 u t H1 locs ht hvm hw hB hz1 hk1 hS => ?_)
  obtain ⟨mi2, fm2, hMI2, hrelm, hP1, hD1⟩ := hB
  rw [ht] at hP1
  subst hw
  have hw : True := trivial
  obtain ⟨hP, hD⟩ := gz_joinR hP hD hk1 hFx hP1 hD1
  have hwm := hw
  generalize H1 = H at hP hS ⊢
  refine lv_pop hx hb dL_law_1207 rfl ?_
  refine lv_goto (tgt := 2056) hx hb dL_law_1208 (by decide) ?_
  have e90 : a4 = a1 := ea4.trans ea1.symm
  have e91 : a5 = a2 := ea5.trans ea2.symm
  have e92 : a6 = a3 := ea6.trans ea3.symm
  rw [e90, e91, e92] at hrelm
  have hN9 := pr_moved hXI hMI hlen hrelx hrelm
  refine W.widen (k := 400 + (n + 1)) (n := 40000 + 5 * (n + 1)) (by omega) (by omega) ?_
  exact next _ _ _ ⟨ax2, kx2, vx2, fx2, gx2, rx2, mi2, mr, km, fm2, h0, hK, hXI2, hMI2, hN9.1, hP, hD⟩ hS hl
set_option maxHeartbeats 4000000 in
set_option maxRecDepth 100000 in
theorem law_c29 {p : Program} {l : Launch} {e : Env} {s : State} {m : MethodId} {below : List Frame} {meth : Method} {c : Code} {dC : Nat → ClassId} {dI : Nat → Nat → Nat} {b L : Nat} {xs : Nat → Int32} (hL : L ≤ 3072) (C0 : lw_At p s m meth c b L xs) (hz : nzA s) {sa sb sa2 sb2 : Nat → Nat} {zf : Value} (hTA : gz_ST RX6 stIA sa sb zf (fun q : Nat => s.heap.size ≤ q) s s.heap) (hTB : gz_ST RX12 stIB sa2 sb2 zf (fun q : Nat => s.heap.size ≤ q) s s.heap) {x0 hm n : Nat} (hn : 6 * n + 6 ≤ L) {H : Heap} {locs : List Loc} {ls : Array Slot} (hI : LInv dC dI s x0 hm H) (hS : va_S (fun q : Nat => s.heap.size ≤ q) s.heap H locs) (hl : lv_has ls 4 [(0, .ref b), (1, .ref x0), (2, .ref hm), (3, .int (nI (6 * n)))]) (next : ∀ (H : Heap) (locs : List Loc) (ls : Array Slot), LInv dC dI s x0 hm H → va_S (fun q : Nat => s.heap.size ≤ q) s.heap H locs → lv_has ls 4 [(0, .ref b), (1, .ref x0), (2, .ref hm), (3, .int (nI (6 * n)))] → W p l e room_1 s m #[Value.ref b] below meth c H locs (400 + (n + 1)) (40000 + 5 * (n + 1)) (lw_Z below #[Value.ref b] s) (F0 m 2056 ls [])) : W p l e room_1 s m #[Value.ref b] below meth c H locs (400 + n) (40000 + 5 * n) (lw_Z below #[Value.ref b] s) (F0 m 1211 ls []) := by
  obtain ⟨hx, hb, hr, hml, hown0, hts, hX, hbl, hlocks, hgv⟩ := id C0
  have hown : s.vm.findClass RL = some m.cls := hown0
  have hA : ∀ q : Nat, s.heap.size ≤ q → (fun q : Nat => s.heap.size ≤ q) q := fun _ h => h
  have hbA : ¬ (fun q : Nat => s.heap.size ≤ q) b := Nat.not_le.mpr hbl
  obtain ⟨ax, kx, vx, fx, gx, rx, mi, mr, km, fm, rfl, hK, hXI, hMI, hlen, hP, hD⟩ := hI
  refine lv_aload_n hx hb dL_law_1211 rfl (lv_at hl 1 rfl) ?_
  refine lv_aload_n hx hb dL_law_1212 rfl (lv_at hl 0 rfl) ?_
  refine lv_iload_n hx hb dL_law_1213 rfl (lv_at hl 3 rfl) ?_
  refine lv_iconst (v := 1) hx hb dL_law_1214 (by decide) ?_
  refine lv_iadd hx hb dL_law_1215 ?_
  refine gz_topi (y := nI (6 * n + 1)) (gz_ixn n 1 1 rfl) ?_
  refine va_sld hx hb hX hbl hbA hS (vp_in_nI (show 6 * n + 1 < L by omega) (by omega)) dL_law_1216 ?_
  refine lv_topi (fun a1 ea1 => ?_)
  have hPx := gz_PL hP
  have hDx := gz_DL hD
  have hKx := gz_KL hK
  have hFx := gz_freeA hDx hS hA
  refine va_calli (va_runV (As := [.int a1]) (rest := []) ⟨hx, hb, hml, hown, hts⟩ (uX11_shifts l dC dI H.size ax kx vx fx gx rx hXI a1) (cwV 1 hts (gz_lV lm_235 lm_236 lm_237 lm_4 lm_234 lwGA goodGA) rfl rfl rfl (by decide +kernel) ⟨Nat.le_of_ble_eq_true rfl, Nat.le_of_ble_eq_true rfl⟩) ⟨bl_I (bl_a bl_sz (bl_a bl_P (bl_a bl_K (bl_a bl_c bl_nz)))), xw_recv hKx hPx, fun U hU hW => ⟨rfl, by rw [hU], by rw [hU]; exact hPx, va_K.moved hW.alike hKx, hDx.weaken (fun _ _ _ _ => trivial), nzA_warm hW hz⟩⟩ rfl rfl hl.1 rfl (lv_room (Nat.le_of_ble_eq_true rfl)) dL_law_1217 ⟨by show 400 + n + 0 ≤ 600000; omega, by show 40000 + 5 * n + 0 ≤ 7302250; omega⟩) hS (fun q _ h => hFx q h) hFx (fun rx9 u t H1 locs ht hvm hw hB hz1 hk1 hS => ?_)
  obtain ⟨ax2, kx2, vx2, fx2, gx2, rx2, hKK, h0, hXI2, hrelx, hP1, hD1⟩ := hB
  rw [ht] at hP1
  subst hw
  have hw : True := trivial
  obtain ⟨hP, hD⟩ := gz_joinL hP hD hk1 hFx hP1 hD1
  have hK := va_K.app (hKK _ hKx) (gz_KR hK)
  have hwx := hw
  generalize H1 = H at hP hS ⊢
  refine lv_pop hx hb dL_law_1220 rfl ?_
  refine lv_aload_n hx hb dL_law_1221 rfl (lv_at hl 2 rfl) ?_
  refine lv_aload_n hx hb dL_law_1222 rfl (lv_at hl 0 rfl) ?_
  refine lv_iload_n hx hb dL_law_1223 rfl (lv_at hl 3 rfl) ?_
  refine lv_iconst (v := 1) hx hb dL_law_1224 (by decide) ?_
  refine lv_iadd hx hb dL_law_1225 ?_
  refine gz_topi (y := nI (6 * n + 1)) (gz_ixn n 1 1 rfl) ?_
  refine va_sld hx hb hX hbl hbA hS (vp_in_nI (show 6 * n + 1 < L by omega) (by omega)) dL_law_1226 ?_
  refine lv_topi (fun a2 ea2 => ?_)
  have hPx := gz_PR hP
  have hDx := gz_DR hD
  have hKx := gz_KR hK
  have hFx := gz_freeA hDx hS hA
  refine va_calli (va_runV (As := [.int a2]) (rest := []) ⟨hx, hb, hml, hown, hts⟩ (uX12_shifts l dC dI H.size hm mi mr km fm hMI a2) (cwV 1 hts (gz_lV lm_239 lm_240 lm_241 lm_9 lm_238 lwGB goodGB) rfl rfl rfl (by decide +kernel) ⟨Nat.le_of_ble_eq_true rfl, Nat.le_of_ble_eq_true rfl⟩) ⟨bl_I (bl_a bl_sz (bl_a bl_P (bl_a bl_K bl_c))), mw2_recv hKx hPx, fun U hU hW => ⟨rfl, by rw [hU], by rw [hU]; exact hPx, va_K.moved hW.alike hKx, hDx.weaken (fun _ _ _ _ => trivial)⟩⟩ rfl rfl hl.1 rfl (lv_room (Nat.le_of_ble_eq_true rfl)) dL_law_1227 ⟨by show 400 + n + 0 ≤ 600000; omega, by show 40000 + 5 * n + 0 ≤ 7302250; omega⟩) hS (fun q _ h => hFx q h) hFx (fun rm9 u t H1 locs ht hvm hw hB hz1 hk1 hS => ?_)
  obtain ⟨mi2, fm2, hMI2, hrelm, hP1, hD1⟩ := hB
  rw [ht] at hP1
  subst hw
  have hw : True := trivial
  obtain ⟨hP, hD⟩ := gz_joinR hP hD hk1 hFx hP1 hD1
  have hwm := hw
  generalize H1 = H at hP hS ⊢
  refine lv_pop hx hb dL_law_1230 rfl ?_
  refine lv_goto (tgt := 2056) hx hb dL_law_1231 (by decide) ?_
  have e90 : a2 = a1 := ea2.trans ea1.symm
  rw [e90] at hrelm
  have hN9 := pr_shifts hXI hMI hlen hrelx hrelm
  refine W.widen (k := 400 + (n + 1)) (n := 40000 + 5 * (n + 1)) (by omega) (by omega) ?_
  exact next _ _ _ ⟨ax2, kx2, vx2, fx2, gx2, rx2, mi2, mr, km, fm2, h0, hK, hXI2, hMI2, hN9.1, hP, hD⟩ hS hl
set_option maxHeartbeats 4000000 in
set_option maxRecDepth 100000 in
theorem law_c30 {p : Program} {l : Launch} {e : Env} {s : State} {m : MethodId} {below : List Frame} {meth : Method} {c : Code} {dC : Nat → ClassId} {dI : Nat → Nat → Nat} {b L : Nat} {xs : Nat → Int32} (hL : L ≤ 3072) (C0 : lw_At p s m meth c b L xs) (hz : nzA s) {sa sb sa2 sb2 : Nat → Nat} {zf : Value} (hTA : gz_ST RX6 stIA sa sb zf (fun q : Nat => s.heap.size ≤ q) s s.heap) (hTB : gz_ST RX12 stIB sa2 sb2 zf (fun q : Nat => s.heap.size ≤ q) s s.heap) {x0 hm n : Nat} (hn : 6 * n + 6 ≤ L) {H : Heap} {locs : List Loc} {ls : Array Slot} (hI : LInv dC dI s x0 hm H) (hS : va_S (fun q : Nat => s.heap.size ≤ q) s.heap H locs) (hl : lv_has ls 4 [(0, .ref b), (1, .ref x0), (2, .ref hm), (3, .int (nI (6 * n)))]) (next : ∀ (H : Heap) (locs : List Loc) (ls : Array Slot), LInv dC dI s x0 hm H → va_S (fun q : Nat => s.heap.size ≤ q) s.heap H locs → lv_has ls 4 [(0, .ref b), (1, .ref x0), (2, .ref hm), (3, .int (nI (6 * n)))] → W p l e room_1 s m #[Value.ref b] below meth c H locs (400 + (n + 1)) (40000 + 5 * (n + 1)) (lw_Z below #[Value.ref b] s) (F0 m 2056 ls [])) : W p l e room_1 s m #[Value.ref b] below meth c H locs (400 + n) (40000 + 5 * n) (lw_Z below #[Value.ref b] s) (F0 m 1234 ls []) := by
  obtain ⟨hx, hb, hr, hml, hown0, hts, hX, hbl, hlocks, hgv⟩ := id C0
  have hown : s.vm.findClass RL = some m.cls := hown0
  have hA : ∀ q : Nat, s.heap.size ≤ q → (fun q : Nat => s.heap.size ≤ q) q := fun _ h => h
  have hbA : ¬ (fun q : Nat => s.heap.size ≤ q) b := Nat.not_le.mpr hbl
  obtain ⟨ax, kx, vx, fx, gx, rx, mi, mr, km, fm, rfl, hK, hXI, hMI, hlen, hP, hD⟩ := hI
  refine lv_aload_n hx hb dL_law_1234 rfl (lv_at hl 1 rfl) ?_
  refine lv_aload_n hx hb dL_law_1235 rfl (lv_at hl 0 rfl) ?_
  refine lv_iload_n hx hb dL_law_1236 rfl (lv_at hl 3 rfl) ?_
  refine lv_iconst (v := 1) hx hb dL_law_1237 (by decide) ?_
  refine lv_iadd hx hb dL_law_1238 ?_
  refine gz_topi (y := nI (6 * n + 1)) (gz_ixn n 1 1 rfl) ?_
  refine va_sld hx hb hX hbl hbA hS (vp_in_nI (show 6 * n + 1 < L by omega) (by omega)) dL_law_1239 ?_
  refine lv_topi (fun a1 ea1 => ?_)
  have hPx := gz_PL hP
  have hDx := gz_DL hD
  have hKx := gz_KL hK
  have hFx := gz_freeA hDx hS hA
  refine va_calli (va_runV (As := [.int a1]) (rest := []) ⟨hx, hb, hml, hown, hts⟩ (uX11_settled l dC dI H.size ax kx vx fx gx rx hXI a1) (cwV 1 hts (gz_lV lm_243 lm_244 lm_245 lm_4 lm_242 lwGA goodGA) rfl rfl rfl (by decide +kernel) ⟨Nat.le_of_ble_eq_true rfl, Nat.le_of_ble_eq_true rfl⟩) ⟨bl_I (bl_a bl_sz (bl_a bl_P (bl_a bl_K (bl_a bl_c bl_nz)))), xw_recv hKx hPx, fun U hU hW => ⟨rfl, by rw [hU], by rw [hU]; exact hPx, va_K.moved hW.alike hKx, hDx.weaken (fun _ _ _ _ => trivial), nzA_warm hW hz⟩⟩ rfl rfl hl.1 rfl (lv_room (Nat.le_of_ble_eq_true rfl)) dL_law_1240 ⟨by show 400 + n + 0 ≤ 600000; omega, by show 40000 + 5 * n + 0 ≤ 7302250; omega⟩) hS (fun q _ h => hFx q h) hFx (fun rx9 u t H1 locs ht hvm hw hB hz1 hk1 hS => ?_)
  obtain ⟨ax2, kx2, vx2, fx2, gx2, rx2, hKK, h0, hXI2, hrelx, hP1, hD1⟩ := hB
  rw [ht] at hP1
  subst hw
  have hw : True := trivial
  obtain ⟨hP, hD⟩ := gz_joinL hP hD hk1 hFx hP1 hD1
  have hK := va_K.app (hKK _ hKx) (gz_KR hK)
  have hwx := hw
  generalize H1 = H at hP hS ⊢
  refine lv_pop hx hb dL_law_1243 rfl ?_
  refine lv_aload_n hx hb dL_law_1244 rfl (lv_at hl 2 rfl) ?_
  refine lv_aload_n hx hb dL_law_1245 rfl (lv_at hl 0 rfl) ?_
  refine lv_iload_n hx hb dL_law_1246 rfl (lv_at hl 3 rfl) ?_
  refine lv_iconst (v := 1) hx hb dL_law_1247 (by decide) ?_
  refine lv_iadd hx hb dL_law_1248 ?_
  refine gz_topi (y := nI (6 * n + 1)) (gz_ixn n 1 1 rfl) ?_
  refine va_sld hx hb hX hbl hbA hS (vp_in_nI (show 6 * n + 1 < L by omega) (by omega)) dL_law_1249 ?_
  refine lv_topi (fun a2 ea2 => ?_)
  have hPx := gz_PR hP
  have hDx := gz_DR hD
  have hKx := gz_KR hK
  have hFx := gz_freeA hDx hS hA
  refine va_calli (va_runV (As := [.int a2]) (rest := []) ⟨hx, hb, hml, hown, hts⟩ (uX12_settled l dC dI H.size hm mi mr km fm hMI a2) (cwV 1 hts (gz_lV lm_247 lm_248 lm_249 lm_9 lm_246 lwGB goodGB) rfl rfl rfl (by decide +kernel) ⟨Nat.le_of_ble_eq_true rfl, Nat.le_of_ble_eq_true rfl⟩) ⟨bl_I (bl_a bl_sz (bl_a bl_P (bl_a bl_K bl_c))), mw2_recv hKx hPx, fun U hU hW => ⟨rfl, by rw [hU], by rw [hU]; exact hPx, va_K.moved hW.alike hKx, hDx.weaken (fun _ _ _ _ => trivial)⟩⟩ rfl rfl hl.1 rfl (lv_room (Nat.le_of_ble_eq_true rfl)) dL_law_1250 ⟨by show 400 + n + 0 ≤ 600000; omega, by show 40000 + 5 * n + 0 ≤ 7302250; omega⟩) hS (fun q _ h => hFx q h) hFx (fun rm9 u t H1 locs ht hvm hw hB hz1 hk1 hS => ?_)
  obtain ⟨mi2, fm2, hMI2, hrelm, hP1, hD1⟩ := hB
  rw [ht] at hP1
  subst hw
  have hw : True := trivial
  obtain ⟨hP, hD⟩ := gz_joinR hP hD hk1 hFx hP1 hD1
  have hwm := hw
  generalize H1 = H at hP hS ⊢
  refine lv_pop hx hb dL_law_1253 rfl ?_
  refine lv_goto (tgt := 2056) hx hb dL_law_1254 (by decide) ?_
  have e90 : a2 = a1 := ea2.trans ea1.symm
  rw [e90] at hrelm
  have hN9 := pr_settled hXI hMI hlen hrelx hrelm
  refine W.widen (k := 400 + (n + 1)) (n := 40000 + 5 * (n + 1)) (by omega) (by omega) ?_
  exact next _ _ _ ⟨ax2, kx2, vx2, fx2, gx2, rx2, mi2, mr, km, fm2, h0, hK, hXI2, hMI2, hN9.1, hP, hD⟩ hS hl
set_option maxHeartbeats 4000000 in
set_option maxRecDepth 100000 in
theorem law_c31 {p : Program} {l : Launch} {e : Env} {s : State} {m : MethodId} {below : List Frame} {meth : Method} {c : Code} {dC : Nat → ClassId} {dI : Nat → Nat → Nat} {b L : Nat} {xs : Nat → Int32} (hL : L ≤ 3072) (C0 : lw_At p s m meth c b L xs) (hz : nzA s) {sa sb sa2 sb2 : Nat → Nat} {zf : Value} (hTA : gz_ST RX6 stIA sa sb zf (fun q : Nat => s.heap.size ≤ q) s s.heap) (hTB : gz_ST RX12 stIB sa2 sb2 zf (fun q : Nat => s.heap.size ≤ q) s s.heap) {x0 hm n : Nat} (hn : 6 * n + 6 ≤ L) {H : Heap} {locs : List Loc} {ls : Array Slot} (hI : LInv dC dI s x0 hm H) (hS : va_S (fun q : Nat => s.heap.size ≤ q) s.heap H locs) (hl : lv_has ls 4 [(0, .ref b), (1, .ref x0), (2, .ref hm), (3, .int (nI (6 * n)))]) (next : ∀ (H : Heap) (locs : List Loc) (ls : Array Slot), LInv dC dI s x0 hm H → va_S (fun q : Nat => s.heap.size ≤ q) s.heap H locs → lv_has ls 4 [(0, .ref b), (1, .ref x0), (2, .ref hm), (3, .int (nI (6 * n)))] → W p l e room_1 s m #[Value.ref b] below meth c H locs (400 + (n + 1)) (40000 + 5 * (n + 1)) (lw_Z below #[Value.ref b] s) (F0 m 2056 ls [])) : W p l e room_1 s m #[Value.ref b] below meth c H locs (400 + n) (40000 + 5 * n) (lw_Z below #[Value.ref b] s) (F0 m 1257 ls []) := by
  obtain ⟨hx, hb, hr, hml, hown0, hts, hX, hbl, hlocks, hgv⟩ := id C0
  have hown : s.vm.findClass RL = some m.cls := hown0
  have hA : ∀ q : Nat, s.heap.size ≤ q → (fun q : Nat => s.heap.size ≤ q) q := fun _ h => h
  have hbA : ¬ (fun q : Nat => s.heap.size ≤ q) b := Nat.not_le.mpr hbl
  obtain ⟨ax, kx, vx, fx, gx, rx, mi, mr, km, fm, rfl, hK, hXI, hMI, hlen, hP, hD⟩ := hI
  refine lv_aload_n hx hb dL_law_1257 rfl (lv_at hl 1 rfl) ?_
  refine lv_aload_n hx hb dL_law_1258 rfl (lv_at hl 0 rfl) ?_
  refine lv_iload_n hx hb dL_law_1259 rfl (lv_at hl 3 rfl) ?_
  refine lv_iconst (v := 1) hx hb dL_law_1260 (by decide) ?_
  refine lv_iadd hx hb dL_law_1261 ?_
  refine gz_topi (y := nI (6 * n + 1)) (gz_ixn n 1 1 rfl) ?_
  refine va_sld hx hb hX hbl hbA hS (vp_in_nI (show 6 * n + 1 < L by omega) (by omega)) dL_law_1262 ?_
  refine lv_topi (fun a1 ea1 => ?_)
  refine lv_aload_n hx hb dL_law_1263 rfl (lv_at hl 0 rfl) ?_
  refine lv_iload_n hx hb dL_law_1264 rfl (lv_at hl 3 rfl) ?_
  refine lv_iconst (v := 2) hx hb dL_law_1265 (by decide) ?_
  refine lv_iadd hx hb dL_law_1266 ?_
  refine gz_topi (y := nI (6 * n + 2)) (gz_ixn n 2 2 rfl) ?_
  refine va_sld hx hb hX hbl hbA hS (vp_in_nI (show 6 * n + 2 < L by omega) (by omega)) dL_law_1267 ?_
  refine lv_topi (fun a2 ea2 => ?_)
  have hPx := gz_PL hP
  have hDx := gz_DL hD
  have hKx := gz_KL hK
  have hFx := gz_freeA hDx hS hA
  refine va_calli (va_runV (As := [.int a1, .int a2]) (rest := []) ⟨hx, hb, hml, hown, hts⟩ (uX11_due l dC dI H.size ax kx vx fx gx rx hXI a1 a2) (cwV 2 hts (gz_lV lm_251 lm_252 lm_253 lm_4 lm_250 lwGA goodGA) rfl rfl rfl (by decide +kernel) ⟨Nat.le_of_ble_eq_true rfl, Nat.le_of_ble_eq_true rfl⟩) ⟨bl_I (bl_a bl_sz (bl_a bl_P (bl_a bl_K (bl_a bl_c bl_nz)))), xw_recv hKx hPx, fun U hU hW => ⟨rfl, by rw [hU], by rw [hU]; exact hPx, va_K.moved hW.alike hKx, hDx.weaken (fun _ _ _ _ => trivial), nzA_warm hW hz⟩⟩ rfl rfl hl.1 rfl (lv_room (Nat.le_of_ble_eq_true rfl)) dL_law_1268 ⟨by show 400 + n + 0 ≤ 600000; omega, by show 40000 + 5 * n + 0 ≤ 7302250; omega⟩) hS (fun q _ h => hFx q h) hFx (fun rx9 u t H1 locs ht hvm hw hB hz1 hk1 hS => ?_)
  obtain ⟨ax2, kx2, vx2, fx2, gx2, rx2, hKK, h0, hXI2, hrelx, hP1, hD1⟩ := hB
  rw [ht] at hP1
  subst hw
  have hw : True := trivial
  obtain ⟨hP, hD⟩ := gz_joinL hP hD hk1 hFx hP1 hD1
  have hK := va_K.app (hKK _ hKx) (gz_KR hK)
  have hwx := hw
  generalize H1 = H at hP hS ⊢
  refine lv_pop hx hb dL_law_1271 rfl ?_
  refine lv_aload_n hx hb dL_law_1272 rfl (lv_at hl 2 rfl) ?_
  refine lv_aload_n hx hb dL_law_1273 rfl (lv_at hl 0 rfl) ?_
  refine lv_iload_n hx hb dL_law_1274 rfl (lv_at hl 3 rfl) ?_
  refine lv_iconst (v := 1) hx hb dL_law_1275 (by decide) ?_
  refine lv_iadd hx hb dL_law_1276 ?_
  refine gz_topi (y := nI (6 * n + 1)) (gz_ixn n 1 1 rfl) ?_
  refine va_sld hx hb hX hbl hbA hS (vp_in_nI (show 6 * n + 1 < L by omega) (by omega)) dL_law_1277 ?_
  refine lv_topi (fun a3 ea3 => ?_)
  refine lv_aload_n hx hb dL_law_1278 rfl (lv_at hl 0 rfl) ?_
  refine lv_iload_n hx hb dL_law_1279 rfl (lv_at hl 3 rfl) ?_
  refine lv_iconst (v := 2) hx hb dL_law_1280 (by decide) ?_
  refine lv_iadd hx hb dL_law_1281 ?_
  refine gz_topi (y := nI (6 * n + 2)) (gz_ixn n 2 2 rfl) ?_
  refine va_sld hx hb hX hbl hbA hS (vp_in_nI (show 6 * n + 2 < L by omega) (by omega)) dL_law_1282 ?_
  refine lv_topi (fun a4 ea4 => ?_)
  have hPx := gz_PR hP
  have hDx := gz_DR hD
  have hKx := gz_KR hK
  have hFx := gz_freeA hDx hS hA
  refine va_calli (va_runV (As := [.int a3, .int a4]) (rest := []) ⟨hx, hb, hml, hown, hts⟩ (uX12_due l dC dI H.size hm mi mr km fm hMI a3 a4) (cwV 2 hts (gz_lV lm_255 lm_256 lm_257 lm_9 lm_254 lwGB goodGB) rfl rfl rfl (by decide +kernel) ⟨Nat.le_of_ble_eq_true rfl, Nat.le_of_ble_eq_true rfl⟩) ⟨bl_I (bl_a bl_sz (bl_a bl_P (bl_a bl_K bl_c))), mw2_recv hKx hPx, fun U hU hW => ⟨rfl, by rw [hU], by rw [hU]; exact hPx, va_K.moved hW.alike hKx, hDx.weaken (fun _ _ _ _ => trivial)⟩⟩ rfl rfl hl.1 rfl (lv_room (Nat.le_of_ble_eq_true rfl)) dL_law_1283 ⟨by show 400 + n + 0 ≤ 600000; omega, by show 40000 + 5 * n + 0 ≤ 7302250; omega⟩) hS (fun q _ h => hFx q h) hFx (fun rm9 u t H1 locs ht hvm hw hB hz1 hk1 hS => ?_)
  obtain ⟨mi2, fm2, hMI2, hrelm, hP1, hD1⟩ := hB
  rw [ht] at hP1
  subst hw
  have hw : True := trivial
  obtain ⟨hP, hD⟩ := gz_joinR hP hD hk1 hFx hP1 hD1
  have hwm := hw
  generalize H1 = H at hP hS ⊢
  refine lv_pop hx hb dL_law_1286 rfl ?_
  refine lv_goto (tgt := 2056) hx hb dL_law_1287 (by decide) ?_
  have e90 : a3 = a1 := ea3.trans ea1.symm
  have e91 : a4 = a2 := ea4.trans ea2.symm
  rw [e90, e91] at hrelm
  have hN9 := pr_due hXI hMI hlen hrelx hrelm
  refine W.widen (k := 400 + (n + 1)) (n := 40000 + 5 * (n + 1)) (by omega) (by omega) ?_
  exact next _ _ _ ⟨ax2, kx2, vx2, fx2, gx2, rx2, mi2, mr, km, fm2, h0, hK, hXI2, hMI2, hN9.1, hP, hD⟩ hS hl
set_option maxHeartbeats 4000000 in
set_option maxRecDepth 100000 in
theorem law_c32 {p : Program} {l : Launch} {e : Env} {s : State} {m : MethodId} {below : List Frame} {meth : Method} {c : Code} {dC : Nat → ClassId} {dI : Nat → Nat → Nat} {b L : Nat} {xs : Nat → Int32} (hL : L ≤ 3072) (C0 : lw_At p s m meth c b L xs) (hz : nzA s) {sa sb sa2 sb2 : Nat → Nat} {zf : Value} (hTA : gz_ST RX6 stIA sa sb zf (fun q : Nat => s.heap.size ≤ q) s s.heap) (hTB : gz_ST RX12 stIB sa2 sb2 zf (fun q : Nat => s.heap.size ≤ q) s s.heap) {x0 hm n : Nat} (hn : 6 * n + 6 ≤ L) {H : Heap} {locs : List Loc} {ls : Array Slot} (hI : LInv dC dI s x0 hm H) (hS : va_S (fun q : Nat => s.heap.size ≤ q) s.heap H locs) (hl : lv_has ls 4 [(0, .ref b), (1, .ref x0), (2, .ref hm), (3, .int (nI (6 * n)))]) (next : ∀ (H : Heap) (locs : List Loc) (ls : Array Slot), LInv dC dI s x0 hm H → va_S (fun q : Nat => s.heap.size ≤ q) s.heap H locs → lv_has ls 4 [(0, .ref b), (1, .ref x0), (2, .ref hm), (3, .int (nI (6 * n)))] → W p l e room_1 s m #[Value.ref b] below meth c H locs (400 + (n + 1)) (40000 + 5 * (n + 1)) (lw_Z below #[Value.ref b] s) (F0 m 2056 ls [])) : W p l e room_1 s m #[Value.ref b] below meth c H locs (400 + n) (40000 + 5 * n) (lw_Z below #[Value.ref b] s) (F0 m 1290 ls []) := by
  obtain ⟨hx, hb, hr, hml, hown0, hts, hX, hbl, hlocks, hgv⟩ := id C0
  have hown : s.vm.findClass RL = some m.cls := hown0
  have hA : ∀ q : Nat, s.heap.size ≤ q → (fun q : Nat => s.heap.size ≤ q) q := fun _ h => h
  have hbA : ¬ (fun q : Nat => s.heap.size ≤ q) b := Nat.not_le.mpr hbl
  obtain ⟨ax, kx, vx, fx, gx, rx, mi, mr, km, fm, rfl, hK, hXI, hMI, hlen, hP, hD⟩ := hI
  refine lv_aload_n hx hb dL_law_1290 rfl (lv_at hl 1 rfl) ?_
  refine lv_aload_n hx hb dL_law_1291 rfl (lv_at hl 0 rfl) ?_
  refine lv_iload_n hx hb dL_law_1292 rfl (lv_at hl 3 rfl) ?_
  refine lv_iconst (v := 1) hx hb dL_law_1293 (by decide) ?_
  refine lv_iadd hx hb dL_law_1294 ?_
  refine gz_topi (y := nI (6 * n + 1)) (gz_ixn n 1 1 rfl) ?_
  refine va_sld hx hb hX hbl hbA hS (vp_in_nI (show 6 * n + 1 < L by omega) (by omega)) dL_law_1295 ?_
  refine lv_topi (fun a1 ea1 => ?_)
  refine lv_aload_n hx hb dL_law_1296 rfl (lv_at hl 0 rfl) ?_
  refine lv_iload_n hx hb dL_law_1297 rfl (lv_at hl 3 rfl) ?_
  refine lv_iconst (v := 2) hx hb dL_law_1298 (by decide) ?_
  refine lv_iadd hx hb dL_law_1299 ?_
  refine gz_topi (y := nI (6 * n + 2)) (gz_ixn n 2 2 rfl) ?_
  refine va_sld hx hb hX hbl hbA hS (vp_in_nI (show 6 * n + 2 < L by omega) (by omega)) dL_law_1300 ?_
  refine lv_topi (fun a2 ea2 => ?_)
  refine lv_aload_n hx hb dL_law_1301 rfl (lv_at hl 0 rfl) ?_
  refine lv_iload_n hx hb dL_law_1302 rfl (lv_at hl 3 rfl) ?_
  refine lv_iconst (v := 3) hx hb dL_law_1303 (by decide) ?_
  refine lv_iadd hx hb dL_law_1304 ?_
  refine gz_topi (y := nI (6 * n + 3)) (gz_ixn n 3 3 rfl) ?_
  refine va_sld hx hb hX hbl hbA hS (vp_in_nI (show 6 * n + 3 < L by omega) (by omega)) dL_law_1305 ?_
  refine lv_topi (fun a3 ea3 => ?_)
  have hPx := gz_PL hP
  have hDx := gz_DL hD
  have hKx := gz_KL hK
  have hFx := gz_freeA hDx hS hA
  refine va_calli (va_runV (As := [.int a1, .int a2, .int a3]) (rest := []) ⟨hx, hb, hml, hown, hts⟩ (uX11_dueSpan l dC dI H.size ax kx vx fx gx rx hXI a1 a2 a3) (cwV 3 hts (gz_lV lm_259 lm_260 lm_261 lm_4 lm_258 lwGA goodGA) rfl rfl rfl (by decide +kernel) ⟨Nat.le_of_ble_eq_true rfl, Nat.le_of_ble_eq_true rfl⟩) ⟨bl_I (bl_a bl_sz (bl_a bl_P (bl_a bl_K (bl_a bl_c bl_nz)))), xw_recv hKx hPx, fun U hU hW => ⟨rfl, by rw [hU], by rw [hU]; exact hPx, va_K.moved hW.alike hKx, hDx.weaken (fun _ _ _ _ => trivial), nzA_warm hW hz⟩⟩ rfl rfl hl.1 rfl (lv_room (Nat.le_of_ble_eq_true rfl)) dL_law_1306 ⟨by show 400 + n + 0 ≤ 600000; omega, by show 40000 + 5 * n + 0 ≤ 7302250; omega⟩) hS (fun q _ h => hFx q h) hFx (fun rx9 u t H1 locs ht hvm hw hB hz1 hk1 hS => ?_)
  obtain ⟨ax2, kx2, vx2, fx2, gx2, rx2, hKK, h0, hXI2, hrelx, hP1, hD1⟩ := hB
  rw [ht] at hP1
  subst hw
  have hw : True := trivial
  obtain ⟨hP, hD⟩ := gz_joinL hP hD hk1 hFx hP1 hD1
  have hK := va_K.app (hKK _ hKx) (gz_KR hK)
  have hwx := hw
  generalize H1 = H at hP hS ⊢
  refine lv_pop hx hb dL_law_1309 rfl ?_
  refine lv_aload_n hx hb dL_law_1310 rfl (lv_at hl 2 rfl) ?_
  refine lv_aload_n hx hb dL_law_1311 rfl (lv_at hl 0 rfl) ?_
  refine lv_iload_n hx hb dL_law_1312 rfl (lv_at hl 3 rfl) ?_
  refine lv_iconst (v := 1) hx hb dL_law_1313 (by decide) ?_
  refine lv_iadd hx hb dL_law_1314 ?_
  refine gz_topi (y := nI (6 * n + 1)) (gz_ixn n 1 1 rfl) ?_
  refine va_sld hx hb hX hbl hbA hS (vp_in_nI (show 6 * n + 1 < L by omega) (by omega)) dL_law_1315 ?_
  refine lv_topi (fun a4 ea4 => ?_)
  refine lv_aload_n hx hb dL_law_1316 rfl (lv_at hl 0 rfl) ?_
  refine lv_iload_n hx hb dL_law_1317 rfl (lv_at hl 3 rfl) ?_
  refine lv_iconst (v := 2) hx hb dL_law_1318 (by decide) ?_
  refine lv_iadd hx hb dL_law_1319 ?_
  refine gz_topi (y := nI (6 * n + 2)) (gz_ixn n 2 2 rfl) ?_
  refine va_sld hx hb hX hbl hbA hS (vp_in_nI (show 6 * n + 2 < L by omega) (by omega)) dL_law_1320 ?_
  refine lv_topi (fun a5 ea5 => ?_)
  refine lv_aload_n hx hb dL_law_1321 rfl (lv_at hl 0 rfl) ?_
  refine lv_iload_n hx hb dL_law_1322 rfl (lv_at hl 3 rfl) ?_
  refine lv_iconst (v := 3) hx hb dL_law_1323 (by decide) ?_
  refine lv_iadd hx hb dL_law_1324 ?_
  refine gz_topi (y := nI (6 * n + 3)) (gz_ixn n 3 3 rfl) ?_
  refine va_sld hx hb hX hbl hbA hS (vp_in_nI (show 6 * n + 3 < L by omega) (by omega)) dL_law_1325 ?_
  refine lv_topi (fun a6 ea6 => ?_)
  have hPx := gz_PR hP
  have hDx := gz_DR hD
  have hKx := gz_KR hK
  have hFx := gz_freeA hDx hS hA
  refine va_calli (va_runV (As := [.int a4, .int a5, .int a6]) (rest := []) ⟨hx, hb, hml, hown, hts⟩ (uX12_dueSpan l dC dI H.size hm mi mr km fm hMI a4 a5 a6) (cwV 3 hts (gz_lV lm_263 lm_264 lm_265 lm_9 lm_262 lwGB goodGB) rfl rfl rfl (by decide +kernel) ⟨Nat.le_of_ble_eq_true rfl, Nat.le_of_ble_eq_true rfl⟩) ⟨bl_I (bl_a bl_sz (bl_a bl_P (bl_a bl_K bl_c))), mw2_recv hKx hPx, fun U hU hW => ⟨rfl, by rw [hU], by rw [hU]; exact hPx, va_K.moved hW.alike hKx, hDx.weaken (fun _ _ _ _ => trivial)⟩⟩ rfl rfl hl.1 rfl (lv_room (Nat.le_of_ble_eq_true rfl)) dL_law_1326 ⟨by show 400 + n + 0 ≤ 600000; omega, by show 40000 + 5 * n + 0 ≤ 7302250; omega⟩) hS (fun q _ h => hFx q h) hFx (fun rm9 u t H1 locs ht hvm hw hB hz1 hk1 hS => ?_)
  obtain ⟨mi2, fm2, hMI2, hrelm, hP1, hD1⟩ := hB
  rw [ht] at hP1
  subst hw
  have hw : True := trivial
  obtain ⟨hP, hD⟩ := gz_joinR hP hD hk1 hFx hP1 hD1
  have hwm := hw
  generalize H1 = H at hP hS ⊢
  refine lv_pop hx hb dL_law_1329 rfl ?_
  refine lv_goto (tgt := 2056) hx hb dL_law_1330 (by decide) ?_
  have e90 : a4 = a1 := ea4.trans ea1.symm
  have e91 : a5 = a2 := ea5.trans ea2.symm
  have e92 : a6 = a3 := ea6.trans ea3.symm
  rw [e90, e91, e92] at hrelm
  have hN9 := pr_dueSpan hXI hMI hlen hrelx hrelm
  refine W.widen (k := 400 + (n + 1)) (n := 40000 + 5 * (n + 1)) (by omega) (by omega) ?_
  exact next _ _ _ ⟨ax2, kx2, vx2, fx2, gx2, rx2, mi2, mr, km, fm2, h0, hK, hXI2, hMI2, hN9, hP, hD⟩ hS hl
set_option maxHeartbeats 4000000 in
set_option maxRecDepth 100000 in
theorem law_c33 {p : Program} {l : Launch} {e : Env} {s : State} {m : MethodId} {below : List Frame} {meth : Method} {c : Code} {dC : Nat → ClassId} {dI : Nat → Nat → Nat} {b L : Nat} {xs : Nat → Int32} (hL : L ≤ 3072) (C0 : lw_At p s m meth c b L xs) (hz : nzA s) {sa sb sa2 sb2 : Nat → Nat} {zf : Value} (hTA : gz_ST RX6 stIA sa sb zf (fun q : Nat => s.heap.size ≤ q) s s.heap) (hTB : gz_ST RX12 stIB sa2 sb2 zf (fun q : Nat => s.heap.size ≤ q) s s.heap) {x0 hm n : Nat} (hn : 6 * n + 6 ≤ L) {H : Heap} {locs : List Loc} {ls : Array Slot} (hI : LInv dC dI s x0 hm H) (hS : va_S (fun q : Nat => s.heap.size ≤ q) s.heap H locs) (hl : lv_has ls 4 [(0, .ref b), (1, .ref x0), (2, .ref hm), (3, .int (nI (6 * n)))]) (next : ∀ (H : Heap) (locs : List Loc) (ls : Array Slot), LInv dC dI s x0 hm H → va_S (fun q : Nat => s.heap.size ≤ q) s.heap H locs → lv_has ls 4 [(0, .ref b), (1, .ref x0), (2, .ref hm), (3, .int (nI (6 * n)))] → W p l e room_1 s m #[Value.ref b] below meth c H locs (400 + (n + 1)) (40000 + 5 * (n + 1)) (lw_Z below #[Value.ref b] s) (F0 m 2056 ls [])) : W p l e room_1 s m #[Value.ref b] below meth c H locs (400 + n) (40000 + 5 * n) (lw_Z below #[Value.ref b] s) (F0 m 1333 ls []) := by
  obtain ⟨hx, hb, hr, hml, hown0, hts, hX, hbl, hlocks, hgv⟩ := id C0
  have hown : s.vm.findClass RL = some m.cls := hown0
  have hA : ∀ q : Nat, s.heap.size ≤ q → (fun q : Nat => s.heap.size ≤ q) q := fun _ h => h
  have hbA : ¬ (fun q : Nat => s.heap.size ≤ q) b := Nat.not_le.mpr hbl
  obtain ⟨ax, kx, vx, fx, gx, rx, mi, mr, km, fm, rfl, hK, hXI, hMI, hlen, hP, hD⟩ := hI
  refine lv_aload_n hx hb dL_law_1333 rfl (lv_at hl 1 rfl) ?_
  refine lv_aload_n hx hb dL_law_1334 rfl (lv_at hl 0 rfl) ?_
  refine lv_iload_n hx hb dL_law_1335 rfl (lv_at hl 3 rfl) ?_
  refine lv_iconst (v := 1) hx hb dL_law_1336 (by decide) ?_
  refine lv_iadd hx hb dL_law_1337 ?_
  refine gz_topi (y := nI (6 * n + 1)) (gz_ixn n 1 1 rfl) ?_
  refine va_sld hx hb hX hbl hbA hS (vp_in_nI (show 6 * n + 1 < L by omega) (by omega)) dL_law_1338 ?_
  refine lv_topi (fun a1 ea1 => ?_)
  refine lv_aload_n hx hb dL_law_1339 rfl (lv_at hl 0 rfl) ?_
  refine lv_iload_n hx hb dL_law_1340 rfl (lv_at hl 3 rfl) ?_
  refine lv_iconst (v := 2) hx hb dL_law_1341 (by decide) ?_
  refine lv_iadd hx hb dL_law_1342 ?_
  refine gz_topi (y := nI (6 * n + 2)) (gz_ixn n 2 2 rfl) ?_
  refine va_sld hx hb hX hbl hbA hS (vp_in_nI (show 6 * n + 2 < L by omega) (by omega)) dL_law_1343 ?_
  refine lv_topi (fun a2 ea2 => ?_)
  refine lv_aload_n hx hb dL_law_1344 rfl (lv_at hl 0 rfl) ?_
  refine lv_iload_n hx hb dL_law_1345 rfl (lv_at hl 3 rfl) ?_
  refine lv_iconst (v := 3) hx hb dL_law_1346 (by decide) ?_
  refine lv_iadd hx hb dL_law_1347 ?_
  refine gz_topi (y := nI (6 * n + 3)) (gz_ixn n 3 3 rfl) ?_
  refine va_sld hx hb hX hbl hbA hS (vp_in_nI (show 6 * n + 3 < L by omega) (by omega)) dL_law_1348 ?_
  refine lv_topi (fun a3 ea3 => ?_)
  have hPx := gz_PL hP
  have hDx := gz_DL hD
  have hKx := gz_KL hK
  have hFx := gz_freeA hDx hS hA
  refine va_calli (va_runV (As := [.int a1, .int a2, .int a3]) (rest := []) ⟨hx, hb, hml, hown, hts⟩ (uX11_dueOn l dC dI H.size ax kx vx fx gx rx hXI a1 a2 a3) (cwV 3 hts (gz_lV lm_267 lm_268 lm_269 lm_4 lm_266 lwGA goodGA) rfl rfl rfl (by decide +kernel) ⟨Nat.le_of_ble_eq_true rfl, Nat.le_of_ble_eq_true rfl⟩) ⟨bl_I (bl_a bl_sz (bl_a bl_P (bl_a bl_K (bl_a bl_c bl_nz)))), xw_recv hKx hPx, fun U hU hW => ⟨rfl, by rw [hU], by rw [hU]; exact hPx, va_K.moved hW.alike hKx, hDx.weaken (fun _ _ _ _ => trivial), nzA_warm hW hz⟩⟩ rfl rfl hl.1 rfl (lv_room (Nat.le_of_ble_eq_true rfl)) dL_law_1349 ⟨by show 400 + n + 0 ≤ 600000; omega, by show 40000 + 5 * n + 0 ≤ 7302250; omega⟩) hS (fun q _ h => hFx q h) hFx (fun rx9 u t H1 locs ht hvm hw hB hz1 hk1 hS => ?_)
  obtain ⟨ax2, kx2, vx2, fx2, gx2, rx2, hKK, h0, hXI2, hrelx, hP1, hD1⟩ := hB
  rw [ht] at hP1
  subst hw
  have hw : True := trivial
  obtain ⟨hP, hD⟩ := gz_joinL hP hD hk1 hFx hP1 hD1
  have hK := va_K.app (hKK _ hKx) (gz_KR hK)
  have hwx := hw
  generalize H1 = H at hP hS ⊢
  refine lv_pop hx hb dL_law_1352 rfl ?_
  refine lv_aload_n hx hb dL_law_1353 rfl (lv_at hl 2 rfl) ?_
  refine lv_aload_n hx hb dL_law_1354 rfl (lv_at hl 0 rfl) ?_
  refine lv_iload_n hx hb dL_law_1355 rfl (lv_at hl 3 rfl) ?_
  refine lv_iconst (v := 1) hx hb dL_law_1356 (by decide) ?_
  refine lv_iadd hx hb dL_law_1357 ?_
  refine gz_topi (y := nI (6 * n + 1)) (gz_ixn n 1 1 rfl) ?_
  refine va_sld hx hb hX hbl hbA hS (vp_in_nI (show 6 * n + 1 < L by omega) (by omega)) dL_law_1358 ?_
  refine lv_topi (fun a4 ea4 => ?_)
  refine lv_aload_n hx hb dL_law_1359 rfl (lv_at hl 0 rfl) ?_
  refine lv_iload_n hx hb dL_law_1360 rfl (lv_at hl 3 rfl) ?_
  refine lv_iconst (v := 2) hx hb dL_law_1361 (by decide) ?_
  refine lv_iadd hx hb dL_law_1362 ?_
  refine gz_topi (y := nI (6 * n + 2)) (gz_ixn n 2 2 rfl) ?_
  refine va_sld hx hb hX hbl hbA hS (vp_in_nI (show 6 * n + 2 < L by omega) (by omega)) dL_law_1363 ?_
  refine lv_topi (fun a5 ea5 => ?_)
  refine lv_aload_n hx hb dL_law_1364 rfl (lv_at hl 0 rfl) ?_
  refine lv_iload_n hx hb dL_law_1365 rfl (lv_at hl 3 rfl) ?_
  refine lv_iconst (v := 3) hx hb dL_law_1366 (by decide) ?_
  refine lv_iadd hx hb dL_law_1367 ?_
  refine gz_topi (y := nI (6 * n + 3)) (gz_ixn n 3 3 rfl) ?_
  refine va_sld hx hb hX hbl hbA hS (vp_in_nI (show 6 * n + 3 < L by omega) (by omega)) dL_law_1368 ?_
  refine lv_topi (fun a6 ea6 => ?_)
  have hPx := gz_PR hP
  have hDx := gz_DR hD
  have hKx := gz_KR hK
  have hFx := gz_freeA hDx hS hA
  refine va_calli (va_runV (As := [.int a4, .int a5, .int a6]) (rest := []) ⟨hx, hb, hml, hown, hts⟩ (uX12_dueOn l dC dI H.size hm mi mr km fm hMI a4 a5 a6) (cwV 3 hts (gz_lV lm_271 lm_272 lm_273 lm_9 lm_270 lwGB goodGB) rfl rfl rfl (by decide +kernel) ⟨Nat.le_of_ble_eq_true rfl, Nat.le_of_ble_eq_true rfl⟩) ⟨bl_I (bl_a bl_sz (bl_a bl_P (bl_a bl_K bl_c))), mw2_recv hKx hPx, fun U hU hW => ⟨rfl, by rw [hU], by rw [hU]; exact hPx, va_K.moved hW.alike hKx, hDx.weaken (fun _ _ _ _ => trivial)⟩⟩ rfl rfl hl.1 rfl (lv_room (Nat.le_of_ble_eq_true rfl)) dL_law_1369 ⟨by show 400 + n + 0 ≤ 600000; omega, by show 40000 + 5 * n + 0 ≤ 7302250; omega⟩) hS (fun q _ h => hFx q h) hFx (fun rm9 u t H1 locs ht hvm hw hB hz1 hk1 hS => ?_)
  obtain ⟨mi2, fm2, hMI2, hrelm, hP1, hD1⟩ := hB
  rw [ht] at hP1
  subst hw
  have hw : True := trivial
  obtain ⟨hP, hD⟩ := gz_joinR hP hD hk1 hFx hP1 hD1
  have hwm := hw
  generalize H1 = H at hP hS ⊢
  refine lv_pop hx hb dL_law_1372 rfl ?_
  refine lv_goto (tgt := 2056) hx hb dL_law_1373 (by decide) ?_
  have e90 : a4 = a1 := ea4.trans ea1.symm
  have e91 : a5 = a2 := ea5.trans ea2.symm
  have e92 : a6 = a3 := ea6.trans ea3.symm
  rw [e90, e91, e92] at hrelm
  have hN9 := pr_dueOn hXI hMI hlen hrelx hrelm
  refine W.widen (k := 400 + (n + 1)) (n := 40000 + 5 * (n + 1)) (by omega) (by omega) ?_
  exact next _ _ _ ⟨ax2, kx2, vx2, fx2, gx2, rx2, mi2, mr, km, fm2, h0, hK, hXI2, hMI2, hN9, hP, hD⟩ hS hl
set_option maxHeartbeats 4000000 in
set_option maxRecDepth 100000 in
theorem law_c34 {p : Program} {l : Launch} {e : Env} {s : State} {m : MethodId} {below : List Frame} {meth : Method} {c : Code} {dC : Nat → ClassId} {dI : Nat → Nat → Nat} {b L : Nat} {xs : Nat → Int32} (hL : L ≤ 3072) (C0 : lw_At p s m meth c b L xs) (hz : nzA s) {sa sb sa2 sb2 : Nat → Nat} {zf : Value} (hTA : gz_ST RX6 stIA sa sb zf (fun q : Nat => s.heap.size ≤ q) s s.heap) (hTB : gz_ST RX12 stIB sa2 sb2 zf (fun q : Nat => s.heap.size ≤ q) s s.heap) {x0 hm n : Nat} (hn : 6 * n + 6 ≤ L) {H : Heap} {locs : List Loc} {ls : Array Slot} (hI : LInv dC dI s x0 hm H) (hS : va_S (fun q : Nat => s.heap.size ≤ q) s.heap H locs) (hl : lv_has ls 4 [(0, .ref b), (1, .ref x0), (2, .ref hm), (3, .int (nI (6 * n)))]) (next : ∀ (H : Heap) (locs : List Loc) (ls : Array Slot), LInv dC dI s x0 hm H → va_S (fun q : Nat => s.heap.size ≤ q) s.heap H locs → lv_has ls 4 [(0, .ref b), (1, .ref x0), (2, .ref hm), (3, .int (nI (6 * n)))] → W p l e room_1 s m #[Value.ref b] below meth c H locs (400 + (n + 1)) (40000 + 5 * (n + 1)) (lw_Z below #[Value.ref b] s) (F0 m 2056 ls [])) : W p l e room_1 s m #[Value.ref b] below meth c H locs (400 + n) (40000 + 5 * n) (lw_Z below #[Value.ref b] s) (F0 m 1376 ls []) := by
  obtain ⟨hx, hb, hr, hml, hown0, hts, hX, hbl, hlocks, hgv⟩ := id C0
  have hown : s.vm.findClass RL = some m.cls := hown0
  have hA : ∀ q : Nat, s.heap.size ≤ q → (fun q : Nat => s.heap.size ≤ q) q := fun _ h => h
  have hbA : ¬ (fun q : Nat => s.heap.size ≤ q) b := Nat.not_le.mpr hbl
  obtain ⟨ax, kx, vx, fx, gx, rx, mi, mr, km, fm, rfl, hK, hXI, hMI, hlen, hP, hD⟩ := hI
  refine lv_aload_n hx hb dL_law_1376 rfl (lv_at hl 1 rfl) ?_
  refine lv_aload_n hx hb dL_law_1377 rfl (lv_at hl 0 rfl) ?_
  refine lv_iload_n hx hb dL_law_1378 rfl (lv_at hl 3 rfl) ?_
  refine lv_iconst (v := 1) hx hb dL_law_1379 (by decide) ?_
  refine lv_iadd hx hb dL_law_1380 ?_
  refine gz_topi (y := nI (6 * n + 1)) (gz_ixn n 1 1 rfl) ?_
  refine va_sld hx hb hX hbl hbA hS (vp_in_nI (show 6 * n + 1 < L by omega) (by omega)) dL_law_1381 ?_
  refine lv_topi (fun a1 ea1 => ?_)
  have hPx := gz_PL hP
  have hDx := gz_DL hD
  have hKx := gz_KL hK
  have hFx := gz_freeA hDx hS hA
  refine va_calli (va_runV (As := [.int a1]) (rest := []) ⟨hx, hb, hml, hown, hts⟩ (uX11_redated l dC dI H.size ax kx vx fx gx rx hXI a1) (cwV 1 hts (gz_lV lm_275 lm_276 lm_277 lm_4 lm_274 lwGA goodGA) rfl rfl rfl (by decide +kernel) ⟨Nat.le_of_ble_eq_true rfl, Nat.le_of_ble_eq_true rfl⟩) ⟨bl_I (bl_a bl_sz (bl_a bl_P (bl_a bl_K (bl_a bl_c bl_nz)))), xw_recv hKx hPx, fun U hU hW => ⟨rfl, by rw [hU], by rw [hU]; exact hPx, va_K.moved hW.alike hKx, hDx.weaken (fun _ _ _ _ => trivial), nzA_warm hW hz⟩⟩ rfl rfl hl.1 rfl (lv_room (Nat.le_of_ble_eq_true rfl)) dL_law_1382 ⟨by show 400 + n + 0 ≤ 600000; omega, by show 40000 + 5 * n + 0 ≤ 7302250; omega⟩) hS (fun q _ h => hFx q h) hFx (fun rx9 u t H1 locs ht hvm hw hB hz1 hk1 hS => ?_)
  obtain ⟨ax2, kx2, vx2, fx2, gx2, rx2, hKK, h0, hXI2, hrelx, hP1, hD1⟩ := hB
  rw [ht] at hP1
  subst hw
  have hw : True := trivial
  obtain ⟨hP, hD⟩ := gz_joinL hP hD hk1 hFx hP1 hD1
  have hK := va_K.app (hKK _ hKx) (gz_KR hK)
  have hwx := hw
  generalize H1 = H at hP hS ⊢
  refine lv_pop hx hb dL_law_1385 rfl ?_
  refine lv_aload_n hx hb dL_law_1386 rfl (lv_at hl 2 rfl) ?_
  refine lv_aload_n hx hb dL_law_1387 rfl (lv_at hl 0 rfl) ?_
  refine lv_iload_n hx hb dL_law_1388 rfl (lv_at hl 3 rfl) ?_
  refine lv_iconst (v := 1) hx hb dL_law_1389 (by decide) ?_
  refine lv_iadd hx hb dL_law_1390 ?_
  refine gz_topi (y := nI (6 * n + 1)) (gz_ixn n 1 1 rfl) ?_
  refine va_sld hx hb hX hbl hbA hS (vp_in_nI (show 6 * n + 1 < L by omega) (by omega)) dL_law_1391 ?_
  refine lv_topi (fun a2 ea2 => ?_)
  have hPx := gz_PR hP
  have hDx := gz_DR hD
  have hKx := gz_KR hK
  have hFx := gz_freeA hDx hS hA
  refine va_calli (va_runV (As := [.int a2]) (rest := []) ⟨hx, hb, hml, hown, hts⟩ (uX12_redated l dC dI H.size hm mi mr km fm hMI a2) (cwV 1 hts (gz_lV lm_279 lm_280 lm_281 lm_9 lm_278 lwGB goodGB) rfl rfl rfl (by decide +kernel) ⟨Nat.le_of_ble_eq_true rfl, Nat.le_of_ble_eq_true rfl⟩) ⟨bl_I (bl_a bl_sz (bl_a bl_P (bl_a bl_K bl_c))), mw2_recv hKx hPx, fun U hU hW => ⟨rfl, by rw [hU], by rw [hU]; exact hPx, va_K.moved hW.alike hKx, hDx.weaken (fun _ _ _ _ => trivial)⟩⟩ rfl rfl hl.1 rfl (lv_room (Nat.le_of_ble_eq_true rfl)) dL_law_1392 ⟨by show 400 + n + 0 ≤ 600000; omega, by show 40000 + 5 * n + 0 ≤ 7302250; omega⟩) hS (fun q _ h => hFx q h) hFx (fun rm9 u t H1 locs ht hvm hw hB hz1 hk1 hS => ?_)
  obtain ⟨mi2, fm2, hMI2, hrelm, hP1, hD1⟩ := hB
  rw [ht] at hP1
  subst hw
  have hw : True := trivial
  obtain ⟨hP, hD⟩ := gz_joinR hP hD hk1 hFx hP1 hD1
  have hwm := hw
  generalize H1 = H at hP hS ⊢
  refine lv_pop hx hb dL_law_1395 rfl ?_
  refine lv_goto (tgt := 2056) hx hb dL_law_1396 (by decide) ?_
  have e90 : a2 = a1 := ea2.trans ea1.symm
  rw [e90] at hrelm
  have hN9 := pr_redated hXI hMI hlen hrelx hrelm
  refine W.widen (k := 400 + (n + 1)) (n := 40000 + 5 * (n + 1)) (by omega) (by omega) ?_
  exact next _ _ _ ⟨ax2, kx2, vx2, fx2, gx2, rx2, mi2, mr, km, fm2, h0, hK, hXI2, hMI2, hN9.1, hP, hD⟩ hS hl
set_option maxHeartbeats 4000000 in
set_option maxRecDepth 100000 in
theorem law_c35 {p : Program} {l : Launch} {e : Env} {s : State} {m : MethodId} {below : List Frame} {meth : Method} {c : Code} {dC : Nat → ClassId} {dI : Nat → Nat → Nat} {b L : Nat} {xs : Nat → Int32} (hL : L ≤ 3072) (C0 : lw_At p s m meth c b L xs) (hz : nzA s) {sa sb sa2 sb2 : Nat → Nat} {zf : Value} (hTA : gz_ST RX6 stIA sa sb zf (fun q : Nat => s.heap.size ≤ q) s s.heap) (hTB : gz_ST RX12 stIB sa2 sb2 zf (fun q : Nat => s.heap.size ≤ q) s s.heap) {x0 hm n : Nat} (hn : 6 * n + 6 ≤ L) {H : Heap} {locs : List Loc} {ls : Array Slot} (hI : LInv dC dI s x0 hm H) (hS : va_S (fun q : Nat => s.heap.size ≤ q) s.heap H locs) (hl : lv_has ls 4 [(0, .ref b), (1, .ref x0), (2, .ref hm), (3, .int (nI (6 * n)))]) (next : ∀ (H : Heap) (locs : List Loc) (ls : Array Slot), LInv dC dI s x0 hm H → va_S (fun q : Nat => s.heap.size ≤ q) s.heap H locs → lv_has ls 4 [(0, .ref b), (1, .ref x0), (2, .ref hm), (3, .int (nI (6 * n)))] → W p l e room_1 s m #[Value.ref b] below meth c H locs (400 + (n + 1)) (40000 + 5 * (n + 1)) (lw_Z below #[Value.ref b] s) (F0 m 2056 ls [])) : W p l e room_1 s m #[Value.ref b] below meth c H locs (400 + n) (40000 + 5 * n) (lw_Z below #[Value.ref b] s) (F0 m 1399 ls []) := by
  obtain ⟨hx, hb, hr, hml, hown0, hts, hX, hbl, hlocks, hgv⟩ := id C0
  have hown : s.vm.findClass RL = some m.cls := hown0
  have hA : ∀ q : Nat, s.heap.size ≤ q → (fun q : Nat => s.heap.size ≤ q) q := fun _ h => h
  have hbA : ¬ (fun q : Nat => s.heap.size ≤ q) b := Nat.not_le.mpr hbl
  obtain ⟨ax, kx, vx, fx, gx, rx, mi, mr, km, fm, rfl, hK, hXI, hMI, hlen, hP, hD⟩ := hI
  refine lv_aload_n hx hb dL_law_1399 rfl (lv_at hl 1 rfl) ?_
  refine lv_aload_n hx hb dL_law_1400 rfl (lv_at hl 0 rfl) ?_
  refine lv_iload_n hx hb dL_law_1401 rfl (lv_at hl 3 rfl) ?_
  refine lv_iconst (v := 1) hx hb dL_law_1402 (by decide) ?_
  refine lv_iadd hx hb dL_law_1403 ?_
  refine gz_topi (y := nI (6 * n + 1)) (gz_ixn n 1 1 rfl) ?_
  refine va_sld hx hb hX hbl hbA hS (vp_in_nI (show 6 * n + 1 < L by omega) (by omega)) dL_law_1404 ?_
  refine lv_topi (fun a1 ea1 => ?_)
  refine lv_aload_n hx hb dL_law_1405 rfl (lv_at hl 0 rfl) ?_
  refine lv_iload_n hx hb dL_law_1406 rfl (lv_at hl 3 rfl) ?_
  refine lv_iconst (v := 2) hx hb dL_law_1407 (by decide) ?_
  refine lv_iadd hx hb dL_law_1408 ?_
  refine gz_topi (y := nI (6 * n + 2)) (gz_ixn n 2 2 rfl) ?_
  refine va_sld hx hb hX hbl hbA hS (vp_in_nI (show 6 * n + 2 < L by omega) (by omega)) dL_law_1409 ?_
  refine lv_topi (fun a2 ea2 => ?_)
  refine lv_aload_n hx hb dL_law_1410 rfl (lv_at hl 0 rfl) ?_
  refine lv_iload_n hx hb dL_law_1411 rfl (lv_at hl 3 rfl) ?_
  refine lv_iconst (v := 3) hx hb dL_law_1412 (by decide) ?_
  refine lv_iadd hx hb dL_law_1413 ?_
  refine gz_topi (y := nI (6 * n + 3)) (gz_ixn n 3 3 rfl) ?_
  refine va_sld hx hb hX hbl hbA hS (vp_in_nI (show 6 * n + 3 < L by omega) (by omega)) dL_law_1414 ?_
  refine lv_topi (fun a3 ea3 => ?_)
  have hPx := gz_PL hP
  have hDx := gz_DL hD
  have hKx := gz_KL hK
  have hFx := gz_freeA hDx hS hA
  refine va_calli (va_runV (As := [.int a1, .int a2, .int a3]) (rest := []) ⟨hx, hb, hml, hown, hts⟩ (uX11_longer l dC dI H.size ax kx vx fx gx rx hXI a1 a2 a3) (cwV 3 hts (gz_lV lm_283 lm_284 lm_285 lm_4 lm_282 lwGA goodGA) rfl rfl rfl (by decide +kernel) ⟨Nat.le_of_ble_eq_true rfl, Nat.le_of_ble_eq_true rfl⟩) ⟨bl_I (bl_a bl_sz (bl_a bl_P (bl_a bl_K (bl_a bl_c bl_nz)))), xw_recv hKx hPx, fun U hU hW => ⟨rfl, by rw [hU], by rw [hU]; exact hPx, va_K.moved hW.alike hKx, hDx.weaken (fun _ _ _ _ => trivial), nzA_warm hW hz⟩⟩ rfl rfl hl.1 rfl (lv_room (Nat.le_of_ble_eq_true rfl)) dL_law_1415 ⟨by show 400 + n + 0 ≤ 600000; omega, by show 40000 + 5 * n + 0 ≤ 7302250; omega⟩) hS (fun q _ h => hFx q h) hFx (fun rx9 u t H1 locs ht hvm hw hB hz1 hk1 hS => ?_)
  obtain ⟨ax2, kx2, vx2, fx2, gx2, rx2, hKK, h0, hXI2, hrelx, hP1, hD1⟩ := hB
  rw [ht] at hP1
  subst hw
  have hw : True := trivial
  obtain ⟨hP, hD⟩ := gz_joinL hP hD hk1 hFx hP1 hD1
  have hK := va_K.app (hKK _ hKx) (gz_KR hK)
  have hwx := hw
  generalize H1 = H at hP hS ⊢
  refine lv_pop hx hb dL_law_1418 rfl ?_
  refine lv_aload_n hx hb dL_law_1419 rfl (lv_at hl 2 rfl) ?_
  refine lv_aload_n hx hb dL_law_1420 rfl (lv_at hl 0 rfl) ?_
  refine lv_iload_n hx hb dL_law_1421 rfl (lv_at hl 3 rfl) ?_
  refine lv_iconst (v := 1) hx hb dL_law_1422 (by decide) ?_
  refine lv_iadd hx hb dL_law_1423 ?_
  refine gz_topi (y := nI (6 * n + 1)) (gz_ixn n 1 1 rfl) ?_
  refine va_sld hx hb hX hbl hbA hS (vp_in_nI (show 6 * n + 1 < L by omega) (by omega)) dL_law_1424 ?_
  refine lv_topi (fun a4 ea4 => ?_)
  refine lv_aload_n hx hb dL_law_1425 rfl (lv_at hl 0 rfl) ?_
  refine lv_iload_n hx hb dL_law_1426 rfl (lv_at hl 3 rfl) ?_
  refine lv_iconst (v := 2) hx hb dL_law_1427 (by decide) ?_
  refine lv_iadd hx hb dL_law_1428 ?_
  refine gz_topi (y := nI (6 * n + 2)) (gz_ixn n 2 2 rfl) ?_
  refine va_sld hx hb hX hbl hbA hS (vp_in_nI (show 6 * n + 2 < L by omega) (by omega)) dL_law_1429 ?_
  refine lv_topi (fun a5 ea5 => ?_)
  refine lv_aload_n hx hb dL_law_1430 rfl (lv_at hl 0 rfl) ?_
  refine lv_iload_n hx hb dL_law_1431 rfl (lv_at hl 3 rfl) ?_
  refine lv_iconst (v := 3) hx hb dL_law_1432 (by decide) ?_
  refine lv_iadd hx hb dL_law_1433 ?_
  refine gz_topi (y := nI (6 * n + 3)) (gz_ixn n 3 3 rfl) ?_
  refine va_sld hx hb hX hbl hbA hS (vp_in_nI (show 6 * n + 3 < L by omega) (by omega)) dL_law_1434 ?_
  refine lv_topi (fun a6 ea6 => ?_)
  have hPx := gz_PR hP
  have hDx := gz_DR hD
  have hKx := gz_KR hK
  have hFx := gz_freeA hDx hS hA
  refine va_calli (va_runV (As := [.int a4, .int a5, .int a6]) (rest := []) ⟨hx, hb, hml, hown, hts⟩ (uX12_longer l dC dI H.size hm mi mr km fm hMI a4 a5 a6) (cwV 3 hts (gz_lV lm_287 lm_288 lm_289 lm_9 lm_286 lwGB goodGB) rfl rfl rfl (by decide +kernel) ⟨Nat.le_of_ble_eq_true rfl, Nat.le_of_ble_eq_true rfl⟩) ⟨bl_I (bl_a bl_sz (bl_a bl_P (bl_a bl_K bl_c))), mw2_recv hKx hPx, fun U hU hW => ⟨rfl, by rw [hU], by rw [hU]; exact hPx, va_K.moved hW.alike hKx, hDx.weaken (fun _ _ _ _ => trivial)⟩⟩ rfl rfl hl.1 rfl (lv_room (Nat.le_of_ble_eq_true rfl)) dL_law_1435 ⟨by show 400 + n + 0 ≤ 600000; omega, by show 40000 + 5 * n + 0 ≤ 7302250; omega⟩) hS (fun q _ h => hFx q h) hFx (fun rm9 u t H1 locs ht hvm hw hB hz1 hk1 hS => ?_)
  obtain ⟨mi2, fm2, hMI2, hrelm, hP1, hD1⟩ := hB
  rw [ht] at hP1
  subst hw
  have hw : True := trivial
  obtain ⟨hP, hD⟩ := gz_joinR hP hD hk1 hFx hP1 hD1
  have hwm := hw
  generalize H1 = H at hP hS ⊢
  refine lv_pop hx hb dL_law_1438 rfl ?_
  refine lv_goto (tgt := 2056) hx hb dL_law_1439 (by decide) ?_
  have e90 : a4 = a1 := ea4.trans ea1.symm
  have e91 : a5 = a2 := ea5.trans ea2.symm
  have e92 : a6 = a3 := ea6.trans ea3.symm
  rw [e90, e91, e92] at hrelm
  have hN9 := pr_longer hXI hMI hlen hrelx hrelm
  refine W.widen (k := 400 + (n + 1)) (n := 40000 + 5 * (n + 1)) (by omega) (by omega) ?_
  exact next _ _ _ ⟨ax2, kx2, vx2, fx2, gx2, rx2, mi2, mr, km, fm2, h0, hK, hXI2, hMI2, hN9, hP, hD⟩ hS hl
