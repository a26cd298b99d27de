set_option maxRecDepth 1000000 in
theorem dL_law_1186 : decode code 1186 = .ok (.iaload, 1) := by decide +kernel
set_option maxRecDepth 1000000 in
theorem dL_law_1187 : decode code 1187 = .ok (.invokevirtual 132, 3) := by decide +kernel
set_option maxRecDepth 1000000 in
theorem dL_law_1190 : decode code 1190 = .ok (.pop, 1) := by decide +kernel
set_option maxRecDepth 1000000 in
theorem dL_law_1191 : decode code 1191 = .ok (.aload_n 2, 1) := by decide +kernel
set_option maxRecDepth 1000000 in
theorem dL_law_1192 : decode code 1192 = .ok (.aload_n 0, 1) := by decide +kernel
set_option maxRecDepth 1000000 in
theorem dL_law_1193 : decode code 1193 = .ok (.iload_n 3, 1) := by decide +kernel
set_option maxRecDepth 1000000 in
theorem dL_law_1194 : decode code 1194 = .ok (.iconst 1, 1) := by decide +kernel
set_option maxRecDepth 1000000 in
theorem dL_law_1195 : decode code 1195 = .ok (.iadd, 1) := by decide +kernel
set_option maxRecDepth 1000000 in
theorem dL_law_1196 : decode code 1196 = .ok (.iaload, 1) := by decide +kernel
set_option maxRecDepth 1000000 in
theorem dL_law_1197 : decode code 1197 = .ok (.aload_n 0, 1) := by decide +kernel
set_option maxRecDepth 1000000 in
theorem dL_law_1198 : decode code 1198 = .ok (.iload_n 3, 1) := by decide +kernel
set_option maxRecDepth 1000000 in
theorem dL_law_1199 : decode code 1199 = .ok (.iconst 2, 1) := by decide +kernel
set_option maxRecDepth 1000000 in
theorem dL_law_1200 : decode code 1200 = .ok (.iadd, 1) := by decide +kernel
set_option maxRecDepth 1000000 in
theorem dL_law_1201 : decode code 1201 = .ok (.iaload, 1) := by decide +kernel
set_option maxRecDepth 1000000 in
theorem dL_law_1202 : decode code 1202 = .ok (.invokevirtual 135, 3) := by decide +kernel
set_option maxRecDepth 1000000 in
theorem dL_law_1205 : decode code 1205 = .ok (.pop, 1) := by decide +kernel
set_option maxRecDepth 1000000 in
theorem dL_law_1206 : decode code 1206 = .ok (.goto 270, 3) := by decide +kernel
set_option maxRecDepth 1000000 in
theorem dL_law_1209 : decode code 1209 = .ok (.aload_n 1, 1) := by decide +kernel
set_option maxRecDepth 1000000 in
theorem dL_law_1210 : decode code 1210 = .ok (.aload_n 0, 1) := by decide +kernel
set_option maxRecDepth 1000000 in
theorem dL_law_1211 : decode code 1211 = .ok (.iload_n 3, 1) := by decide +kernel
set_option maxRecDepth 1000000 in
theorem dL_law_1212 : decode code 1212 = .ok (.iconst 1, 1) := by decide +kernel
set_option maxRecDepth 1000000 in
theorem dL_law_1213 : decode code 1213 = .ok (.iadd, 1) := by decide +kernel
set_option maxRecDepth 1000000 in
theorem dL_law_1214 : decode code 1214 = .ok (.iaload, 1) := by decide +kernel
set_option maxRecDepth 1000000 in
theorem dL_law_1215 : decode code 1215 = .ok (.invokevirtual 136, 3) := by decide +kernel
set_option maxRecDepth 1000000 in
theorem dL_law_1218 : decode code 1218 = .ok (.pop, 1) := by decide +kernel
set_option maxRecDepth 1000000 in
theorem dL_law_1219 : decode code 1219 = .ok (.aload_n 2, 1) := by decide +kernel
set_option maxRecDepth 1000000 in
theorem dL_law_1220 : decode code 1220 = .ok (.aload_n 0, 1) := by decide +kernel
set_option maxRecDepth 1000000 in
theorem dL_law_1221 : decode code 1221 = .ok (.iload_n 3, 1) := by decide +kernel
set_option maxRecDepth 1000000 in
theorem dL_law_1222 : decode code 1222 = .ok (.iconst 1, 1) := by decide +kernel
set_option maxRecDepth 1000000 in
theorem dL_law_1223 : decode code 1223 = .ok (.iadd, 1) := by decide +kernel
set_option maxRecDepth 1000000 in
theorem dL_law_1224 : decode code 1224 = .ok (.iaload, 1) := by decide +kernel
set_option maxRecDepth 1000000 in
theorem dL_law_1225 : decode code 1225 = .ok (.invokevirtual 139, 3) := by decide +kernel
set_option maxRecDepth 1000000 in
theorem dL_law_1228 : decode code 1228 = .ok (.pop, 1) := by decide +kernel
set_option maxRecDepth 1000000 in
theorem dL_law_1229 : decode code 1229 = .ok (.goto 247, 3) := by decide +kernel
set_option maxRecDepth 1000000 in
theorem dL_law_1232 : decode code 1232 = .ok (.aload_n 1, 1) := by decide +kernel
set_option maxRecDepth 1000000 in
theorem dL_law_1233 : decode code 1233 = .ok (.aload_n 0, 1) := by decide +kernel
set_option maxRecDepth 1000000 in
theorem dL_law_1234 : decode code 1234 = .ok (.iload_n 3, 1) := by decide +kernel
set_option maxRecDepth 1000000 in
theorem dL_law_1235 : decode code 1235 = .ok (.iconst 1, 1) := by decide +kernel
set_option maxRecDepth 1000000 in
theorem dL_law_1236 : decode code 1236 = .ok (.iadd, 1) := by decide +kernel
set_option maxRecDepth 1000000 in
theorem dL_law_1237 : decode code 1237 = .ok (.iaload, 1) := by decide +kernel
set_option maxRecDepth 1000000 in
theorem dL_law_1238 : decode code 1238 = .ok (.aload_n 0, 1) := by decide +kernel
set_option maxRecDepth 1000000 in
theorem dL_law_1239 : decode code 1239 = .ok (.iload_n 3, 1) := by decide +kernel
set_option maxRecDepth 1000000 in
theorem dL_law_1240 : decode code 1240 = .ok (.iconst 2, 1) := by decide +kernel
set_option maxRecDepth 1000000 in
theorem dL_law_1241 : decode code 1241 = .ok (.iadd, 1) := by decide +kernel
set_option maxRecDepth 1000000 in
theorem dL_law_1242 : decode code 1242 = .ok (.iaload, 1) := by decide +kernel
set_option maxRecDepth 1000000 in
theorem dL_law_1243 : decode code 1243 = .ok (.invokevirtual 140, 3) := by decide +kernel
set_option maxRecDepth 1000000 in
theorem dL_law_1246 : decode code 1246 = .ok (.pop, 1) := by decide +kernel
set_option maxRecDepth 1000000 in
theorem dL_law_1247 : decode code 1247 = .ok (.aload_n 2, 1) := by decide +kernel
set_option maxRecDepth 1000000 in
theorem dL_law_1248 : decode code 1248 = .ok (.aload_n 0, 1) := by decide +kernel
set_option maxRecDepth 1000000 in
theorem dL_law_1249 : decode code 1249 = .ok (.iload_n 3, 1) := by decide +kernel
set_option maxRecDepth 1000000 in
theorem dL_law_1250 : decode code 1250 = .ok (.iconst 1, 1) := by decide +kernel
set_option maxRecDepth 1000000 in
theorem dL_law_1251 : decode code 1251 = .ok (.iadd, 1) := by decide +kernel
set_option maxRecDepth 1000000 in
theorem dL_law_1252 : decode code 1252 = .ok (.iaload, 1) := by decide +kernel
set_option maxRecDepth 1000000 in
theorem dL_law_1253 : decode code 1253 = .ok (.aload_n 0, 1) := by decide +kernel
set_option maxRecDepth 1000000 in
theorem dL_law_1254 : decode code 1254 = .ok (.iload_n 3, 1) := by decide +kernel
set_option maxRecDepth 1000000 in
theorem dL_law_1255 : decode code 1255 = .ok (.iconst 2, 1) := by decide +kernel
set_option maxRecDepth 1000000 in
theorem dL_law_1256 : decode code 1256 = .ok (.iadd, 1) := by decide +kernel
set_option maxRecDepth 1000000 in
theorem dL_law_1257 : decode code 1257 = .ok (.iaload, 1) := by decide +kernel
set_option maxRecDepth 1000000 in
theorem dL_law_1258 : decode code 1258 = .ok (.invokevirtual 143, 3) := by decide +kernel
set_option maxRecDepth 1000000 in
theorem dL_law_1261 : decode code 1261 = .ok (.pop, 1) := by decide +kernel
set_option maxRecDepth 1000000 in
theorem dL_law_1262 : decode code 1262 = .ok (.goto 214, 3) := by decide +kernel
set_option maxRecDepth 1000000 in
theorem dL_law_1265 : decode code 1265 = .ok (.aload_n 1, 1) := by decide +kernel
set_option maxRecDepth 1000000 in
theorem dL_law_1266 : decode code 1266 = .ok (.aload_n 0, 1) := by decide +kernel
set_option maxRecDepth 1000000 in
theorem dL_law_1267 : decode code 1267 = .ok (.iload_n 3, 1) := by decide +kernel
set_option maxRecDepth 1000000 in
theorem dL_law_1268 : decode code 1268 = .ok (.iconst 1, 1) := by decide +kernel
set_option maxRecDepth 1000000 in
theorem dL_law_1269 : decode code 1269 = .ok (.iadd, 1) := by decide +kernel
set_option maxRecDepth 1000000 in
theorem dL_law_1270 : decode code 1270 = .ok (.iaload, 1) := by decide +kernel
set_option maxRecDepth 1000000 in
theorem dL_law_1271 : decode code 1271 = .ok (.invokevirtual 144, 3) := by decide +kernel
set_option maxRecDepth 1000000 in
theorem dL_law_1274 : decode code 1274 = .ok (.pop, 1) := by decide +kernel
set_option maxRecDepth 1000000 in
theorem dL_law_1275 : decode code 1275 = .ok (.aload_n 2, 1) := by decide +kernel
set_option maxRecDepth 1000000 in
theorem dL_law_1276 : decode code 1276 = .ok (.aload_n 0, 1) := by decide +kernel
set_option maxRecDepth 1000000 in
theorem dL_law_1277 : decode code 1277 = .ok (.iload_n 3, 1) := by decide +kernel
set_option maxRecDepth 1000000 in
theorem dL_law_1278 : decode code 1278 = .ok (.iconst 1, 1) := by decide +kernel
set_option maxRecDepth 1000000 in
theorem dL_law_1279 : decode code 1279 = .ok (.iadd, 1) := by decide +kernel
set_option maxRecDepth 1000000 in
theorem dL_law_1280 : decode code 1280 = .ok (.iaload, 1) := by decide +kernel
set_option maxRecDepth 1000000 in
theorem dL_law_1281 : decode code 1281 = .ok (.invokevirtual 147, 3) := by decide +kernel
set_option maxRecDepth 1000000 in
theorem dL_law_1284 : decode code 1284 = .ok (.pop, 1) := by decide +kernel
set_option maxRecDepth 1000000 in
theorem dL_law_1285 : decode code 1285 = .ok (.goto 191, 3) := by decide +kernel
set_option maxRecDepth 1000000 in
theorem dL_law_1288 : decode code 1288 = .ok (.aload_n 1, 1) := by decide +kernel
set_option maxRecDepth 1000000 in
theorem dL_law_1289 : decode code 1289 = .ok (.aload_n 0, 1) := by decide +kernel
set_option maxRecDepth 1000000 in
theorem dL_law_1290 : decode code 1290 = .ok (.iload_n 3, 1) := by decide +kernel
set_option maxRecDepth 1000000 in
theorem dL_law_1291 : decode code 1291 = .ok (.iconst 1, 1) := by decide +kernel
set_option maxRecDepth 1000000 in
theorem dL_law_1292 : decode code 1292 = .ok (.iadd, 1) := by decide +kernel
set_option maxRecDepth 1000000 in
theorem dL_law_1293 : decode code 1293 = .ok (.iaload, 1) := by decide +kernel
set_option maxRecDepth 1000000 in
theorem dL_law_1294 : decode code 1294 = .ok (.invokevirtual 148, 3) := by decide +kernel
set_option maxRecDepth 1000000 in
theorem dL_law_1297 : decode code 1297 = .ok (.pop, 1) := by decide +kernel
set_option maxRecDepth 1000000 in
theorem dL_law_1298 : decode code 1298 = .ok (.aload_n 2, 1) := by decide +kernel
set_option maxRecDepth 1000000 in
theorem dL_law_1299 : decode code 1299 = .ok (.aload_n 0, 1) := by decide +kernel
set_option maxRecDepth 1000000 in
theorem dL_law_1300 : decode code 1300 = .ok (.iload_n 3, 1) := by decide +kernel
set_option maxRecDepth 1000000 in
theorem dL_law_1301 : decode code 1301 = .ok (.iconst 1, 1) := by decide +kernel
set_option maxRecDepth 1000000 in
theorem dL_law_1302 : decode code 1302 = .ok (.iadd, 1) := by decide +kernel
set_option maxRecDepth 1000000 in
theorem dL_law_1303 : decode code 1303 = .ok (.iaload, 1) := by decide +kernel
set_option maxRecDepth 1000000 in
theorem dL_law_1304 : decode code 1304 = .ok (.invokevirtual 151, 3) := by decide +kernel
set_option maxRecDepth 1000000 in
theorem dL_law_1307 : decode code 1307 = .ok (.pop, 1) := by decide +kernel
set_option maxRecDepth 1000000 in
theorem dL_law_1308 : decode code 1308 = .ok (.goto 168, 3) := by decide +kernel
set_option maxRecDepth 1000000 in
theorem dL_law_1311 : decode code 1311 = .ok (.aload_n 1, 1) := by decide +kernel
set_option maxRecDepth 1000000 in
theorem dL_law_1312 : decode code 1312 = .ok (.aload_n 0, 1) := by decide +kernel
set_option maxRecDepth 1000000 in
theorem dL_law_1313 : decode code 1313 = .ok (.iload_n 3, 1) := by decide +kernel
set_option maxRecDepth 1000000 in
theorem dL_law_1314 : decode code 1314 = .ok (.iconst 1, 1) := by decide +kernel
set_option maxRecDepth 1000000 in
theorem dL_law_1315 : decode code 1315 = .ok (.iadd, 1) := by decide +kernel
set_option maxRecDepth 1000000 in
theorem dL_law_1316 : decode code 1316 = .ok (.iaload, 1) := by decide +kernel
set_option maxRecDepth 1000000 in
theorem dL_law_1317 : decode code 1317 = .ok (.aload_n 0, 1) := by decide +kernel
set_option maxRecDepth 1000000 in
theorem dL_law_1318 : decode code 1318 = .ok (.iload_n 3, 1) := by decide +kernel
set_option maxRecDepth 1000000 in
theorem dL_law_1319 : decode code 1319 = .ok (.iconst 2, 1) := by decide +kernel
set_option maxRecDepth 1000000 in
theorem dL_law_1320 : decode code 1320 = .ok (.iadd, 1) := by decide +kernel
set_option maxRecDepth 1000000 in
theorem dL_law_1321 : decode code 1321 = .ok (.iaload, 1) := by decide +kernel
set_option maxRecDepth 1000000 in
theorem dL_law_1322 : decode code 1322 = .ok (.aload_n 0, 1) := by decide +kernel
set_option maxRecDepth 1000000 in
theorem dL_law_1323 : decode code 1323 = .ok (.iload_n 3, 1) := by decide +kernel
set_option maxRecDepth 1000000 in
theorem dL_law_1324 : decode code 1324 = .ok (.iconst 3, 1) := by decide +kernel
set_option maxRecDepth 1000000 in
theorem dL_law_1325 : decode code 1325 = .ok (.iadd, 1) := by decide +kernel
set_option maxRecDepth 1000000 in
theorem dL_law_1326 : decode code 1326 = .ok (.iaload, 1) := by decide +kernel
set_option maxRecDepth 1000000 in
theorem dL_law_1327 : decode code 1327 = .ok (.invokevirtual 152, 3) := by decide +kernel
set_option maxRecDepth 1000000 in
theorem dL_law_1330 : decode code 1330 = .ok (.pop, 1) := by decide +kernel
set_option maxRecDepth 1000000 in
theorem dL_law_1331 : decode code 1331 = .ok (.aload_n 2, 1) := by decide +kernel
set_option maxRecDepth 1000000 in
theorem dL_law_1332 : decode code 1332 = .ok (.aload_n 0, 1) := by decide +kernel
set_option maxRecDepth 1000000 in
theorem dL_law_1333 : decode code 1333 = .ok (.iload_n 3, 1) := by decide +kernel
set_option maxRecDepth 1000000 in
theorem dL_law_1334 : decode code 1334 = .ok (.iconst 1, 1) := by decide +kernel
set_option maxRecDepth 1000000 in
theorem dL_law_1335 : decode code 1335 = .ok (.iadd, 1) := by decide +kernel
set_option maxRecDepth 1000000 in
theorem dL_law_1336 : decode code 1336 = .ok (.iaload, 1) := by decide +kernel
set_option maxRecDepth 1000000 in
theorem dL_law_1337 : decode code 1337 = .ok (.aload_n 0, 1) := by decide +kernel
set_option maxRecDepth 1000000 in
theorem dL_law_1338 : decode code 1338 = .ok (.iload_n 3, 1) := by decide +kernel
set_option maxRecDepth 1000000 in
theorem dL_law_1339 : decode code 1339 = .ok (.iconst 2, 1) := by decide +kernel
set_option maxRecDepth 1000000 in
theorem dL_law_1340 : decode code 1340 = .ok (.iadd, 1) := by decide +kernel
set_option maxRecDepth 1000000 in
theorem dL_law_1341 : decode code 1341 = .ok (.iaload, 1) := by decide +kernel
set_option maxRecDepth 1000000 in
theorem dL_law_1342 : decode code 1342 = .ok (.aload_n 0, 1) := by decide +kernel
set_option maxRecDepth 1000000 in
theorem dL_law_1343 : decode code 1343 = .ok (.iload_n 3, 1) := by decide +kernel
set_option maxRecDepth 1000000 in
theorem dL_law_1344 : decode code 1344 = .ok (.iconst 3, 1) := by decide +kernel
set_option maxRecDepth 1000000 in
theorem dL_law_1345 : decode code 1345 = .ok (.iadd, 1) := by decide +kernel
set_option maxRecDepth 1000000 in
theorem dL_law_1346 : decode code 1346 = .ok (.iaload, 1) := by decide +kernel
set_option maxRecDepth 1000000 in
theorem dL_law_1347 : decode code 1347 = .ok (.invokevirtual 155, 3) := by decide +kernel
set_option maxRecDepth 1000000 in
theorem dL_law_1350 : decode code 1350 = .ok (.pop, 1) := by decide +kernel
set_option maxRecDepth 1000000 in
theorem dL_law_1351 : decode code 1351 = .ok (.goto 125, 3) := by decide +kernel
set_option maxRecDepth 1000000 in
theorem dL_law_1354 : decode code 1354 = .ok (.aload_n 1, 1) := by decide +kernel
set_option maxRecDepth 1000000 in
theorem dL_law_1355 : decode code 1355 = .ok (.aload_n 0, 1) := by decide +kernel
set_option maxRecDepth 1000000 in
theorem dL_law_1356 : decode code 1356 = .ok (.iload_n 3, 1) := by decide +kernel
set_option maxRecDepth 1000000 in
theorem dL_law_1357 : decode code 1357 = .ok (.iconst 1, 1) := by decide +kernel
set_option maxRecDepth 1000000 in
theorem dL_law_1358 : decode code 1358 = .ok (.iadd, 1) := by decide +kernel
set_option maxRecDepth 1000000 in
theorem dL_law_1359 : decode code 1359 = .ok (.iaload, 1) := by decide +kernel
set_option maxRecDepth 1000000 in
theorem dL_law_1360 : decode code 1360 = .ok (.aload_n 0, 1) := by decide +kernel
set_option maxRecDepth 1000000 in
theorem dL_law_1361 : decode code 1361 = .ok (.iload_n 3, 1) := by decide +kernel
set_option maxRecDepth 1000000 in
theorem dL_law_1362 : decode code 1362 = .ok (.iconst 2, 1) := by decide +kernel
set_option maxRecDepth 1000000 in
theorem dL_law_1363 : decode code 1363 = .ok (.iadd, 1) := by decide +kernel
set_option maxRecDepth 1000000 in
theorem dL_law_1364 : decode code 1364 = .ok (.iaload, 1) := by decide +kernel
set_option maxRecDepth 1000000 in
theorem dL_law_1365 : decode code 1365 = .ok (.invokevirtual 156, 3) := by decide +kernel
set_option maxRecDepth 1000000 in
theorem dL_law_1368 : decode code 1368 = .ok (.pop, 1) := by decide +kernel
set_option maxRecDepth 1000000 in
theorem dL_law_1369 : decode code 1369 = .ok (.aload_n 2, 1) := by decide +kernel
set_option maxRecDepth 1000000 in
theorem dL_law_1370 : decode code 1370 = .ok (.aload_n 0, 1) := by decide +kernel
set_option maxRecDepth 1000000 in
theorem dL_law_1371 : decode code 1371 = .ok (.iload_n 3, 1) := by decide +kernel
set_option maxRecDepth 1000000 in
theorem dL_law_1372 : decode code 1372 = .ok (.iconst 1, 1) := by decide +kernel
set_option maxRecDepth 1000000 in
theorem dL_law_1373 : decode code 1373 = .ok (.iadd, 1) := by decide +kernel
set_option maxRecDepth 1000000 in
theorem dL_law_1374 : decode code 1374 = .ok (.iaload, 1) := by decide +kernel
set_option maxRecDepth 1000000 in
theorem dL_law_1375 : decode code 1375 = .ok (.aload_n 0, 1) := by decide +kernel
set_option maxRecDepth 1000000 in
theorem dL_law_1376 : decode code 1376 = .ok (.iload_n 3, 1) := by decide +kernel
set_option maxRecDepth 1000000 in
theorem dL_law_1377 : decode code 1377 = .ok (.iconst 2, 1) := by decide +kernel
set_option maxRecDepth 1000000 in
theorem dL_law_1378 : decode code 1378 = .ok (.iadd, 1) := by decide +kernel
set_option maxRecDepth 1000000 in
theorem dL_law_1379 : decode code 1379 = .ok (.iaload, 1) := by decide +kernel
set_option maxRecDepth 1000000 in
theorem dL_law_1380 : decode code 1380 = .ok (.invokevirtual 159, 3) := by decide +kernel
set_option maxRecDepth 1000000 in
theorem dL_law_1383 : decode code 1383 = .ok (.pop, 1) := by decide +kernel
set_option maxRecDepth 1000000 in
theorem dL_law_1384 : decode code 1384 = .ok (.goto 92, 3) := by decide +kernel
set_option maxRecDepth 1000000 in
theorem dL_law_1387 : decode code 1387 = .ok (.aload_n 1, 1) := by decide +kernel
set_option maxRecDepth 1000000 in
theorem dL_law_1388 : decode code 1388 = .ok (.aload_n 0, 1) := by decide +kernel
set_option maxRecDepth 1000000 in
theorem dL_law_1389 : decode code 1389 = .ok (.iload_n 3, 1) := by decide +kernel
set_option maxRecDepth 1000000 in
theorem dL_law_1390 : decode code 1390 = .ok (.iconst 1, 1) := by decide +kernel
set_option maxRecDepth 1000000 in
theorem dL_law_1391 : decode code 1391 = .ok (.iadd, 1) := by decide +kernel
set_option maxRecDepth 1000000 in
theorem dL_law_1392 : decode code 1392 = .ok (.iaload, 1) := by decide +kernel
set_option maxRecDepth 1000000 in
theorem dL_law_1393 : decode code 1393 = .ok (.invokevirtual 160, 3) := by decide +kernel
set_option maxRecDepth 1000000 in
theorem dL_law_1396 : decode code 1396 = .ok (.pop, 1) := by decide +kernel
set_option maxRecDepth 1000000 in
theorem dL_law_1397 : decode code 1397 = .ok (.aload_n 2, 1) := by decide +kernel
set_option maxRecDepth 1000000 in
theorem dL_law_1398 : decode code 1398 = .ok (.aload_n 0, 1) := by decide +kernel
set_option maxRecDepth 1000000 in
theorem dL_law_1399 : decode code 1399 = .ok (.iload_n 3, 1) := by decide +kernel
set_option maxRecDepth 1000000 in
theorem dL_law_1400 : decode code 1400 = .ok (.iconst 1, 1) := by decide +kernel
set_option maxRecDepth 1000000 in
theorem dL_law_1401 : decode code 1401 = .ok (.iadd, 1) := by decide +kernel
set_option maxRecDepth 1000000 in
theorem dL_law_1402 : decode code 1402 = .ok (.iaload, 1) := by decide +kernel
set_option maxRecDepth 1000000 in
theorem dL_law_1403 : decode code 1403 = .ok (.invokevirtual 163, 3) := by decide +kernel
set_option maxRecDepth 1000000 in
theorem dL_law_1406 : decode code 1406 = .ok (.pop, 1) := by decide +kernel
set_option maxRecDepth 1000000 in
theorem dL_law_1407 : decode code 1407 = .ok (.goto 69, 3) := by decide +kernel
set_option maxRecDepth 1000000 in
theorem dL_law_1410 : decode code 1410 = .ok (.aload_n 1, 1) := by decide +kernel
set_option maxRecDepth 1000000 in
theorem dL_law_1411 : decode code 1411 = .ok (.aload_n 0, 1) := by decide +kernel
set_option maxRecDepth 1000000 in
theorem dL_law_1412 : decode code 1412 = .ok (.iload_n 3, 1) := by decide +kernel
set_option maxRecDepth 1000000 in
theorem dL_law_1413 : decode code 1413 = .ok (.iconst 1, 1) := by decide +kernel
set_option maxRecDepth 1000000 in
theorem dL_law_1414 : decode code 1414 = .ok (.iadd, 1) := by decide +kernel
set_option maxRecDepth 1000000 in
theorem dL_law_1415 : decode code 1415 = .ok (.iaload, 1) := by decide +kernel
set_option maxRecDepth 1000000 in
theorem dL_law_1416 : decode code 1416 = .ok (.aload_n 0, 1) := by decide +kernel
set_option maxRecDepth 1000000 in
theorem dL_law_1417 : decode code 1417 = .ok (.iload_n 3, 1) := by decide +kernel
set_option maxRecDepth 1000000 in
theorem dL_law_1418 : decode code 1418 = .ok (.iconst 2, 1) := by decide +kernel
set_option maxRecDepth 1000000 in
theorem dL_law_1419 : decode code 1419 = .ok (.iadd, 1) := by decide +kernel
set_option maxRecDepth 1000000 in
theorem dL_law_1420 : decode code 1420 = .ok (.iaload, 1) := by decide +kernel
set_option maxRecDepth 1000000 in
theorem dL_law_1421 : decode code 1421 = .ok (.aload_n 0, 1) := by decide +kernel
set_option maxRecDepth 1000000 in
theorem dL_law_1422 : decode code 1422 = .ok (.iload_n 3, 1) := by decide +kernel
set_option maxRecDepth 1000000 in
theorem dL_law_1423 : decode code 1423 = .ok (.iconst 3, 1) := by decide +kernel
set_option maxRecDepth 1000000 in
theorem dL_law_1424 : decode code 1424 = .ok (.iadd, 1) := by decide +kernel
set_option maxRecDepth 1000000 in
theorem dL_law_1425 : decode code 1425 = .ok (.iaload, 1) := by decide +kernel
set_option maxRecDepth 1000000 in
theorem dL_law_1426 : decode code 1426 = .ok (.invokevirtual 164, 3) := by decide +kernel
set_option maxRecDepth 1000000 in
theorem dL_law_1429 : decode code 1429 = .ok (.pop, 1) := by decide +kernel
set_option maxRecDepth 1000000 in
theorem dL_law_1430 : decode code 1430 = .ok (.aload_n 2, 1) := by decide +kernel
set_option maxRecDepth 1000000 in
theorem dL_law_1431 : decode code 1431 = .ok (.aload_n 0, 1) := by decide +kernel
set_option maxRecDepth 1000000 in
theorem dL_law_1432 : decode code 1432 = .ok (.iload_n 3, 1) := by decide +kernel
set_option maxRecDepth 1000000 in
theorem dL_law_1433 : decode code 1433 = .ok (.iconst 1, 1) := by decide +kernel
set_option maxRecDepth 1000000 in
theorem dL_law_1434 : decode code 1434 = .ok (.iadd, 1) := by decide +kernel
set_option maxRecDepth 1000000 in
theorem dL_law_1435 : decode code 1435 = .ok (.iaload, 1) := by decide +kernel
set_option maxRecDepth 1000000 in
theorem dL_law_1436 : decode code 1436 = .ok (.aload_n 0, 1) := by decide +kernel
set_option maxRecDepth 1000000 in
theorem dL_law_1437 : decode code 1437 = .ok (.iload_n 3, 1) := by decide +kernel
set_option maxRecDepth 1000000 in
theorem dL_law_1438 : decode code 1438 = .ok (.iconst 2, 1) := by decide +kernel
set_option maxRecDepth 1000000 in
theorem dL_law_1439 : decode code 1439 = .ok (.iadd, 1) := by decide +kernel
set_option maxRecDepth 1000000 in
theorem dL_law_1440 : decode code 1440 = .ok (.iaload, 1) := by decide +kernel
set_option maxRecDepth 1000000 in
theorem dL_law_1441 : decode code 1441 = .ok (.aload_n 0, 1) := by decide +kernel
set_option maxRecDepth 1000000 in
theorem dL_law_1442 : decode code 1442 = .ok (.iload_n 3, 1) := by decide +kernel
set_option maxRecDepth 1000000 in
theorem dL_law_1443 : decode code 1443 = .ok (.iconst 3, 1) := by decide +kernel
set_option maxRecDepth 1000000 in
theorem dL_law_1444 : decode code 1444 = .ok (.iadd, 1) := by decide +kernel
set_option maxRecDepth 1000000 in
theorem dL_law_1445 : decode code 1445 = .ok (.iaload, 1) := by decide +kernel
set_option maxRecDepth 1000000 in
theorem dL_law_1446 : decode code 1446 = .ok (.invokevirtual 167, 3) := by decide +kernel
set_option maxRecDepth 1000000 in
theorem dL_law_1449 : decode code 1449 = .ok (.pop, 1) := by decide +kernel
set_option maxRecDepth 1000000 in
theorem dL_law_1450 : decode code 1450 = .ok (.goto 26, 3) := by decide +kernel
set_option maxRecDepth 1000000 in
theorem dL_law_1453 : decode code 1453 = .ok (.aload_n 1, 1) := by decide +kernel
set_option maxRecDepth 1000000 in
theorem dL_law_1454 : decode code 1454 = .ok (.aload_n 0, 1) := by decide +kernel
set_option maxRecDepth 1000000 in
theorem dL_law_1455 : decode code 1455 = .ok (.iload_n 3, 1) := by decide +kernel
set_option maxRecDepth 1000000 in
theorem dL_law_1456 : decode code 1456 = .ok (.iconst 1, 1) := by decide +kernel
set_option maxRecDepth 1000000 in
theorem dL_law_1457 : decode code 1457 = .ok (.iadd, 1) := by decide +kernel
set_option maxRecDepth 1000000 in
theorem dL_law_1458 : decode code 1458 = .ok (.iaload, 1) := by decide +kernel
set_option maxRecDepth 1000000 in
theorem dL_law_1459 : decode code 1459 = .ok (.invokevirtual 168, 3) := by decide +kernel
set_option maxRecDepth 1000000 in
theorem dL_law_1462 : decode code 1462 = .ok (.pop, 1) := by decide +kernel
set_option maxRecDepth 1000000 in
theorem dL_law_1463 : decode code 1463 = .ok (.aload_n 2, 1) := by decide +kernel
set_option maxRecDepth 1000000 in
theorem dL_law_1464 : decode code 1464 = .ok (.aload_n 0, 1) := by decide +kernel
set_option maxRecDepth 1000000 in
theorem dL_law_1465 : decode code 1465 = .ok (.iload_n 3, 1) := by decide +kernel
set_option maxRecDepth 1000000 in
theorem dL_law_1466 : decode code 1466 = .ok (.iconst 1, 1) := by decide +kernel
set_option maxRecDepth 1000000 in
theorem dL_law_1467 : decode code 1467 = .ok (.iadd, 1) := by decide +kernel
set_option maxRecDepth 1000000 in
theorem dL_law_1468 : decode code 1468 = .ok (.iaload, 1) := by decide +kernel
set_option maxRecDepth 1000000 in
theorem dL_law_1469 : decode code 1469 = .ok (.invokevirtual 171, 3) := by decide +kernel
set_option maxRecDepth 1000000 in
theorem dL_law_1472 : decode code 1472 = .ok (.pop, 1) := by decide +kernel
set_option maxRecDepth 1000000 in
theorem dL_law_1473 : decode code 1473 = .ok (.goto 3, 3) := by decide +kernel
set_option maxRecDepth 1000000 in
theorem dL_law_1476 : decode code 1476 = .ok (.iinc 3 6, 3) := by decide +kernel
set_option maxRecDepth 1000000 in
theorem dL_law_1479 : decode code 1479 = .ok (.goto (-1461), 3) := by decide +kernel
set_option maxRecDepth 1000000 in
theorem dL_law_1482 : decode code 1482 = .ok (.iconst 1, 1) := by decide +kernel
set_option maxRecDepth 1000000 in
theorem dL_law_1483 : decode code 1483 = .ok (.ireturn, 1) := by decide +kernel
