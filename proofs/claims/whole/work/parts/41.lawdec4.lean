theorem d_L_law_1244 : decode code 1244 = .ok (.iaload, 1) := by decide +kernel
theorem d_L_law_1245 : decode code 1245 = .ok (.i2l, 1) := by decide +kernel
theorem d_L_law_1246 : decode code 1246 = .ok (.bipush 32, 2) := by decide +kernel
theorem d_L_law_1248 : decode code 1248 = .ok (.lshl, 1) := by decide +kernel
theorem d_L_law_1249 : decode code 1249 = .ok (.aload_n 0, 1) := by decide +kernel
theorem d_L_law_1250 : decode code 1250 = .ok (.iload 4, 2) := by decide +kernel
theorem d_L_law_1252 : decode code 1252 = .ok (.iconst 4, 1) := by decide +kernel
theorem d_L_law_1253 : decode code 1253 = .ok (.iadd, 1) := by decide +kernel
theorem d_L_law_1254 : decode code 1254 = .ok (.iaload, 1) := by decide +kernel
theorem d_L_law_1255 : decode code 1255 = .ok (.i2l, 1) := by decide +kernel
theorem d_L_law_1256 : decode code 1256 = .ok (.ldc2_w 151, 3) := by decide +kernel
theorem d_L_law_1259 : decode code 1259 = .ok (.land, 1) := by decide +kernel
theorem d_L_law_1260 : decode code 1260 = .ok (.lor, 1) := by decide +kernel
theorem d_L_law_1261 : decode code 1261 = .ok (.invokevirtual 156, 3) := by decide +kernel
theorem d_L_law_1264 : decode code 1264 = .ok (.lstore 6, 2) := by decide +kernel
theorem d_L_law_1266 : decode code 1266 = .ok (.aload_n 2, 1) := by decide +kernel
theorem d_L_law_1267 : decode code 1267 = .ok (.invokevirtual 90, 3) := by decide +kernel
theorem d_L_law_1270 : decode code 1270 = .ok (.iload 5, 2) := by decide +kernel
theorem d_L_law_1272 : decode code 1272 = .ok (.if_icmp .eq 5, 3) := by decide +kernel
theorem d_L_law_1275 : decode code 1275 = .ok (.iconst 0, 1) := by decide +kernel
theorem d_L_law_1276 : decode code 1276 = .ok (.ireturn, 1) := by decide +kernel
theorem d_L_law_1277 : decode code 1277 = .ok (.iload 5, 2) := by decide +kernel
theorem d_L_law_1279 : decode code 1279 = .ok (.ifCond .ne 14, 3) := by decide +kernel
theorem d_L_law_1282 : decode code 1282 = .ok (.aload_n 3, 1) := by decide +kernel
theorem d_L_law_1283 : decode code 1283 = .ok (.iconst 0, 1) := by decide +kernel
theorem d_L_law_1284 : decode code 1284 = .ok (.laload, 1) := by decide +kernel
theorem d_L_law_1285 : decode code 1285 = .ok (.lload 6, 2) := by decide +kernel
theorem d_L_law_1287 : decode code 1287 = .ok (.lcmp, 1) := by decide +kernel
theorem d_L_law_1288 : decode code 1288 = .ok (.ifCond .eq 5, 3) := by decide +kernel
theorem d_L_law_1291 : decode code 1291 = .ok (.iconst 0, 1) := by decide +kernel
theorem d_L_law_1292 : decode code 1292 = .ok (.ireturn, 1) := by decide +kernel
theorem d_L_law_1293 : decode code 1293 = .ok (.goto 73, 3) := by decide +kernel
theorem d_L_law_1296 : decode code 1296 = .ok (.aload_n 1, 1) := by decide +kernel
theorem d_L_law_1297 : decode code 1297 = .ok (.aload_n 0, 1) := by decide +kernel
theorem d_L_law_1298 : decode code 1298 = .ok (.iload 4, 2) := by decide +kernel
theorem d_L_law_1300 : decode code 1300 = .ok (.iconst 1, 1) := by decide +kernel
theorem d_L_law_1301 : decode code 1301 = .ok (.iadd, 1) := by decide +kernel
theorem d_L_law_1302 : decode code 1302 = .ok (.iaload, 1) := by decide +kernel
theorem d_L_law_1303 : decode code 1303 = .ok (.aload_n 3, 1) := by decide +kernel
theorem d_L_law_1304 : decode code 1304 = .ok (.invokestatic 157, 3) := by decide +kernel
theorem d_L_law_1307 : decode code 1307 = .ok (.istore 5, 2) := by decide +kernel
theorem d_L_law_1309 : decode code 1309 = .ok (.aload_n 2, 1) := by decide +kernel
theorem d_L_law_1310 : decode code 1310 = .ok (.aload_n 0, 1) := by decide +kernel
theorem d_L_law_1311 : decode code 1311 = .ok (.iload 4, 2) := by decide +kernel
theorem d_L_law_1313 : decode code 1313 = .ok (.iconst 1, 1) := by decide +kernel
theorem d_L_law_1314 : decode code 1314 = .ok (.iadd, 1) := by decide +kernel
theorem d_L_law_1315 : decode code 1315 = .ok (.iaload, 1) := by decide +kernel
theorem d_L_law_1316 : decode code 1316 = .ok (.invokevirtual 159, 3) := by decide +kernel
theorem d_L_law_1319 : decode code 1319 = .ok (.istore 6, 2) := by decide +kernel
theorem d_L_law_1321 : decode code 1321 = .ok (.aload_n 2, 1) := by decide +kernel
theorem d_L_law_1322 : decode code 1322 = .ok (.invokevirtual 90, 3) := by decide +kernel
theorem d_L_law_1325 : decode code 1325 = .ok (.iload 5, 2) := by decide +kernel
theorem d_L_law_1327 : decode code 1327 = .ok (.if_icmp .eq 5, 3) := by decide +kernel
theorem d_L_law_1330 : decode code 1330 = .ok (.iconst 0, 1) := by decide +kernel
theorem d_L_law_1331 : decode code 1331 = .ok (.ireturn, 1) := by decide +kernel
theorem d_L_law_1332 : decode code 1332 = .ok (.iload 5, 2) := by decide +kernel
theorem d_L_law_1334 : decode code 1334 = .ok (.ifCond .ne 15, 3) := by decide +kernel
theorem d_L_law_1337 : decode code 1337 = .ok (.aload_n 3, 1) := by decide +kernel
theorem d_L_law_1338 : decode code 1338 = .ok (.iconst 0, 1) := by decide +kernel
theorem d_L_law_1339 : decode code 1339 = .ok (.laload, 1) := by decide +kernel
theorem d_L_law_1340 : decode code 1340 = .ok (.iload 6, 2) := by decide +kernel
theorem d_L_law_1342 : decode code 1342 = .ok (.i2l, 1) := by decide +kernel
theorem d_L_law_1343 : decode code 1343 = .ok (.lcmp, 1) := by decide +kernel
theorem d_L_law_1344 : decode code 1344 = .ok (.ifCond .eq 5, 3) := by decide +kernel
theorem d_L_law_1347 : decode code 1347 = .ok (.iconst 0, 1) := by decide +kernel
theorem d_L_law_1348 : decode code 1348 = .ok (.ireturn, 1) := by decide +kernel
theorem d_L_law_1349 : decode code 1349 = .ok (.goto 17, 3) := by decide +kernel
theorem d_L_law_1352 : decode code 1352 = .ok (.aload_n 1, 1) := by decide +kernel
theorem d_L_law_1353 : decode code 1353 = .ok (.invokevirtual 160, 3) := by decide +kernel
theorem d_L_law_1356 : decode code 1356 = .ok (.aload_n 2, 1) := by decide +kernel
theorem d_L_law_1357 : decode code 1357 = .ok (.invokevirtual 163, 3) := by decide +kernel
theorem d_L_law_1360 : decode code 1360 = .ok (.lcmp, 1) := by decide +kernel
theorem d_L_law_1361 : decode code 1361 = .ok (.ifCond .eq 5, 3) := by decide +kernel
theorem d_L_law_1364 : decode code 1364 = .ok (.iconst 0, 1) := by decide +kernel
theorem d_L_law_1365 : decode code 1365 = .ok (.ireturn, 1) := by decide +kernel
theorem d_L_law_1366 : decode code 1366 = .ok (.iinc 4 5, 3) := by decide +kernel
theorem d_L_law_1369 : decode code 1369 = .ok (.goto (-1346), 3) := by decide +kernel
theorem d_L_law_1372 : decode code 1372 = .ok (.iconst 1, 1) := by decide +kernel
theorem d_L_law_1373 : decode code 1373 = .ok (.ireturn, 1) := by decide +kernel
